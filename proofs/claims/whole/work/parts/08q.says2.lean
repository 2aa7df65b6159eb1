/-! says and nearest in the class -/
theorem fill_35 {nh : Nat} {P : Sp} {S : St} (hs : CSp 19 nh P S) (hn : nh ≤ 6) {h : Nat} (hh : h < nh) : ∃ S', jSuppers_fill_35 (nI h) S = some S' ∧ o35 S S' ∧ (∀ g, g < 5 → S'.1 35 g = nI (P.L h g)) := by
  refine for_up (F := fun n i (q : St) => jSuppers_fill_35_h2 n (nI h) (nI i) q) (N := 5) (I := fun i q => o35 S q ∧ ∀ g, g < i → q.1 35 g = nI (P.L h g)) _ ?_ ?_ (i := 0) (s := S) (Nat.zero_le _) ⟨o35.rf S, fun g hg => by omega⟩ (n := FU) (by decide)
  · intro n i q hi ⟨h1, h2⟩
    right
    rw [jSuppers_fill_35_h2, jSuppers_fill_35_b2, z5, if_neg (nI_ge hi (by decide)), stock_ok (hs.same h1.pr.1 (by omega)) hn hh hi, px_bd, px_gd hi (by decide), px_lt, nI_clamp (by omega), z1, nI_add]
    refine ⟨_, rfl, h1.up, fun g hg => ?_⟩
    rw [upI_at]
    by_cases c : g = i
    · rw [if_pos ⟨rfl, c⟩, c]
    · rw [if_neg (fun z => c z.2), h2 g (by omega)]
  · intro n q ⟨h1, h2⟩
    rw [jSuppers_fill_35_h2, jSuppers_fill_35_b2, z5, if_pos (nI_le (Nat.le_refl _) (by decide))]
    exact ⟨_, rfl, h1, h2⟩
/-- the words that are told: a word, then words or nothing -/
def toldN (x2 x3 : Int32) : Nat := if x2 = -1 then 1 else if x3 = -1 then 2 else 3
def wordsN (x1 x2 x3 : Int32) (p : Nat) : Nat := match p with
  | 0 => x1.toNatClampNeg
  | 1 => x2.toNatClampNeg
  | _ => x3.toNatClampNeg
def selI (x1 x2 x3 : Int32) (p : Nat) : Int32 := match p with
  | 0 => x1
  | 1 => x2
  | _ => x3
def rowOk (x1 x2 x3 : Int32) : Prop := rg x1 8 ∧ ((x2 = -1 ∧ x3 = -1) ∨ (rg x2 8 ∧ (x3 = -1 ∨ rg x3 8)))
theorem rg_n1 {n : Nat} : ¬ rg (-1) n := fun z => z.1 (by decide)
theorem isRow_t {x1 x2 x3 : Int32} {S : St} (h : rowOk x1 x2 x3) : jSmoke_isRow x1 x2 x3 S = some (1, S) := by
  obtain ⟨h1, h2⟩ := h
  obtain ⟨a, ha, rfl⟩ := rg_of h1 (by omega)
  unfold jSmoke_isRow
  rw [isWord_t ha, px_bd, if_neg n10]
  rcases h2 with ⟨e2, e3⟩ | ⟨q2, q3⟩
  · rw [if_pos e2, if_pos e3, px_n1]
  · obtain ⟨b, hb, rfl⟩ := rg_of q2 (by omega)
    rw [if_neg (nI_nm1 (by omega)), isWord_t hb, px_bd, if_neg n10]
    rcases q3 with e3 | q3
    · rw [if_pos e3, px_n1]
    · obtain ⟨c, hc, rfl⟩ := rg_of q3 (by omega)
      rw [if_neg (nI_nm1 (by omega)), isWord_t hc, px_bd, if_neg n10, px_n1]
theorem isRow_f {x1 x2 x3 : Int32} {S : St} (h : ¬ rowOk x1 x2 x3) : jSmoke_isRow x1 x2 x3 S = some (0, S) := by
  unfold jSmoke_isRow
  by_cases h1 : rg x1 8
  · obtain ⟨a, ha, rfl⟩ := rg_of h1 (by omega)
    rw [isWord_t ha, px_bd, if_neg n10]
    by_cases e2 : x2 = -1
    · rw [if_pos e2]
      by_cases e3 : x3 = -1
      · exact absurd ⟨h1, Or.inl ⟨e2, e3⟩⟩ h
      · rw [if_neg e3, px_n0]
    · rw [if_neg e2]
      by_cases q2 : rg x2 8
      · obtain ⟨b, hb, rfl⟩ := rg_of q2 (by omega)
        rw [isWord_t hb, px_bd, if_neg n10]
        by_cases e3 : x3 = -1
        · exact absurd ⟨h1, Or.inr ⟨q2, Or.inl e3⟩⟩ h
        · rw [if_neg e3]
          by_cases q3 : rg x3 8
          · exact absurd ⟨h1, Or.inr ⟨q2, Or.inr q3⟩⟩ h
          · rw [isWord_f q3, px_bd, if_pos rfl, px_n0]
      · rw [isWord_f q2, px_bd, if_pos rfl, px_n0]
  · rw [isWord_f h1, px_bd, if_pos rfl, px_n0]
theorem told_le {x2 x3 : Int32} : 1 ≤ toldN x2 x3 ∧ toldN x2 x3 ≤ 3 := by
  unfold toldN
  repeat' split
  all_goals omega
theorem words_ok {x1 x2 x3 : Int32} (h : rowOk x1 x2 x3) {p : Nat} (hp : p < toldN x2 x3) : wordsN x1 x2 x3 p < 8 ∧ selI x1 x2 x3 p = nI (wordsN x1 x2 x3 p) := by
  obtain ⟨h1, h2⟩ := h
  obtain ⟨a, ha, rfl⟩ := rg_of h1 (by omega)
  have hl := (told_le (x2 := x2) (x3 := x3)).2
  unfold toldN at hp hl
  match p with
  | 0 => exact ⟨by simp only [wordsN]; rw [nI_clamp (by omega)]; exact ha, by simp only [wordsN, selI]; rw [nI_clamp (by omega)]⟩
  | 1 =>
    by_cases e2 : x2 = -1
    · rw [if_pos e2] at hp; omega
    · rcases h2 with z | ⟨q2, -⟩
      · exact absurd z.1 e2
      · obtain ⟨b, hb, rfl⟩ := rg_of q2 (by omega)
        exact ⟨by simp only [wordsN]; rw [nI_clamp (by omega)]; exact hb, by simp only [wordsN, selI]; rw [nI_clamp (by omega)]⟩
  | p + 2 =>
    by_cases e2 : x2 = -1
    · rw [if_pos e2] at hp; omega
    · rw [if_neg e2] at hp
      by_cases e3 : x3 = -1
      · rw [if_pos e3] at hp; omega
      · rcases h2 with z | ⟨-, q3⟩
        · exact absurd z.1 e2
        · rcases q3 with z | q3
          · exact absurd z e3
          · obtain ⟨b, hb, rfl⟩ := rg_of q3 (by omega)
            exact ⟨by simp only [wordsN]; rw [nI_clamp (by omega)]; exact hb, by simp only [wordsN, selI]; rw [nI_clamp (by omega)]⟩
def askRq (x1 x2 x3 : Int32) (mk : Nat) : Rq := fun p => if p < toldN x2 x3 ∧ mk.testBit p = true then some (wordsN x1 x2 x3 p % 8) else none
theorem ask_ok {x1 x2 x3 : Int32} {mk : Nat} (hm : mk < 8) : Ask (askRq x1 x2 x3 mk) (toldN x2 x3) mk (fun p => wordsN x1 x2 x3 p % 8) := ⟨told_le.2, hm, fun p _ => Nat.mod_lt _ (by decide), fun p _ => rfl⟩
theorem hear_ok {x1 x2 x3 : Int32} {S : St} (h : rowOk x1 x2 x3) : ∃ S', jSpeech_hear x1 x2 x3 S = some S' ∧ Same S S' ∧ S'.1 31 4 = nI (toldN x2 x3) ∧ ∀ p, p < toldN x2 x3 → S'.1 32 p = nI (wordsN x1 x2 x3 p % 8) := by
  have hl := (told_le (x2 := x2) (x3 := x3)).2
  have hb : ∀ s0, s0 = nI (toldN x2 x3) → ∃ S', jSpeech_hear_b41 s0 (upI (upI (upI S 32 0 x1) 32 1 x2) 32 2 x3) = some S' ∧ Same S S' ∧ S'.1 31 4 = nI (toldN x2 x3) ∧ ∀ p, p < toldN x2 x3 → S'.1 32 p = nI (wordsN x1 x2 x3 p % 8) := fun s0 hs0 => by
    unfold jSpeech_hear_b41
    rw [px_lt]
    refine ⟨_, rfl, (((((Same.rf S).up (by omega)).up (by omega)).up (by omega)).up (by omega)), by rw [upI_hit, hs0], fun p hp => ?_⟩
    obtain ⟨w1, w2⟩ := words_ok h hp
    rw [upI_row (by omega), Nat.mod_eq_of_lt w1, ← w2, upI_at, upI_at, upI_at]
    match p, (show p < 3 by omega) with
    | 0, _ => simp [selI]
    | 1, _ => simp [selI]
    | 2, _ => simp [selI]
  unfold jSpeech_hear
  rw [show x_gd 3 0 = x_gd (β := St) 3 (nI 0) from rfl, px_gd (by omega) (by omega), px_lt, show x_gd 3 1 = x_gd (β := St) 3 (nI 1) from rfl, px_gd (by omega) (by omega), px_lt, show x_gd 3 2 = x_gd (β := St) 3 (nI 2) from rfl, px_gd (by omega) (by omega), px_lt]
  by_cases e2 : x2 = -1
  · rw [if_pos e2]
    exact hb 1 (by unfold toldN; rw [if_pos e2]; rfl)
  · rw [if_neg e2]
    by_cases e3 : x3 = -1
    · rw [if_pos e3]
      exact hb 2 (by unfold toldN; rw [if_neg e2, if_pos e3]; rfl)
    · rw [if_neg e3]
      exact hb 3 (by unfold toldN; rw [if_neg e2, if_neg e3]; rfl)
theorem best_lt {N : Mn} (hw : WMn N) {L : Nat → Nat} {rq : Rq} : ∀ {c : Nat} {q : Nat × Nat}, bestN N L rq c = some q → q.1 < 1000 ∧ q.2 < c ∧ rowB N rq q.2 = true
  | 0, q, h => by cases h
  | c + 1, q, h => by
    by_cases e : (rowB N rq c && stB N L c) = true
    · have e' := e
      rw [Bool.and_eq_true] at e'
      rw [best_t e'.1 e'.2] at h
      have hu : uOf N c < 1000 := by
        have z := e'.1
        simp only [rowB, Bool.and_eq_true, okB_t] at z
        have a0 := (uu8_lt hw z.1.1).1
        have a1 := (uu8_lt hw z.1.2).1
        have a2 := (uu8_lt hw z.2).1
        unfold uOf
        omega
      unfold betN at h
      cases e2 : bestN N L rq c with
      | none =>
        rw [e2] at h
        cases h
        exact ⟨hu, by show c < c + 1; omega, e'.1⟩
      | some q2 =>
        rw [e2] at h
        dsimp only at h
        have ih := best_lt hw e2
        split at h
        · cases h
          exact ⟨hu, by show c < c + 1; omega, e'.1⟩
        · cases h
          exact ⟨ih.1, by omega, ih.2.2⟩
    · rw [best_f e] at h
      have ih := best_lt hw h
      exact ⟨ih.1, by omega, ih.2.2⟩
def fewOf (b : Option (Nat × Nat)) : Int32 := match b with
  | none => -9
  | some q => nI q.1
theorem few_ok {N : Mn} {L : Nat → Nat} {rq : Rq} {T mk : Nat} {w : Nat → Nat} {S0 : St} (hm : CMn 14 N S0) (hw : WMn N) (hA : Ask rq T mk w) (h31 : S0.1 31 4 = nI T) (h32 : ∀ p, p < T → S0.1 32 p = nI (w p)) (hL : ∀ k, k < 5 → L k < 1000) {S : St} (hp : Pr S0 S) (h35 : ∀ k, k < 5 → S.1 35 k = nI (L k)) :
    ∃ S', jSpeech_fewestUnits (nI mk) S = some (fewOf (bestN N L rq 729), S') ∧ Pr S0 S' ∧ (∀ k, k < 5 → S'.1 35 k = nI (L k)) ∧ FW rq (bestN N L rq 729) S' := by
  unfold jSpeech_fewestUnits
  rw [px_lt]
  obtain ⟨S', e, q1, -, q3, q4⟩ := ch0 hm hw hA h31 h32 hL (fun k _ => Nat.zero_le _) (S := upI S 31 5 (-9)) (hp.up (by omega)) trivial (fun k hk => (upI_row (by omega)).trans (h35 k hk)) (show (upI S 31 5 (-9)).1 31 5 = -9 from upI_hit)
  have e : jSpeech_choose_5 0 (nI mk) 0 (upI S 31 5 (-9)) = some S' := e
  rw [e, px_bv]
  have q4 : FW rq (bestN N L rq 729) S' := q4
  refine ⟨S', ?_, q1, fun k hk => (q3 k hk).trans ((upI_row (by omega)).trans (h35 k hk)), q4⟩
  cases e2 : bestN N L rq 729 with
  | none =>
    rw [e2] at q4
    rw [show S'.1 31 5 = -9 from q4]
    rfl
  | some q =>
    rw [e2] at q4
    rw [q4.1]
    rfl
def bestOf (g : Gh) (h : Nat) (x1 x2 x3 : Int32) (mk : Nat) : Option (Nat × Nat) := bestN g.mn (g.now.L h) (askRq x1 x2 x3 mk) 729
theorem rowOk_dec (x1 x2 x3 : Int32) : rowOk x1 x2 x3 ∨ ¬ rowOk x1 x2 x3 := Classical.em _
/-- what a house says: by the words, and the place that is asked of -/
def sSays (g : Gh) (h x1 x2 x3 k : Int32) : Int32 :=
  if rg h g.nh then if rg x1 8 ∧ ((x2 = -1 ∧ x3 = -1) ∨ (rg x2 8 ∧ (x3 = -1 ∨ rg x3 8))) then if k = -1 ∨ rg k 3 then
    match bestOf g h.toNatClampNeg x1 x2 x3 7 with
    | none => -9
    | some q => if k = -1 then nI q.1 else if toldN x2 x3 ≤ k.toNatClampNeg then -5 else nI (dig q.2 k.toNatClampNeg)
  else -1 else -1 else -1
theorem k3_of {k : Int32} (h : ¬ k < -1) (h3 : k < 3) : k = -1 ∨ rg k 3 := by
  by_cases c : k < 0
  · left
    have h1 : -1 ≤ k.toInt := by
      have : ¬ k.toInt < (-1 : Int32).toInt := fun z => h (Int32.lt_iff_toInt_lt.mpr z)
      have e : (-1 : Int32).toInt = -1 := by decide
      omega
    have h2 : k.toInt < 0 := by
      have := Int32.lt_iff_toInt_lt.mp c
      have e : (0 : Int32).toInt = 0 := by decide
      omega
    apply Int32.toInt_inj.mp
    have e : (-1 : Int32).toInt = -1 := by decide
    omega
  · right
    exact ⟨c, h3⟩
theorem k3_no {k : Int32} (h : ¬ (k = -1 ∨ rg k 3)) : k < -1 ∨ ¬ k < 3 := by
  by_cases c : k < -1
  · exact Or.inl c
  · right
    intro z
    exact h (k3_of c z)
theorem c_says {g : Gh} {S : St} (hr : CR g S) (hw : WG g) (h x1 x2 x3 k : Int32) : COk g (sSays g h x1 x2 x3 k) (jSmoke_says h x1 x2 x3 k S) := by
  unfold jSmoke_says sSays
  by_cases q : rg h g.nh
  · rw [if_pos q]
    obtain ⟨h, hh, rfl⟩ := rg_of q (by have := hw.nh; omega)
    have h6 := hw.nh
    rw [hasHouse_t hr.sp hw.nh hh, px_bd, if_neg n10, nI_clamp (by omega)]
    by_cases q2 : rowOk x1 x2 x3
    · rw [if_pos (show rg x1 8 ∧ _ from q2), isRow_t q2, px_bd, if_neg n10]
      by_cases q3 : k = -1 ∨ rg k 3
      · rw [if_pos q3, if_neg (show ¬ k < -1 by
            rcases q3 with rfl | q3
            · decide
            · obtain ⟨j, hj, rfl⟩ := rg_of q3 (by omega)
              exact fun z => nI_pos (show j < 2 ^ 31 by omega) (Int32.lt_trans z (by decide))), if_pos (show k < 3 by
            rcases q3 with rfl | q3
            · decide
            · exact q3.2)]
        obtain ⟨S1, e1, s1, t1, u1⟩ := hear_ok (S := S) q2
        have hr1 := hr.same s1
        obtain ⟨S2, e2, s2, t2⟩ := fill_35 hr1.sp hw.nh hh
        have hr2 := hr1.same s2.pr.1
        have a4 : S2.1 31 4 = nI (toldN x2 x3) := by rw [s2.pr.2.2]; exact t1
        have a32 : ∀ p, p < toldN x2 x3 → S2.1 32 p = nI (wordsN x1 x2 x3 p % 8) := fun p hp => by rw [s2.pr.2.1]; exact u1 p hp
        obtain ⟨S3, e3, p3, t3, f3⟩ := few_ok (N := g.mn) (L := g.now.L h) hr2.mn hw.mn (ask_ok (x1 := x1) (x2 := x2) (x3 := x3) (mk := 7) (by decide)) a4 a32 (fun k hk => by have := hw.sp.1 h hh k hk; omega) (Pr.rf S2) t2
        have e3 : jSpeech_fewestUnits 7 S2 = _ := e3
        have hr3 := hr2.same p3.1
        have a4 : S3.1 31 4 = nI (toldN x2 x3) := by rw [p3.2.2]; exact a4
        have hl := (told_le (x2 := x2) (x3 := x3)).2
        rw [e1, px_bv, e2, px_bv, e3, px_bd]
        cases e : bestOf g h x1 x2 x3 7 with
        | none =>
          have e : bestN g.mn (g.now.L h) (askRq x1 x2 x3 7) 729 = none := e
          rw [e, if_pos (show fewOf none = -9 from rfl)]
          exact ⟨S3, rfl, hr3⟩
        | some b =>
          have e : bestN g.mn (g.now.L h) (askRq x1 x2 x3 7) 729 = some b := e
          have hb := best_lt hw.mn e
          rw [e] at f3
          rw [e, if_neg (show ¬ fewOf (some b) = -9 from nI_nm9 (by omega))]
          dsimp only
          rcases q3 with rfl | q3
          · rw [if_neg (show ¬ (0 : Int32) ≤ -1 by decide), if_pos (show (-1 : Int32) = -1 from rfl)]
            exact ⟨S3, rfl, hr3⟩
          · obtain ⟨j, hj, rfl⟩ := rg_of q3 (by omega)
            rw [if_pos (show 0 ≤ nI j from nI_pos' (by omega)), if_neg (show ¬ nI j = -1 from nI_nm1 (by omega)), a4, nI_clamp (by omega)]
            by_cases c : toldN x2 x3 ≤ j
            · rw [if_pos (nI_le c (by omega)), if_pos c]
              exact ⟨S3, rfl, hr3⟩
            · rw [if_neg (nI_ge (by omega) (by omega)), if_neg c, px_ld (by omega) (by omega), f3.2.2 j (by omega) (by
                unfold askRq
                rw [if_pos ⟨by omega, by
                  match j, hj with
                  | 0, _ => rfl
                  | 1, _ => rfl
                  | 2, _ => rfl⟩]
                exact fun z => by cases z)]
              exact ⟨S3, rfl, hr3⟩
      · rw [if_neg q3]
        rcases k3_no q3 with z | z
        · rw [if_pos z]
          exact ⟨_, rfl, hr⟩
        · by_cases c : k < -1
          · rw [if_pos c]
            exact ⟨_, rfl, hr⟩
          · rw [if_neg c, if_neg z]
            exact ⟨_, rfl, hr⟩
    · rw [if_neg (show ¬ (rg x1 8 ∧ _) from q2), isRow_f q2, px_bd, if_pos rfl]
      exact ⟨_, rfl, hr⟩
  · rw [if_neg q, hasHouse_f hr.sp q, px_bd, if_pos rfl]
    exact ⟨_, rfl, hr⟩
/-- the places of a row that a house can cook at once: the most of them -/
def nrN (g : Gh) (h : Nat) (x1 x2 x3 : Int32) : Nat → Nat
  | 0 => 0
  | i + 1 => if pop (i + 1) ≤ pop (nrN g h x1 x2 x3 i) then nrN g h x1 x2 x3 i else if (bestOf g h x1 x2 x3 (i + 1)).isSome = true then i + 1 else nrN g h x1 x2 x3 i
theorem nrN_le {g : Gh} {h : Nat} {x1 x2 x3 : Int32} : ∀ {i : Nat}, nrN g h x1 x2 x3 i ≤ i
  | 0 => Nat.le_refl _
  | i + 1 => by
    have := nrN_le (g := g) (h := h) (x1 := x1) (x2 := x2) (x3 := x3) (i := i)
    simp only [nrN]
    repeat' split
    all_goals omega
def sNear (g : Gh) (h x1 x2 x3 : Int32) : Int32 :=
  if rg h g.nh then if rg x1 8 ∧ ((x2 = -1 ∧ x3 = -1) ∨ (rg x2 8 ∧ (x3 = -1 ∨ rg x3 8))) then nI (nrN g h.toNatClampNeg x1 x2 x3 (2 ^ toldN x2 x3 - 1)) else -1 else -1
theorem two_told {x2 x3 : Int32} : 2 ≤ 2 ^ toldN x2 x3 ∧ 2 ^ toldN x2 x3 ≤ 8 := by
  have h := told_le (x2 := x2) (x3 := x3)
  rcases (by omega : toldN x2 x3 = 1 ∨ toldN x2 x3 = 2 ∨ toldN x2 x3 = 3) with e | e | e <;> rw [e] <;> decide
theorem c_nearest {g : Gh} {S : St} (hr : CR g S) (hw : WG g) (h x1 x2 x3 : Int32) : COk g (sNear g h x1 x2 x3) (jSmoke_nearest h x1 x2 x3 S) := by
  unfold jSmoke_nearest sNear
  by_cases q : rg h g.nh
  · rw [if_pos q]
    obtain ⟨h, hh, rfl⟩ := rg_of q (by have := hw.nh; omega)
    have h6 := hw.nh
    rw [hasHouse_t hr.sp hw.nh hh, px_bd, if_neg n10, nI_clamp (by omega)]
    by_cases q2 : rowOk x1 x2 x3
    · rw [if_pos (show rg x1 8 ∧ _ from q2), isRow_t q2, px_bd, if_neg n10]
      obtain ⟨S1, e1, s1, t1, u1⟩ := hear_ok (S := S) q2
      have hr1 := hr.same s1
      obtain ⟨S2, e2, s2, t2⟩ := fill_35 hr1.sp hw.nh hh
      have hr2 := hr1.same s2.pr.1
      have a4 : S2.1 31 4 = nI (toldN x2 x3) := by rw [s2.pr.2.2]; exact t1
      have a32 : ∀ p, p < toldN x2 x3 → S2.1 32 p = nI (wordsN x1 x2 x3 p % 8) := fun p hp => by rw [s2.pr.2.1]; exact u1 p hp
      have hl := two_told (x2 := x2) (x3 := x3)
      have hl3 := (told_le (x2 := x2) (x3 := x3)).2
      rw [e1, px_bv, e2, px_bv]
      unfold jSpeech_mostPlaces
      have key := for_up (F := fun n i (q : St) => jSpeech_mostPlaces_h4 n (nI (nrN g h x1 x2 x3 (i - 1))) (nI i) q) (N := 2 ^ toldN x2 x3) (I := fun i q => 1 ≤ i ∧ Pr S2 q ∧ ∀ k, k < 5 → q.1 35 k = nI (g.now.L h k)) (fun r => r.1 = nI (nrN g h x1 x2 x3 (2 ^ toldN x2 x3 - 1)) ∧ Pr S2 r.2) ?_ ?_ (i := 1) (s := S2) (by omega) ⟨Nat.le_refl _, Pr.rf S2, t2⟩ (n := FU) (Nat.lt_of_le_of_lt (Nat.le_trans (Nat.sub_le _ _) hl.2) (by decide))
      · obtain ⟨⟨a, S'⟩, e, k1, k2⟩ := key
        have k1 : a = _ := k1
        have e : jSpeech_mostPlaces_h4 FU 0 1 S2 = some (a, S') := e
        rw [e, px_bd, k1]
        exact ⟨S', rfl, hr2.same k2.1⟩
      · intro n i q hi ⟨i0, i1, i2⟩
        right
        have b4 : q.1 31 4 = nI (toldN x2 x3) := by rw [i1.2.2]; exact a4
        have hn := nrN_le (g := g) (h := h) (x1 := x1) (x2 := x2) (x3 := x3) (i := i - 1)
        have b1 : pop i ≤ 8 := popN_le 8
        have b2 : pop (nrN g h x1 x2 x3 (i - 1)) ≤ 8 := popN_le 8
        obtain ⟨j, rfl⟩ : ∃ j, i = j + 1 := ⟨i - 1, by omega⟩
        rw [Nat.add_sub_cancel] at hn b2 ⊢
        rw [jSpeech_mostPlaces_h4, jSpeech_mostPlaces_b4, b4, shl_nI _ (by omega), if_neg (nI_ge hi (by omega)), bitCount_ok (by omega), px_bd, bitCount_ok (by omega), px_bd]
        unfold jSpeech_mostPlaces_b30
        show ∃ s', _ = jSpeech_mostPlaces_h4 n (nI (nrN g h x1 x2 x3 (j + 1))) (nI (j + 1 + 1)) s' ∧ _
        by_cases c : pop (j + 1) ≤ pop (nrN g h x1 x2 x3 j)
        · rw [if_pos (nI_le c (by omega)), if_pos rfl, z1, nI_add, show nrN g h x1 x2 x3 (j + 1) = nrN g h x1 x2 x3 j from if_pos c]
          exact ⟨q, rfl, by omega, i1, i2⟩
        · obtain ⟨S3, e3, p3, t3, -⟩ := few_ok (N := g.mn) (L := g.now.L h) hr2.mn hw.mn (ask_ok (x1 := x1) (x2 := x2) (x3 := x3) (mk := j + 1) (by omega)) a4 a32 (fun k hk => by have := hw.sp.1 h hh k hk; omega) i1 i2
          rw [if_neg (nI_ge (by omega) (by omega)), if_neg n10]
          show ∃ s', x_bd (jSpeech_fewestUnits (nI (j + 1)) q) _ = _ ∧ _
          rw [e3, px_bd]
          cases e : bestOf g h x1 x2 x3 (j + 1) with
          | none =>
            have e' : bestN g.mn (g.now.L h) (askRq x1 x2 x3 (j + 1)) 729 = none := e
            rw [e', if_pos (show fewOf none = -9 from rfl), z1, nI_add, show nrN g h x1 x2 x3 (j + 1) = nrN g h x1 x2 x3 j by
              simp only [nrN]
              rw [if_neg c, e]
              rfl]
            exact ⟨S3, rfl, by omega, p3, t3⟩
          | some b =>
            have e' : bestN g.mn (g.now.L h) (askRq x1 x2 x3 (j + 1)) 729 = some b := e
            have hb := best_lt hw.mn e'
            rw [e', if_neg (show ¬ fewOf (some b) = -9 from nI_nm9 (by omega)), z1, nI_add, show nrN g h x1 x2 x3 (j + 1) = j + 1 by
              simp only [nrN]
              rw [if_neg c, e]
              rfl]
            exact ⟨S3, rfl, by omega, p3, t3⟩
      · intro n q ⟨i0, i1, i2⟩
        have b4 : q.1 31 4 = nI (toldN x2 x3) := by rw [i1.2.2]; exact a4
        rw [jSpeech_mostPlaces_h4, jSpeech_mostPlaces_b4, b4, shl_nI _ (by omega), if_pos (nI_le (Nat.le_refl _) (by omega))]
        exact ⟨_, rfl, rfl, i1⟩
    · rw [if_neg (show ¬ (rg x1 8 ∧ _) from q2), isRow_f q2, px_bd, if_pos rfl]
      exact ⟨_, rfl, hr⟩
  · rw [if_neg q, hasHouse_f hr.sp q, px_bd, if_pos rfl]
    exact ⟨_, rfl, hr⟩
