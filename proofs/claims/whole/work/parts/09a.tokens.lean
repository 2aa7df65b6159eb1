/-! tokens: of the text g.tb up to g.tl -/
def spanN (p : Nat → Bool) : Nat → Nat → Nat
  | 0, a => a
  | n + 1, a => if p a = true then spanN p n (a + 1) else a
theorem span_ok {p : Nat → Bool} {tl : Nat} (hp : ∀ j, p j = true → j < tl) : ∀ {n a : Nat}, a ≤ tl → tl - a ≤ n → a ≤ spanN p n a ∧ spanN p n a ≤ tl ∧ (∀ j, a ≤ j → j < spanN p n a → p j = true) ∧ p (spanN p n a) = false
  | 0, a, h1, h2 => by
    refine ⟨Nat.le_refl _, h1, fun j h3 h4 => ?_, ?_⟩
    · simp only [spanN] at h4
      omega
    · simp only [spanN]
      by_cases c : p a = true
      · have := hp a c
        omega
      · simpa using c
  | n + 1, a, h1, h2 => by
    simp only [spanN]
    by_cases c : p a = true
    · have hlt := hp a c
      rw [if_pos c]
      obtain ⟨i1, i2, i3, i4⟩ := span_ok hp (n := n) (a := a + 1) (by omega) (by omega)
      refine ⟨by omega, i2, fun j h3 h4 => ?_, i4⟩
      by_cases e : j = a
      · rw [e]; exact c
      · exact i3 j (by omega) h4
    · rw [if_neg c]
      exact ⟨Nat.le_refl _, h1, fun j h3 h4 => by omega, by simpa using c⟩
abbrev Tx : Type := Nat × (Nat → Nat)
def pSp (t : Tx) (j : Nat) : Bool := decide (j < t.1 ∧ t.2 j = 32)
def pDg (t : Tx) (j : Nat) : Bool := decide (j < t.1 ∧ 48 ≤ t.2 j ∧ t.2 j ≤ 57)
def pLt (t : Tx) (j : Nat) : Bool := decide (j < t.1 ∧ 97 ≤ t.2 j ∧ t.2 j ≤ 122)
/-- what a run of letters names: a house, a dish, the fog or nothing -/
def nameK (t : Tx) (s e : Nat) : Nat :=
  if e - s = 5 ∧ t.2 s = 104 ∧ t.2 (s + 1) = 111 ∧ t.2 (s + 2) = 117 ∧ t.2 (s + 3) = 115 ∧ t.2 (s + 4) = 101 then 4
  else if e - s = 4 ∧ t.2 s = 100 ∧ t.2 (s + 1) = 105 ∧ t.2 (s + 2) = 115 ∧ t.2 (s + 3) = 104 then 5
  else if e - s = 3 ∧ t.2 s = 102 ∧ t.2 (s + 1) = 111 ∧ t.2 (s + 2) = 103 then 6 else 1
/-- the token from a on: kind (0 end, 1 fault, 2 number, 3 semicolon, 4 house, 5 dish, 6 fog), value, start, next -/
def tkAt (t : Tx) (s : Nat) : Nat × Nat × Nat :=
  if t.1 ≤ s then (0, 0, s)
  else if pDg t s = true then
    (if spanN (pDg t) t.1 s - s = 1 ∨ (spanN (pDg t) t.1 s - s = 2 ∧ t.2 s ≠ 48) then 2 else 1, (if spanN (pDg t) t.1 s - s = 1 then t.2 s - 48 else 10 * (t.2 s - 48) + (t.2 (s + 1) - 48)), spanN (pDg t) t.1 s)
  else if pLt t s = true then (nameK t s (spanN (pLt t) t.1 s), 0, spanN (pLt t) t.1 s)
  else (if t.2 s = 59 then 3 else 1, 0, s + 1)
def tkS (t : Tx) (a : Nat) : Nat := spanN (pSp t) t.1 a
def tkK (t : Tx) (a : Nat) : Nat := (tkAt t (tkS t a)).1
def tkV (t : Tx) (a : Nat) : Nat := (tkAt t (tkS t a)).2.1
def tkN (t : Tx) (a : Nat) : Nat := (tkAt t (tkS t a)).2.2
theorem pSp_lt {t : Tx} : ∀ j, pSp t j = true → j < t.1 := fun j h => (of_decide_eq_true h).1
theorem pDg_lt {t : Tx} : ∀ j, pDg t j = true → j < t.1 := fun j h => (of_decide_eq_true h).1
theorem pLt_lt {t : Tx} : ∀ j, pLt t j = true → j < t.1 := fun j h => (of_decide_eq_true h).1
/-! the class -/
/-- only what is read of the text changes -/
def tfr (S S' : St) : Prop := (∀ r, r ≠ 1 → S'.1 r = S.1 r) ∧ S'.1 1 1 = S.1 1 1 ∧ S'.2 = S.2
theorem tfr.rf (S : St) : tfr S S := ⟨fun _ _ => rfl, rfl, rfl⟩
theorem tfr.tr {S S' S2 : St} (h : tfr S S') (h2 : tfr S' S2) : tfr S S2 := ⟨fun r hr => (h2.1 r hr).trans (h.1 r hr), h2.2.1.trans h.2.1, h2.2.2.trans h.2.2⟩
theorem tfr.up {S S' : St} (h : tfr S S') {j : Nat} {v : Int32} (hj : j ≠ 1) : tfr S (upI S' 1 j v) := ⟨fun r hr => (upI_o r hr).trans (h.1 r hr), (upI_off (by omega)).trans h.2.1, h.2.2⟩
def CT (t : Tx) (S : St) : Prop := S.1 1 1 = nI t.1 ∧ t.1 ≤ 300 ∧ ∀ j, j < t.1 → S.1 2 j = nI (t.2 j) ∧ t.2 j < 256
theorem CT.fr {t : Tx} {S S' : St} (h : CT t S) (hs : tfr S S') : CT t S' := ⟨hs.2.1.trans h.1, h.2.1, fun j hj => ⟨by rw [hs.1 2 (by omega)]; exact (h.2.2 j hj).1, (h.2.2 j hj).2⟩⟩
theorem ge_lit {a b : Nat} (h : a < b) (hb : b < 2 ^ 31) {x : Int32} (hx : x = nI b) : ¬ x ≤ nI a := by rw [hx]; exact nI_ge h hb
theorem isDigit_ok {d : Nat} (hd : d < 256) {S : St} : jText_isDigit (nI d) S = some (bI (decide (48 ≤ d ∧ d ≤ 57)), S) := by
  unfold jText_isDigit
  by_cases c : d < 48
  · rw [if_pos (show nI d < 48 from (nI_lt c (by omega) : nI d < nI 48)), px_n0, decide_eq_false (by omega)]; rfl
  · rw [if_neg (show ¬ nI d < 48 from (nI_nlt (by omega) (by omega) : ¬ nI d < nI 48))]
    by_cases c2 : 57 < d
    · rw [if_pos (show 57 < nI d from (nI_lt c2 (by omega) : nI 57 < nI d)), px_n0, decide_eq_false (by omega)]; rfl
    · rw [if_neg (show ¬ 57 < nI d from (nI_nlt (by omega) (by omega) : ¬ nI 57 < nI d)), px_n1, decide_eq_true (by omega)]; rfl
theorem isLetter_ok {d : Nat} (hd : d < 256) {S : St} : jText_isLetter (nI d) S = some (bI (decide (97 ≤ d ∧ d ≤ 122)), S) := by
  unfold jText_isLetter
  by_cases c : d < 97
  · rw [if_pos (show nI d < 97 from (nI_lt c (by omega) : nI d < nI 97)), px_n0, decide_eq_false (by omega)]; rfl
  · rw [if_neg (show ¬ nI d < 97 from (nI_nlt (by omega) (by omega) : ¬ nI d < nI 97))]
    by_cases c2 : 122 < d
    · rw [if_pos (show 122 < nI d from (nI_lt c2 (by omega) : nI 122 < nI d)), px_n0, decide_eq_false (by omega)]; rfl
    · rw [if_neg (show ¬ 122 < nI d from (nI_nlt (by omega) (by omega) : ¬ nI 122 < nI d)), px_n1, decide_eq_true (by omega)]; rfl
theorem bool_f {b : Bool} (h : ¬ b = true) : b = false := by simpa using h
theorem readName_ok {t : Tx} {S : St} (ht : CT t S) {s : Nat} (hs : s ≤ t.1) (h2 : S.1 1 2 = nI s) (h3 : S.1 1 3 = nI s) : ∃ S', jText_readName S = some (nI (nameK t s (spanN (pLt t) t.1 s)), S') ∧ tfr S S' ∧ S'.1 1 2 = nI (spanN (pLt t) t.1 s) ∧ S'.1 1 3 = nI s := by
  obtain ⟨w1, w2, w3, w4⟩ := span_ok (pLt_lt (t := t)) (n := t.1) hs (Nat.sub_le _ _)
  obtain ⟨e, he⟩ : ∃ e, e = spanN (pLt t) t.1 s := ⟨_, rfl⟩
  rw [← he] at w1 w2 w3 w4 ⊢
  have h300 := ht.2.1
  unfold jText_readName
  obtain ⟨m', S1, e1, f1, a2, a3⟩ := for_go (F := fun n i (q : St) => jText_readName_h0 n q) (N := e) (I := fun i q => tfr S q ∧ q.1 1 2 = nI i ∧ q.1 1 3 = nI s ∧ s ≤ i) (fun n i q hi ⟨i1, i2, i3, i4⟩ => by
    have hq := ht.fr i1
    have hlt : i < t.1 := by omega
    obtain ⟨hb, hb2⟩ := hq.2.2 i hlt
    have hl : 97 ≤ t.2 i ∧ t.2 i ≤ 122 := (of_decide_eq_true (w3 i i4 hi)).2
    rw [jText_readName_h0, jText_readName_b0, hq.1, i2, if_neg (nI_ge hlt (by omega)), px_ld (by omega) (by omega), hb, isLetter_ok hb2, px_bd, decide_eq_true hl, bI_t, if_neg n10, px_lt]
    refine ⟨_, rfl, i1.up (by omega), ?_, (upI_off (by omega)).trans i3, by omega⟩
    rw [upI_hit, i2, z1, nI_add]) (i := s) (s := S) w1 ⟨tfr.rf S, h2, h3, Nat.le_refl _⟩ (n := FU) (Nat.lt_of_le_of_lt (Nat.le_trans (Nat.sub_le _ _) (Nat.le_trans w2 h300)) (by decide))
  obtain ⟨a3, -⟩ := a3
  have hq := ht.fr f1
  have e1 : jText_readName_h0 FU S = jText_readName_h0 (m' + 1) S1 := e1
  rw [e1, jText_readName_h0, jText_readName_b0]
  -- the three names
  have lt : ∀ k, s + k < e → ∃ d, S1.1 2 (s + k) = nI d ∧ d = t.2 (s + k) ∧ d < 256 := fun k hk => ⟨_, (hq.2.2 (s + k) (by omega)).1, rfl, (hq.2.2 (s + k) (by omega)).2⟩
  have eqn : ∀ {d c : Nat}, d < 256 → c < 256 → (nI d = nI c ↔ d = c) := fun h1 h2 => nI_eq (by omega) (by omega)
  have sp0 : jText_spells_0 S1 = some (bI (decide (e - s = 5 ∧ t.2 s = 104 ∧ t.2 (s + 1) = 111 ∧ t.2 (s + 2) = 117 ∧ t.2 (s + 3) = 115 ∧ t.2 (s + 4) = 101)), S1) := by
    unfold jText_spells_0
    rw [a2, a3, nI_sub w1]
    by_cases c : e - s = 5
    · rw [if_pos (show nI (e - s) = 5 by rw [c]; rfl)]
      have key := for_up (F := fun n i (q : St) => jText_spells_0_h20 n (nI i) q) (N := 5) (I := fun i q => q = S1 ∧ ∀ k, k < i → t.2 (s + k) = [104, 111, 117, 115, 101].getD k 0) (fun r => r = (bI (decide (e - s = 5 ∧ t.2 s = 104 ∧ t.2 (s + 1) = 111 ∧ t.2 (s + 2) = 117 ∧ t.2 (s + 3) = 115 ∧ t.2 (s + 4) = 101)), S1)) ?_ ?_ (i := 0) (s := S1) (Nat.zero_le _) ⟨rfl, fun k hk => by omega⟩ (n := FU) (by decide)
      · exact ex_eq.mp key
      · intro n i q hi ⟨hq', hI⟩
        subst hq'
        obtain ⟨d, d1, d2, d3⟩ := lt i (by omega)
        have hc : sc_ch 0 i = nI ([104, 111, 117, 115, 101].getD i 0) ∧ [104, 111, 117, 115, 101].getD i 0 < 256 := by
          match i, hi with
          | 0, _ => exact ⟨by decide +kernel, by decide⟩
          | 1, _ => exact ⟨by decide +kernel, by decide⟩
          | 2, _ => exact ⟨by decide +kernel, by decide⟩
          | 3, _ => exact ⟨by decide +kernel, by decide⟩
          | 4, _ => exact ⟨by decide +kernel, by decide⟩
        rw [jText_spells_0_h20, jText_spells_0_b20, z5, if_neg (nI_ge hi (by decide)), a3, nI_add, px_ld (by omega) (by omega), d1, px_ld hi (by decide), hc.1]
        by_cases c2 : d = [104, 111, 117, 115, 101].getD i 0
        · right
          rw [if_pos (by rw [c2]), z1, nI_add]
          refine ⟨q, rfl, rfl, fun k hk => ?_⟩
          rcases Nat.lt_succ_iff_lt_or_eq.mp hk with r | r
          · exact hI k r
          · rw [r, ← d2]; exact c2
        · left
          rw [if_neg (fun z => c2 ((eqn d3 hc.2).mp z)), px_n0]
          refine ⟨_, rfl, ?_⟩
          rw [decide_eq_false]
          · rfl
          · intro z
            apply c2
            rw [d2]
            match i, hi with
            | 0, _ => exact z.2.1
            | 1, _ => exact z.2.2.1
            | 2, _ => exact z.2.2.2.1
            | 3, _ => exact z.2.2.2.2.1
            | 4, _ => exact z.2.2.2.2.2
      · intro n q ⟨hq', hI⟩
        subst hq'
        rw [jText_spells_0_h20, jText_spells_0_b20, z5, if_pos (nI_le (Nat.le_refl _) (by decide)), px_n1]
        refine ⟨_, rfl, ?_⟩
        rw [decide_eq_true ⟨c, hI 0 (by omega), hI 1 (by omega), hI 2 (by omega), hI 3 (by omega), hI 4 (by omega)⟩]
        rfl
    · rw [if_neg (show ¬ nI (e - s) = 5 from fun z => c ((nI_eq (b := 5) (by omega) (by omega)).mp z)), px_n0, decide_eq_false (fun z => c z.1)]
      rfl
  have sp1 : jText_spells_1 S1 = some (bI (decide (e - s = 4 ∧ t.2 s = 100 ∧ t.2 (s + 1) = 105 ∧ t.2 (s + 2) = 115 ∧ t.2 (s + 3) = 104)), S1) := by
    unfold jText_spells_1
    rw [a2, a3, nI_sub w1]
    by_cases c : e - s = 4
    · rw [if_pos (show nI (e - s) = 4 by rw [c]; rfl)]
      have key := for_up (F := fun n i (q : St) => jText_spells_1_h20 n (nI i) q) (N := 4) (I := fun i q => q = S1 ∧ ∀ k, k < i → t.2 (s + k) = [100, 105, 115, 104].getD k 0) (fun r => r = (bI (decide (e - s = 4 ∧ t.2 s = 100 ∧ t.2 (s + 1) = 105 ∧ t.2 (s + 2) = 115 ∧ t.2 (s + 3) = 104)), S1)) ?_ ?_ (i := 0) (s := S1) (Nat.zero_le _) ⟨rfl, fun k hk => by omega⟩ (n := FU) (by decide)
      · exact ex_eq.mp key
      · intro n i q hi ⟨hq', hI⟩
        subst hq'
        obtain ⟨d, d1, d2, d3⟩ := lt i (by omega)
        have hc : sc_ch 1 i = nI ([100, 105, 115, 104].getD i 0) ∧ [100, 105, 115, 104].getD i 0 < 256 := by
          match i, hi with
          | 0, _ => exact ⟨by decide +kernel, by decide⟩
          | 1, _ => exact ⟨by decide +kernel, by decide⟩
          | 2, _ => exact ⟨by decide +kernel, by decide⟩
          | 3, _ => exact ⟨by decide +kernel, by decide⟩
        rw [jText_spells_1_h20, jText_spells_1_b20, z4, if_neg (nI_ge hi (by decide)), a3, nI_add, px_ld (by omega) (by omega), d1, px_ld hi (by decide), hc.1]
        by_cases c2 : d = [100, 105, 115, 104].getD i 0
        · right
          rw [if_pos (by rw [c2]), z1, nI_add]
          refine ⟨q, rfl, rfl, fun k hk => ?_⟩
          rcases Nat.lt_succ_iff_lt_or_eq.mp hk with r | r
          · exact hI k r
          · rw [r, ← d2]; exact c2
        · left
          rw [if_neg (fun z => c2 ((eqn d3 hc.2).mp z)), px_n0]
          refine ⟨_, rfl, ?_⟩
          rw [decide_eq_false]
          · rfl
          · intro z
            apply c2
            rw [d2]
            match i, hi with
            | 0, _ => exact z.2.1
            | 1, _ => exact z.2.2.1
            | 2, _ => exact z.2.2.2.1
            | 3, _ => exact z.2.2.2.2
      · intro n q ⟨hq', hI⟩
        subst hq'
        rw [jText_spells_1_h20, jText_spells_1_b20, z4, if_pos (nI_le (Nat.le_refl _) (by decide)), px_n1]
        refine ⟨_, rfl, ?_⟩
        rw [decide_eq_true ⟨c, hI 0 (by omega), hI 1 (by omega), hI 2 (by omega), hI 3 (by omega)⟩]
        rfl
    · rw [if_neg (show ¬ nI (e - s) = 4 from fun z => c ((nI_eq (b := 4) (by omega) (by omega)).mp z)), px_n0, decide_eq_false (fun z => c z.1)]
      rfl
  have sp2 : jText_spells_2 S1 = some (bI (decide (e - s = 3 ∧ t.2 s = 102 ∧ t.2 (s + 1) = 111 ∧ t.2 (s + 2) = 103)), S1) := by
    unfold jText_spells_2
    rw [a2, a3, nI_sub w1]
    by_cases c : e - s = 3
    · rw [if_pos (show nI (e - s) = 3 by rw [c]; rfl)]
      have key := for_up (F := fun n i (q : St) => jText_spells_2_h20 n (nI i) q) (N := 3) (I := fun i q => q = S1 ∧ ∀ k, k < i → t.2 (s + k) = [102, 111, 103].getD k 0) (fun r => r = (bI (decide (e - s = 3 ∧ t.2 s = 102 ∧ t.2 (s + 1) = 111 ∧ t.2 (s + 2) = 103)), S1)) ?_ ?_ (i := 0) (s := S1) (Nat.zero_le _) ⟨rfl, fun k hk => by omega⟩ (n := FU) (by decide)
      · exact ex_eq.mp key
      · intro n i q hi ⟨hq', hI⟩
        subst hq'
        obtain ⟨d, d1, d2, d3⟩ := lt i (by omega)
        have hc : sc_ch 2 i = nI ([102, 111, 103].getD i 0) ∧ [102, 111, 103].getD i 0 < 256 := by
          match i, hi with
          | 0, _ => exact ⟨by decide +kernel, by decide⟩
          | 1, _ => exact ⟨by decide +kernel, by decide⟩
          | 2, _ => exact ⟨by decide +kernel, by decide⟩
        rw [jText_spells_2_h20, jText_spells_2_b20, z3, if_neg (nI_ge hi (by decide)), a3, nI_add, px_ld (by omega) (by omega), d1, px_ld hi (by decide), hc.1]
        by_cases c2 : d = [102, 111, 103].getD i 0
        · right
          rw [if_pos (by rw [c2]), z1, nI_add]
          refine ⟨q, rfl, rfl, fun k hk => ?_⟩
          rcases Nat.lt_succ_iff_lt_or_eq.mp hk with r | r
          · exact hI k r
          · rw [r, ← d2]; exact c2
        · left
          rw [if_neg (fun z => c2 ((eqn d3 hc.2).mp z)), px_n0]
          refine ⟨_, rfl, ?_⟩
          rw [decide_eq_false]
          · rfl
          · intro z
            apply c2
            rw [d2]
            match i, hi with
            | 0, _ => exact z.2.1
            | 1, _ => exact z.2.2.1
            | 2, _ => exact z.2.2.2
      · intro n q ⟨hq', hI⟩
        subst hq'
        rw [jText_spells_2_h20, jText_spells_2_b20, z3, if_pos (nI_le (Nat.le_refl _) (by decide)), px_n1]
        refine ⟨_, rfl, ?_⟩
        rw [decide_eq_true ⟨c, hI 0 (by omega), hI 1 (by omega), hI 2 (by omega)⟩]
        rfl
    · rw [if_neg (show ¬ nI (e - s) = 3 from fun z => c ((nI_eq (b := 3) (by omega) (by omega)).mp z)), px_n0, decide_eq_false (fun z => c z.1)]
      rfl
  have fin : jText_readName_b39 S1 = some (nI (nameK t s e), S1) := by
    unfold jText_readName_b39 nameK
    rw [sp0, px_bd]
    by_cases c0 : e - s = 5 ∧ t.2 s = 104 ∧ t.2 (s + 1) = 111 ∧ t.2 (s + 2) = 117 ∧ t.2 (s + 3) = 115 ∧ t.2 (s + 4) = 101
    · rw [decide_eq_true c0, if_pos c0, bI_t, if_neg n10]; rfl
    · rw [decide_eq_false c0, if_neg c0, bI_f, if_pos rfl, sp1, px_bd]
      by_cases c1 : e - s = 4 ∧ t.2 s = 100 ∧ t.2 (s + 1) = 105 ∧ t.2 (s + 2) = 115 ∧ t.2 (s + 3) = 104
      · rw [decide_eq_true c1, if_pos c1, bI_t, if_neg n10]; rfl
      · rw [decide_eq_false c1, if_neg c1, bI_f, if_pos rfl, sp2, px_bd]
        by_cases c2 : e - s = 3 ∧ t.2 s = 102 ∧ t.2 (s + 1) = 111 ∧ t.2 (s + 2) = 103
        · rw [decide_eq_true c2, if_pos c2, bI_t, if_neg n10]; rfl
        · rw [decide_eq_false c2, if_neg c2, bI_f, if_pos rfl]; rfl
  refine ⟨S1, ?_, f1, a2, a3⟩
  by_cases c : t.1 ≤ e
  · rw [hq.1, a2, if_pos (nI_le c (by omega))]
    exact fin
  · have hlt : e < t.1 := by omega
    obtain ⟨hb, hb2⟩ := hq.2.2 e hlt
    rw [hq.1, a2, if_neg (nI_ge hlt (by omega)), px_ld (by omega) (by omega), hb, isLetter_ok hb2, px_bd, decide_eq_false (fun z => by
      have : pLt t e = true := decide_eq_true ⟨hlt, z⟩
      rw [this] at w4
      cases w4), bI_f, if_pos rfl]
    exact fin
