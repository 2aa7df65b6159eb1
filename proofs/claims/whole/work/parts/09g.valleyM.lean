/-! valley in the reference: numbers, with a fault or without -/
def TkM (t : Tx) (a : Nat) (S : St) : Prop := S.1 0 10 = nI (tkN t a) ∧ S.1 0 11 = nI (tkS t a) ∧ S.1 0 12 = nI (rsK (tkK t a)) ∧ (tkK t a = 2 → S.1 0 13 = nI (tkV t a))
/-- only what is read of the text, and the fault -/
def mf4 (S S' : St) : Prop := (∀ r, r ≠ 0 → S'.1 r = S.1 r) ∧ (∀ j, j < 10 ∨ 15 ≤ j → S'.1 0 j = S.1 0 j) ∧ S'.2 = S.2
theorem mf4.rf (S : St) : mf4 S S := ⟨fun _ _ => rfl, fun _ _ => rfl, rfl⟩
theorem mf4.tr {S S' S2 : St} (h : mf4 S S') (h2 : mf4 S' S2) : mf4 S S2 := ⟨fun r hr => (h2.1 r hr).trans (h.1 r hr), fun j hj => (h2.2.1 j hj).trans (h.2.1 j hj), h2.2.2.trans h.2.2⟩
theorem mfr.m4 {S S' : St} (h : mfr S S') : mf4 S S' := ⟨h.1, fun j hj => h.2.1 j (by omega), h.2.2⟩
theorem MT.m4 {t : Tx} {S S' : St} (h : MT t S) (hs : mf4 S S') : MT t S' := ⟨(hs.2.1 2 (by omega)).trans h.1, h.2.1, fun j hj => ⟨by rw [hs.1 1 (by omega)]; exact (h.2.2 j hj).1, (h.2.2 j hj).2⟩⟩
theorem MT.bb {t : Tx} {S : St} (h : MT t S) : ∀ j, j < t.1 → t.2 j < 256 := fun j hj => (h.2.2 j hj).2
/-- numbers are still read, or there was a fault -/
def Liv (t : Tx) (kind : Nat) (R : Sum Nat (Nat × (Nat → Nat))) (k x : Nat) (rf : Nat → Int32) (q : St) : Prop :=
  (∃ b f, numsT t kind k x b f = R ∧ b ≤ t.1 ∧ TkM t b q ∧ q.1 0 14 = -9 ∧ ∀ j, j < x → rf j = nI (f j)) ∨ (∃ p, R = .inl p ∧ q.1 0 14 = nI p ∧ p ≤ 300)
theorem Liv.r0 {t : Tx} {kind : Nat} {R : Sum Nat (Nat × (Nat → Nat))} {k x : Nat} {rf : Nat → Int32} {q q' : St} (h : Liv t kind R k x rf q) (h0 : q'.1 0 = q.1 0) : Liv t kind R k x rf q' := by
  unfold Liv TkM at *
  rw [h0]
  exact h
theorem Liv.cg {t : Tx} {kind : Nat} {R : Sum Nat (Nat × (Nat → Nat))} {k x : Nat} {rf rf' : Nat → Int32} {q : St} (h : Liv t kind R k x rf q) (h0 : ∀ j, j < x → rf' j = rf j) : Liv t kind R k x rf' q := by
  rcases h with ⟨b, f, a1, a2, a3, a4, a5⟩ | h
  · exact Or.inl ⟨b, f, a1, a2, a3, a4, fun j hj => (h0 j hj).trans (a5 j hj)⟩
  · exact Or.inr h
theorem fault_ne {p : Nat} (h : p ≤ 300) : ¬ nI p = -9 := nI_nm9 (by omega)
theorem due_t {t : Tx} {M : St} (ht : MT t M) {b : Nat} (hb : b ≤ t.1) (hk : TkM t b M) (h14 : M.1 0 14 = -9) {s0 : Int32} (hs : ¬ s0 = 0) : ∃ M', jMod_due s0 M = some (M.1 0 13, M') ∧ mfr M M' ∧ TkM t (tkN t b) M' := by
  obtain ⟨M', e, f, g1, g2, g3, g4⟩ := next_ok ht (tk_le hb).2 hk.1
  unfold jMod_due
  rw [px_lt, h14, if_pos rfl, if_neg hs, e, px_bv]
  exact ⟨M', rfl, f, g1, g2, g3, g4⟩
theorem due_f {M : St} (h14 : M.1 0 14 = -9) : jMod_due 0 M = some (M.1 0 13, upI M 0 14 (M.1 0 11)) := by
  unfold jMod_due
  rw [px_lt, h14, if_pos rfl, if_pos rfl, px_lt]
theorem due_n {M : St} (h14 : ¬ M.1 0 14 = -9) {s0 : Int32} : jMod_due s0 M = some (M.1 0 13, M) := by
  unfold jMod_due
  rw [px_lt, if_neg h14]
theorem f14 {M : St} {v : Int32} : mf4 M (upI M 0 14 v) := ⟨fun r hr => upI_o r hr, fun j hj => upI_off (by omega), rfl⟩
theorem rsK_4 {k : Nat} (h : k ≤ 6) : (rsK k = 4 ↔ k = 2) ∧ (rsK k = 5 ↔ k = 3) ∧ (rsK k = 3 ↔ k = 0) ∧ rsK k ≤ 6 := by
  rcases (by omega : k = 0 ∨ k = 1 ∨ k = 2 ∨ k = 3 ∨ k = 4 ∨ k = 5 ∨ k = 6) with rfl | rfl | rfl | rfl | rfl | rfl | rfl <;> decide
theorem number_ok {t : Tx} {M : St} (ht : MT t M) {kind : Nat} {R : Sum Nat (Nat × (Nat → Nat))} {k x : Nat} {rf : Nat → Int32} (hl : Liv t kind R (k + 1) x rf M) {m : Nat} (hm : m = mostK kind x) : ∃ v M', jMod_number (nI m) M = some (v, M') ∧ mf4 M M' ∧ Liv t kind R k (x + 1) (fun j => if j = x then v else rf j) M' := by
  have hm9 : m ≤ 9 := by
    rw [hm]
    unfold mostK
    split
    · omega
    · split <;> omega
  have h300 := ht.2.1
  unfold jMod_number
  rcases hl with ⟨b, f, hr, hb, hk, h14, hrf⟩ | ⟨p, hp, h14, hp3⟩
  · have hkl := kind_le (t := t) (a := b)
    obtain ⟨r4, -, -, r6⟩ := rsK_4 hkl
    simp only [numsT] at hr
    have bad : ¬ (tkK t b = 2 ∧ tkV t b ≤ mostK kind x) → ∃ v M', jMod_number_b26 0 M = some (v, M') ∧ mf4 M M' ∧ Liv t kind R k (x + 1) (fun j => if j = x then v else rf j) M' := fun c => by
      rw [if_neg c] at hr
      unfold jMod_number_b26
      rw [due_f h14, px_bd]
      exact ⟨_, _, rfl, f14, Or.inr ⟨tkS t b, hr.symm, by rw [upI_hit]; exact hk.2.1, by have := (tk_le hb).1; omega⟩⟩
    rw [hk.2.2.1]
    by_cases c2 : tkK t b = 2
    · have hv := tkV_lt ht.bb c2
      rw [if_pos (show nI (rsK (tkK t b)) = 4 by rw [c2]; rfl), hk.2.2.2 c2]
      by_cases c3 : tkV t b ≤ mostK kind x
      · rw [if_pos ⟨c2, c3⟩] at hr
        rw [show jMod_in (nI (tkV t b)) 0 (nI m) M = some (1, M) from in0_t (by omega) (by omega), px_bd, if_neg n10]
        obtain ⟨M', e, f', g⟩ := due_t ht hb hk h14 n10
        unfold jMod_number_b26
        rw [e, px_bd, hk.2.2.2 c2]
        refine ⟨_, M', rfl, f'.m4, Or.inl ⟨tkN t b, _, hr, (tk_le hb).2, g, (f'.2.1 14 (by omega)).trans h14, fun j hj => ?_⟩⟩
        show (if j = x then nI (tkV t b) else rf j) = nI (if j = x then tkV t b else f j)
        by_cases c : j = x
        · rw [if_pos c, if_pos c]
        · rw [if_neg c, if_neg c]
          exact hrf j (by omega)
      · rw [show jMod_in (nI (tkV t b)) 0 (nI m) M = some (0, M) from in_f (Or.inr (nI_lt (by omega) (by omega))), px_bd, if_pos rfl]
        exact bad (fun z => c3 z.2)
    · rw [if_neg (show ¬ nI (rsK (tkK t b)) = 4 from fun z => c2 (r4.mp ((nI_eq (b := 4) (by omega) (by omega)).mp z)))]
      exact bad (fun z => c2 z.1)
  · have h14' : ¬ M.1 0 14 = -9 := by rw [h14]; exact fault_ne hp3
    have dead : ∀ s0, ∃ v M', jMod_number_b26 s0 M = some (v, M') ∧ mf4 M M' ∧ Liv t kind R k (x + 1) (fun j => if j = x then v else rf j) M' := fun s0 => by
      unfold jMod_number_b26
      rw [due_n h14', px_bd]
      exact ⟨_, M, rfl, mf4.rf M, Or.inr ⟨p, hp, h14, hp3⟩⟩
    by_cases c : M.1 0 12 = 4
    · rw [if_pos c]
      by_cases c2 : M.1 0 13 < 0
      · rw [in_f (Or.inl c2), px_bd, if_pos rfl]
        exact dead 0
      · by_cases c3 : nI m < M.1 0 13
        · rw [in_f (Or.inr c3), px_bd, if_pos rfl]
          exact dead 0
        · rw [in_t c2 c3, px_bd, if_neg n10]
          exact dead 1
    · rw [if_neg c]
      exact dead 0
/-- how an item ends -/
def Fin (t : Tx) (R : Sum Nat (Nat × (Nat → Nat))) (x : Nat) (rf : Nat → Int32) (q : St) : Prop :=
  (∃ r, R = .inr r ∧ TkM t (tkN t r.1) q ∧ q.1 0 14 = -9 ∧ ∀ j, j < x → rf j = nI (r.2 j)) ∨ (∃ p, R = .inl p ∧ q.1 0 14 = nI p ∧ p ≤ 300)
theorem fin_ok {t : Tx} {M : St} (ht : MT t M) {kind : Nat} {R : Sum Nat (Nat × (Nat → Nat))} {x : Nat} {rf : Nat → Int32} (hl : Liv t kind R 0 x rf M) : ∃ M', jMod_readItem_b221 M = some M' ∧ mf4 M M' ∧ Fin t R x rf M' := by
  have h300 := ht.2.1
  unfold jMod_readItem_b221
  rcases hl with ⟨b, f, hr, hb, hk, h14, hrf⟩ | ⟨p, hp, h14, hp3⟩
  · have hkl := kind_le (t := t) (a := b)
    obtain ⟨-, r5, -, r6⟩ := rsK_4 hkl
    simp only [numsT] at hr
    rw [hk.2.2.1]
    unfold jMod_readItem_b235
    by_cases c3 : tkK t b = 3
    · rw [if_pos c3] at hr
      rw [if_pos (show nI (rsK (tkK t b)) = 5 by rw [c3]; rfl)]
      obtain ⟨M', e, f', g⟩ := due_t ht hb hk h14 n10
      rw [e, px_bd]
      exact ⟨M', rfl, f'.m4, Or.inl ⟨(b, f), hr.symm, g, (f'.2.1 14 (by omega)).trans h14, hrf⟩⟩
    · rw [if_neg c3] at hr
      rw [if_neg (show ¬ nI (rsK (tkK t b)) = 5 from fun z => c3 (r5.mp ((nI_eq (b := 5) (by omega) (by omega)).mp z))), due_f h14, px_bd]
      exact ⟨_, rfl, f14, Or.inr ⟨tkS t b, hr.symm, by rw [upI_hit]; exact hk.2.1, by have := (tk_le hb).1; omega⟩⟩
  · have h14' : ¬ M.1 0 14 = -9 := by rw [h14]; exact fault_ne hp3
    have dead : ∀ s0, ∃ M', jMod_readItem_b235 s0 M = some M' ∧ mf4 M M' ∧ Fin t R x rf M' := fun s0 => by
      unfold jMod_readItem_b235
      rw [due_n h14', px_bd]
      exact ⟨M, rfl, mf4.rf M, Or.inr ⟨p, hp, h14, hp3⟩⟩
    by_cases c : M.1 0 12 = 5
    · rw [if_pos c]; exact dead 1
    · rw [if_neg c]; exact dead 0
/-- what a telling leaves alone in the reference -/
def msc (S S' : St) : Prop := S'.1 0 2 = S.1 0 2 ∧ S'.1 2 0 = S.1 2 0 ∧ S'.1 4 0 = S.1 4 0 ∧ (∀ j, j < 40 → S'.1 5 j = S.1 5 j) ∧ (∀ j, j < 8 → S'.1 6 j = S.1 6 j ∧ S'.1 7 j = S.1 7 j) ∧ (∀ r, r = 1 ∨ r = 9 ∨ r = 10 → S'.1 r = S.1 r) ∧ S'.2 = S.2
theorem msc.rf (S : St) : msc S S := ⟨rfl, rfl, rfl, fun _ _ => rfl, fun _ _ => ⟨rfl, rfl⟩, fun _ _ => rfl, rfl⟩
theorem msc.tr {S S' S2 : St} (h : msc S S') (h2 : msc S' S2) : msc S S2 := by
  obtain ⟨a1, a2, a3, a4, a5, a6, a7⟩ := h
  obtain ⟨b1, b2, b3, b4, b5, b6, b7⟩ := h2
  exact ⟨b1.trans a1, b2.trans a2, b3.trans a3, fun j hj => (b4 j hj).trans (a4 j hj), fun j hj => ⟨(b5 j hj).1.trans (a5 j hj).1, (b5 j hj).2.trans (a5 j hj).2⟩, fun r hr => (b6 r hr).trans (a6 r hr), b7.trans a7⟩
theorem mf4.sc {S S' : St} (h : mf4 S S') : msc S S' := ⟨h.2.1 2 (by omega), by rw [h.1 2 (by omega)], by rw [h.1 4 (by omega)], fun j _ => by rw [h.1 5 (by omega)], fun j _ => ⟨by rw [h.1 6 (by omega)], by rw [h.1 7 (by omega)]⟩, fun r hr => h.1 r (by omega), h.2.2⟩
theorem sc3 {S : St} {j : Nat} {v : Int32} : msc S (upI S 3 j v) := ⟨upI_row (by omega), upI_row (by omega), upI_row (by omega), fun _ _ => upI_row (by omega), fun _ _ => ⟨upI_row (by omega), upI_row (by omega)⟩, fun r hr => upI_o r (by omega), rfl⟩
theorem sc8 {S : St} {j : Nat} {v : Int32} : msc S (upI S 8 j v) := ⟨upI_row (by omega), upI_row (by omega), upI_row (by omega), fun _ _ => upI_row (by omega), fun _ _ => ⟨upI_row (by omega), upI_row (by omega)⟩, fun r hr => upI_o r (by omega), rfl⟩
theorem sc0 {S : St} {j : Nat} {v : Int32} (hj : 10 ≤ j) : msc S (upI S 0 j v) := ⟨upI_off (by omega), upI_row (by omega), upI_row (by omega), fun _ _ => upI_row (by omega), fun _ _ => ⟨upI_row (by omega), upI_row (by omega)⟩, fun r hr => upI_o r (by omega), rfl⟩
theorem sc2 {S : St} {j : Nat} {v : Int32} (hj : 1 ≤ j) : msc S (upI S 2 j v) := ⟨upI_row (by omega), upI_off (by omega), upI_row (by omega), fun _ _ => upI_row (by omega), fun _ _ => ⟨upI_row (by omega), upI_row (by omega)⟩, fun r hr => upI_o r (by omega), rfl⟩
theorem sc4 {S : St} {j : Nat} {v : Int32} (hj : 1 ≤ j) : msc S (upI S 4 j v) := ⟨upI_row (by omega), upI_row (by omega), upI_off (by omega), fun _ _ => upI_row (by omega), fun _ _ => ⟨upI_row (by omega), upI_row (by omega)⟩, fun r hr => upI_o r (by omega), rfl⟩
theorem sc5 {S : St} {j : Nat} {v : Int32} (hj : 40 ≤ j) : msc S (upI S 5 j v) := ⟨upI_row (by omega), upI_row (by omega), upI_row (by omega), fun _ _ => upI_off (by omega), fun _ _ => ⟨upI_row (by omega), upI_row (by omega)⟩, fun r hr => upI_o r (by omega), rfl⟩
theorem sc6 {S : St} {j : Nat} {v : Int32} (hj : 8 ≤ j) : msc S (upI S 6 j v) := ⟨upI_row (by omega), upI_row (by omega), upI_row (by omega), fun _ _ => upI_row (by omega), fun _ _ => ⟨upI_off (by omega), upI_row (by omega)⟩, fun r hr => upI_o r (by omega), rfl⟩
theorem sc7 {S : St} {j : Nat} {v : Int32} (hj : 8 ≤ j) : msc S (upI S 7 j v) := ⟨upI_row (by omega), upI_row (by omega), upI_row (by omega), fun _ _ => upI_row (by omega), fun _ _ => ⟨upI_row (by omega), upI_off (by omega)⟩, fun r hr => upI_o r (by omega), rfl⟩
theorem MT.sc {t : Tx} {S S' : St} (h : MT t S) (hs : msc S S') : MT t S' := ⟨hs.1.trans h.1, h.2.1, fun j hj => ⟨by rw [hs.2.2.2.2.2.1 1 (by omega)]; exact (h.2.2 j hj).1, (h.2.2 j hj).2⟩⟩
/-- rows of a telling -/
def MD (D : Df) (S : St) : Prop := S.1 2 1 = nI D.nh ∧ S.1 4 1 = nI D.mn.nd ∧ S.1 8 1 = nI (D.fog.getD 0) ∧ S.1 0 15 = nI (if D.fog = none then 0 else 1) ∧ (∀ h, h < D.nh → ∀ k, k < 5 → S.1 3 (5 * (6 + h) + k) = nI (D.L h k)) ∧ MMn 8 D.mn S
theorem MD.m4 {D : Df} {S S' : St} (h : MD D S) (hs : mf4 S S') : MD D S' := by
  unfold MD MMn at *
  rw [hs.1 2 (by omega), hs.1 4 (by omega), hs.1 8 (by omega), hs.2.1 15 (by omega), hs.1 3 (by omega), hs.1 5 (by omega), hs.1 6 (by omega), hs.1 7 (by omega)]
  exact h
/-- how an item ends, with what it tells -/
def Ite (t : Tx) (D : Df) (kind : Nat) (R : Sum Nat (Nat × (Nat → Nat))) (q : St) : Prop := (∃ r, R = .inr r ∧ TkM t (tkN t r.1) q ∧ q.1 0 14 = -9 ∧ MD (putD D kind r.2) q) ∨ (∃ p, R = .inl p ∧ q.1 0 14 = nI p ∧ p ≤ 300)
theorem itemHouse {t : Tx} {D : Df} {M : St} (ht : MT t M) (hD : MD D M) (hn : D.nh < 6) {R : Sum Nat (Nat × (Nat → Nat))} (hl : Liv t 4 R 5 0 (fun _ => 0) M) : ∃ M', jMod_readItem_h84 FU (nI (6 + D.nh)) 0 M = some M' ∧ msc M M' ∧ Ite t D 4 R M' := by
  obtain ⟨m1, S1, e1, i1, i2, i3, i4⟩ := for_go (F := fun n i (q : St) => jMod_readItem_h84 n (nI (6 + D.nh)) (nI i) q) (N := 5) (I := fun i q => msc M q ∧ (∀ r, r ≠ 0 → r ≠ 3 → q.1 r = M.1 r) ∧ ((q.1 0 15 = M.1 0 15) ∧ ∀ j, j < 5 * (6 + D.nh) → q.1 3 j = M.1 3 j) ∧ Liv t 4 R (5 - i) i (fun k => q.1 3 (5 * (6 + D.nh) + k)) q) (fun n i q hi ⟨i1, i2, i3, i4⟩ => by
    rw [show 5 - i = (5 - (i + 1)) + 1 by omega] at i4
    obtain ⟨v, M', e, f, g⟩ := number_ok (ht.sc i1) i4 (m := 9) (by unfold mostK; rw [if_neg (by omega), if_neg (by omega)])
    have e : jMod_number 9 q = some (v, M') := e
    rw [jMod_readItem_h84, jMod_readItem_b84, z5, if_neg (nI_ge hi (by decide)), e, px_bd, nI_mul, nI_add, px_gd (by omega) (by omega), px_lt, nI_clamp (by omega), z1, nI_add]
    refine ⟨_, rfl, (i1.tr f.sc).tr sc3, fun r h1 h2 => ?_, ⟨?_, fun j hj => ?_⟩, (g.r0 (upI_o 0 (by omega))).cg fun j hj => ?_⟩
    · rw [upI_o r h2, f.1 r h1]; exact i2 r h1 h2
    · rw [upI_row (by omega), f.2.1 15 (by omega)]; exact i3.1
    · rw [upI_off (by omega), f.1 3 (by omega)]; exact i3.2 j hj
    · rw [upI_at]
      by_cases c : j = i
      · rw [if_pos ⟨rfl, by rw [c]⟩, if_pos c]
      · rw [if_neg (fun z => c (by omega)), if_neg c, f.1 3 (by omega)]) (i := 0) (s := M) (Nat.zero_le _) ⟨msc.rf M, fun _ _ _ => rfl, ⟨rfl, fun _ _ => rfl⟩, hl.cg fun j hj => by omega⟩ (n := FU) (by decide)
  have e1 : jMod_readItem_h84 FU (nI (6 + D.nh)) 0 M = jMod_readItem_h84 (m1 + 1) (nI (6 + D.nh)) (nI 5) S1 := e1
  obtain ⟨q1, q2, q3, q4, q5, q6⟩ := hD
  have e2 : S1.1 2 1 = nI D.nh := by rw [i2 2 (by omega) (by omega)]; exact q1
  rw [e1, jMod_readItem_h84, jMod_readItem_b84, z5, if_pos (nI_le (Nat.le_refl _) (by decide)), z1, px_ld (by omega) (by omega), e2, nI_add, px_gd (by omega) (by omega), px_lt, nI_clamp (by omega)]
  have hs : msc M (upI S1 2 1 (nI (D.nh + 1))) := i1.tr (sc2 (by omega))
  obtain ⟨M', e, f, g⟩ := fin_ok (ht.sc hs) (i4.r0 (q' := upI S1 2 1 (nI (D.nh + 1))) (upI_o 0 (by omega)))
  refine ⟨M', e, hs.tr f.sc, ?_⟩
  rcases g with ⟨r, hr, g1, g2, g3⟩ | g
  · refine Or.inl ⟨r, hr, g1, g2, MD.m4 ?_ f⟩
    refine ⟨by rw [upI_hit]; rfl, ?_, ?_, ?_, fun h hh k hk => ?_, fun d hd => ⟨fun k hk => ?_, ?_⟩⟩
    · rw [upI_row (by omega), i2 4 (by omega) (by omega)]; exact q2
    · rw [upI_row (by omega), i2 8 (by omega) (by omega)]; exact q3
    · rw [upI_row (by omega), i3.1]; exact q4
    · have hh : h < D.nh + 1 := hh
      rw [upI_row (by omega)]
      by_cases c : h = D.nh
      · rw [c]
        exact (g3 k hk).trans (congrArg nI (if_pos rfl).symm)
      · rw [i3.2 _ (by omega), q5 h (by omega) k hk]
        exact congrArg nI (if_neg c).symm
    · rw [upI_row (by omega), i2 5 (by omega) (by omega)]; exact (q6 d hd).1 k hk
    · rw [upI_row (by omega), upI_row (by omega), i2 6 (by omega) (by omega), i2 7 (by omega) (by omega)]; exact (q6 d hd).2
  · exact Or.inr g
theorem itemDish {t : Tx} {D : Df} {M : St} (ht : MT t M) (hD : MD D M) (hn : D.mn.nd < 8) {R : Sum Nat (Nat × (Nat → Nat))} (hl : Liv t 5 R 7 0 (fun _ => 0) M) : ∃ M', jMod_readItem_h141 FU (nI (8 + D.mn.nd)) 0 M = some M' ∧ msc M M' ∧ Ite t D 5 R M' := by
  obtain ⟨m1, S1, e1, i1, i2, i3, i4⟩ := for_go (F := fun n i (q : St) => jMod_readItem_h141 n (nI (8 + D.mn.nd)) (nI i) q) (N := 5) (I := fun i q => msc M q ∧ (∀ r, r ≠ 0 → r ≠ 5 → q.1 r = M.1 r) ∧ ((q.1 0 15 = M.1 0 15) ∧ ∀ j, j < 5 * (8 + D.mn.nd) → q.1 5 j = M.1 5 j) ∧ Liv t 5 R (7 - i) i (fun k => q.1 5 (5 * (8 + D.mn.nd) + k)) q) (fun n i q hi ⟨i1, i2, i3, i4⟩ => by
    rw [show 7 - i = (7 - (i + 1)) + 1 by omega] at i4
    obtain ⟨v, M', e, f, g⟩ := number_ok (ht.sc i1) i4 (m := 9) (by unfold mostK; rw [if_neg (by omega), if_neg (by omega)])
    have e : jMod_number 9 q = some (v, M') := e
    rw [jMod_readItem_h141, jMod_readItem_b141, z5, if_neg (nI_ge hi (by decide)), e, px_bd, nI_mul, nI_add, px_gd (by omega) (by omega), px_lt, nI_clamp (by omega), z1, nI_add]
    refine ⟨_, rfl, (i1.tr f.sc).tr (sc5 (by omega)), fun r h1 h2 => ?_, ⟨?_, fun j hj => ?_⟩, (g.r0 (upI_o 0 (by omega))).cg fun j hj => ?_⟩
    · rw [upI_o r h2, f.1 r h1]; exact i2 r h1 h2
    · rw [upI_row (by omega), f.2.1 15 (by omega)]; exact i3.1
    · rw [upI_off (by omega), f.1 5 (by omega)]; exact i3.2 j hj
    · rw [upI_at]
      by_cases c : j = i
      · rw [if_pos ⟨rfl, by rw [c]⟩, if_pos c]
      · rw [if_neg (fun z => c (by omega)), if_neg c, f.1 5 (by omega)]) (i := 0) (s := M) (Nat.zero_le _) ⟨msc.rf M, fun _ _ _ => rfl, ⟨rfl, fun _ _ => rfl⟩, hl.cg fun j hj => by omega⟩ (n := FU) (by decide)
  have e1 : jMod_readItem_h141 FU (nI (8 + D.mn.nd)) 0 M = jMod_readItem_h141 (m1 + 1) (nI (8 + D.mn.nd)) (nI 5) S1 := e1
  obtain ⟨q1, q2, q3, q4, q5, q6⟩ := hD
  -- the smoke
  obtain ⟨v1, M1, n1, f1, g1⟩ := number_ok (ht.sc i1) (show Liv t 5 R (1 + 1) 5 _ S1 from i4) (m := 7) rfl
  have n1 : jMod_number 7 S1 = some (v1, M1) := n1
  obtain ⟨T1, hT1⟩ : ∃ T1, T1 = upI M1 6 (8 + D.mn.nd) v1 := ⟨_, rfl⟩
  have s1 : msc M T1 := by rw [hT1]; exact (i1.tr f1.sc).tr (sc6 (by omega))
  obtain ⟨v2, M2, n2, f2, g2⟩ := number_ok (ht.sc s1) (show Liv t 5 R (0 + 1) 6 _ T1 from g1.r0 (by rw [hT1]; exact upI_o 0 (by omega))) (m := 7) rfl
  have n2 : jMod_number 7 T1 = some (v2, M2) := n2
  obtain ⟨T2, hT2⟩ : ∃ T2, T2 = upI M2 7 (8 + D.mn.nd) v2 := ⟨_, rfl⟩
  have s2 : msc M T2 := by rw [hT2]; exact (s1.tr f2.sc).tr (sc7 (by omega))
  have r4 : T2.1 4 1 = nI D.mn.nd := by
    rw [hT2, upI_row (by omega), f2.1 4 (by omega), hT1, upI_row (by omega), f1.1 4 (by omega), i2 4 (by omega) (by omega)]
    exact q2
  obtain ⟨T3, hT3⟩ : ∃ T3, T3 = upI T2 4 1 (nI (D.mn.nd + 1)) := ⟨_, rfl⟩
  have s3 : msc M T3 := by rw [hT3]; exact s2.tr (sc4 (by omega))
  have g3 : Liv t 5 R 0 7 _ T3 := g2.r0 (q' := T3) (by rw [hT3, hT2, upI_o 0 (by omega), upI_o 0 (by omega)])
  have run : jMod_readItem_h141 (m1 + 1) (nI (8 + D.mn.nd)) (nI 5) S1 = jMod_readItem_b221 T3 := by
    rw [jMod_readItem_h141, jMod_readItem_b141, z5, if_pos (nI_le (Nat.le_refl _) (by decide)), n1, px_bd, px_gd (by omega) (by omega), px_lt, nI_clamp (by omega), ← hT1, n2, px_bd, px_gd (by omega) (by omega), px_lt, ← hT2, z1, px_ld (by omega) (by omega), r4, nI_add, px_gd (by omega) (by omega), px_lt, nI_clamp (by omega), ← hT3]
  obtain ⟨M', e, f, g⟩ := fin_ok (ht.sc s3) g3
  rw [e1, run]
  refine ⟨M', e, s3.tr f.sc, ?_⟩
  rcases g with ⟨r, hr, k1, k2, k3⟩ | g
  · refine Or.inl ⟨r, hr, k1, k2, MD.m4 ?_ f⟩
    have row : ∀ r, r ≠ 0 → r ≠ 4 → r ≠ 5 → r ≠ 6 → r ≠ 7 → T3.1 r = M.1 r := fun r a b c d e => by
      rw [hT3, upI_o r b, hT2, upI_o r e, f2.1 r a, hT1, upI_o r d, f1.1 r a, i2 r a c]
    have r5 : T3.1 5 = S1.1 5 := by
      rw [hT3, upI_o 5 (by omega), hT2, upI_o 5 (by omega), f2.1 5 (by omega), hT1, upI_o 5 (by omega), f1.1 5 (by omega)]
    have r6 : T3.1 6 = upd (M.1 6) (8 + D.mn.nd) v1 := by
      rw [hT3, upI_o 6 (by omega), hT2, upI_o 6 (by omega), f2.1 6 (by omega), hT1, upI_1, f1.1 6 (by omega), i2 6 (by omega) (by omega)]
    have r7 : T3.1 7 = upd (M.1 7) (8 + D.mn.nd) v2 := by
      rw [hT3, upI_o 7 (by omega), hT2, upI_1, f2.1 7 (by omega), hT1, upI_o 7 (by omega), f1.1 7 (by omega), i2 7 (by omega) (by omega)]
    have w5 : v1 = nI (r.2 5) := by have := k3 5 (by omega); simpa using this
    have w6 : v2 = nI (r.2 6) := by have := k3 6 (by omega); simpa using this
    have wk : ∀ k, k < 5 → S1.1 5 (5 * (8 + D.mn.nd) + k) = nI (r.2 k) := fun k hk => by
      have : (if k = 6 then v2 else if k = 5 then v1 else S1.1 5 (5 * (8 + D.mn.nd) + k)) = nI (r.2 k) := k3 k (by omega)
      rw [if_neg (by omega), if_neg (by omega)] at this
      exact this
    refine ⟨?_, by rw [hT3, upI_hit]; rfl, ?_, ?_, fun h hh k hk => ?_, fun d hd => ?_⟩
    · rw [row 2 (by omega) (by omega) (by omega) (by omega) (by omega)]; exact q1
    · rw [row 8 (by omega) (by omega) (by omega) (by omega) (by omega)]; exact q3
    · rw [hT3, upI_row (by omega), hT2, upI_row (by omega), f2.2.1 15 (by omega), hT1, upI_row (by omega), f1.2.1 15 (by omega), i3.1]; exact q4
    · rw [row 3 (by omega) (by omega) (by omega) (by omega) (by omega)]; exact q5 h hh k hk
    · have hd : d < D.mn.nd + 1 := hd
      show (∀ k, k < 5 → T3.1 5 (5 * (8 + d) + k) = nI (if d = D.mn.nd then r.2 k else D.mn.need d k)) ∧ T3.1 6 (8 + d) = nI (if d = D.mn.nd then r.2 5 else D.mn.sm d) ∧ T3.1 7 (8 + d) = nI (if d = D.mn.nd then r.2 6 else D.mn.wd d)
      rw [r5, r6, r7]
      by_cases c : d = D.mn.nd
      · subst c
        simp only [if_true]
        refine ⟨wk, ?_, ?_⟩
        · rw [pk_us]; exact w5
        · rw [pk_us]; exact w6
      · simp only [if_neg c]
        obtain ⟨a1, a2, a3⟩ := q6 d (by omega)
        refine ⟨fun k hk => ?_, ?_, ?_⟩
        · rw [i3.2 _ (by omega)]; exact a1 k hk
        · rw [pk_un (by omega)]; exact a2
        · rw [pk_un (by omega)]; exact a3
  · exact Or.inr g
