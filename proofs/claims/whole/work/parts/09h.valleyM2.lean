theorem itemFog {t : Tx} {D : Df} {M : St} (ht : MT t M) (hD : MD D M) {R : Sum Nat (Nat × (Nat → Nat))} (hl : Liv t 6 R 1 0 (fun _ => 0) M) : ∃ M', (x_bd (jMod_number 5 M) (fun v5 S4 => x_gd 2 1 (x_lt (upI S4 8 (Int32.toNatClampNeg 1) v5) (fun S6 => x_lt (upI S6 0 15 1) (fun S7 => jMod_readItem_b221 S7))))) = some M' ∧ msc M M' ∧ Ite t D 6 R M' := by
  obtain ⟨v1, M1, n1, f1, g1⟩ := number_ok ht hl (m := 5) rfl
  have n1 : jMod_number 5 M = some (v1, M1) := n1
  obtain ⟨T1, hT1⟩ : ∃ T1, T1 = upI (upI M1 8 1 v1) 0 15 1 := ⟨_, rfl⟩
  have s1 : msc M T1 := by rw [hT1]; exact (f1.sc.tr sc8).tr (sc0 (by omega))
  have g2 : Liv t 6 R 0 1 (fun j => if j = 0 then v1 else 0) T1 := by
    have c : ∀ j, j < 15 → T1.1 0 j = M1.1 0 j := fun j hj => by rw [hT1, upI_off (by omega), upI_row (by omega)]
    rcases g1 with ⟨b, f, a1, a2, a3, a4, a5⟩ | ⟨p, p1, p2, p3⟩
    · refine Or.inl ⟨b, f, a1, a2, ?_, (c 14 (by omega)).trans a4, a5⟩
      unfold TkM at *
      rw [c 10 (by omega), c 11 (by omega), c 12 (by omega), c 13 (by omega)]
      exact a3
    · exact Or.inr ⟨p, p1, (c 14 (by omega)).trans p2, p3⟩
  obtain ⟨M', e, f, g⟩ := fin_ok (ht.sc s1) g2
  rw [n1, px_bd, show x_gd 2 1 = x_gd (β := St) 2 (nI 1) from rfl, px_gd (by omega) (by omega), px_lt, px_lt, show Int32.toNatClampNeg 1 = 1 from rfl, ← hT1]
  refine ⟨M', e, s1.tr f.sc, ?_⟩
  obtain ⟨q1, q2, q3, q4, q5, q6⟩ := hD
  rcases g with ⟨r, hr, k1, k2, k3⟩ | g
  · refine Or.inl ⟨r, hr, k1, k2, MD.m4 ?_ f⟩
    have w : v1 = nI (r.2 0) := by have := k3 0 (by omega); simpa using this
    refine ⟨?_, ?_, ?_, ?_, fun h hh k hk => ?_, fun d hd => ⟨fun k hk => ?_, ?_⟩⟩
    · rw [hT1, upI_row (by omega), upI_row (by omega), f1.1 2 (by omega)]; exact q1
    · rw [hT1, upI_row (by omega), upI_row (by omega), f1.1 4 (by omega)]; exact q2
    · rw [hT1, upI_row (by omega), upI_hit, w]; rfl
    · rw [hT1, upI_hit]; rfl
    · rw [hT1, upI_row (by omega), upI_row (by omega), f1.1 3 (by omega)]; exact q5 h hh k hk
    · rw [hT1, upI_row (by omega), upI_row (by omega), f1.1 5 (by omega)]; exact (q6 d hd).1 k hk
    · rw [hT1, upI_row (by omega), upI_row (by omega), upI_row (by omega), upI_row (by omega), f1.1 6 (by omega), f1.1 7 (by omega)]; exact (q6 d hd).2
  · exact Or.inr g
theorem readItemM {t : Tx} {D : Df} {M : St} {a : Nat} (ht : MT t M) (ha : a ≤ t.1) (hk : TkM t a M) (h14 : M.1 0 14 = -9) (hD : MD D M) (hw : WD D) (h0 : ¬ tkK t a = 0) : ∃ M', jMod_readItem M = some M' ∧ msc M M' ∧ Ite t D (tkK t a) (itemT t a D) M' := by
  have h300 := ht.2.1
  have h6 := hw.1
  have h8 := hw.2.1.1
  have hkl := kind_le (t := t) (a := a)
  obtain ⟨q1, q2, q3, q4, q5, q6⟩ := id hD
  unfold jMod_readItem
  rw [px_lt, hk.2.2.1]
  -- an item that may not begin
  have no : ∀ x1, itemT t a D = .inl (tkS t a) → ∃ M', jMod_readItem_b54 x1 0 M = some M' ∧ msc M M' ∧ Ite t D (tkK t a) (itemT t a D) M' := fun x1 e => by
    unfold jMod_readItem_b54
    rw [due_f h14, px_bd, upI_hit, hk.2.1, if_neg (fault_ne (by have := (tk_le ha).1; omega))]
    exact ⟨_, rfl, sc0 (by omega), Or.inr ⟨tkS t a, e, upI_hit, by have := (tk_le ha).1; omega⟩⟩
  -- one that may
  have yes : mayK D (tkK t a) = true → ∃ M1, jMod_due 1 M = some (M.1 0 13, M1) ∧ mfr M M1 ∧ M1.1 0 14 = -9 ∧ itemT t a D = numsT t (tkK t a) (cntK (tkK t a)) 0 (tkN t a) (fun _ => 0) ∧ Liv t (tkK t a) (itemT t a D) (cntK (tkK t a)) 0 (fun _ => 0) M1 := fun cm => by
    obtain ⟨M1, e, f, g⟩ := due_t ht ha hk h14 n10
    have e2 : itemT t a D = numsT t (tkK t a) (cntK (tkK t a)) 0 (tkN t a) (fun _ => 0) := if_pos cm
    have g14 : M1.1 0 14 = -9 := (f.2.1 14 (by omega)).trans h14
    exact ⟨M1, e, f, g14, e2, Or.inl ⟨tkN t a, _, e2.symm, (tk_le ha).2, g, g14, fun j hj => by omega⟩⟩
  by_cases c4 : tkK t a = 4
  · rw [if_pos (show nI (rsK (tkK t a)) = 0 by rw [c4]; rfl), show x_ld (M.1 2) 2 1 = x_ld (β := St) (M.1 2) 2 (nI 1) from rfl, px_ld (by omega) (by omega), q1]
    by_cases c : D.nh < 6
    · have cm : mayK D (tkK t a) = true := decide_eq_true (Or.inl ⟨c4, c⟩)
      obtain ⟨M1, e1, f1, g14, e2, l1⟩ := yes cm
      have r1 : M1.1 2 1 = nI D.nh := by rw [f1.1 2 (by omega)]; exact q1
      rw [if_pos (show nI D.nh < 6 from (nI_lt c (by omega) : nI D.nh < nI 6)), c4]
      unfold jMod_readItem_b54
      rw [e1, px_bd, g14, if_pos rfl, if_pos (show nI (rsK 4) = 0 from rfl), show x_ld (M1.1 2) 2 1 = x_ld (β := St) (M1.1 2) 2 (nI 1) from rfl, px_ld (by omega) (by omega), r1, z6, nI_add, px_lt]
      rw [c4] at l1
      obtain ⟨M', e, s, g⟩ := itemHouse (ht.fr f1) (hD.m4 f1.m4) c l1
      exact ⟨M', e, f1.m4.sc.tr s, g⟩
    · have cm : ¬ mayK D (tkK t a) = true := fun z => by
        unfold mayK at z
        have z := of_decide_eq_true z
        omega
      rw [if_neg (show ¬ nI D.nh < 6 from (nI_nlt (by omega) (by omega) : ¬ nI D.nh < nI 6))]
      unfold jMod_readItem_b21 jMod_readItem_b37
      rw [c4, if_neg (by decide), if_neg (by decide), ← c4]
      exact no _ (if_neg cm)
  · rw [if_neg (show ¬ nI (rsK (tkK t a)) = 0 from fun z => by
      have := (nI_eq (b := 0) (by have := (rsK_4 hkl).2.2.2; omega) (by omega)).mp z
      rcases (by omega : tkK t a = 1 ∨ tkK t a = 2 ∨ tkK t a = 3 ∨ tkK t a = 5 ∨ tkK t a = 6) with y | y | y | y | y <;> rw [y] at this <;> revert this <;> decide)]
    unfold jMod_readItem_b21
    by_cases c5 : tkK t a = 5
    · rw [if_pos (show nI (rsK (tkK t a)) = 1 by rw [c5]; rfl), show x_ld (M.1 4) 2 1 = x_ld (β := St) (M.1 4) 2 (nI 1) from rfl, px_ld (by omega) (by omega), q2]
      by_cases c : D.mn.nd < 8
      · have cm : mayK D (tkK t a) = true := decide_eq_true (Or.inr (Or.inl ⟨c5, c⟩))
        obtain ⟨M1, e1, f1, g14, e2, l1⟩ := yes cm
        have r1 : M1.1 4 1 = nI D.mn.nd := by rw [f1.1 4 (by omega)]; exact q2
        rw [if_pos (show nI D.mn.nd < 8 from (nI_lt c (by omega) : nI D.mn.nd < nI 8)), c5]
        unfold jMod_readItem_b54
        rw [e1, px_bd, g14, if_pos rfl, if_neg (show ¬ nI (rsK 5) = 0 by decide), if_pos (show nI (rsK 5) = 1 from rfl), show x_ld (M1.1 4) 2 1 = x_ld (β := St) (M1.1 4) 2 (nI 1) from rfl, px_ld (by omega) (by omega), r1, z8, nI_add, px_lt]
        rw [c5] at l1
        obtain ⟨M', e, s, g⟩ := itemDish (ht.fr f1) (hD.m4 f1.m4) c l1
        exact ⟨M', e, f1.m4.sc.tr s, g⟩
      · have cm : ¬ mayK D (tkK t a) = true := fun z => by
          unfold mayK at z
          have z := of_decide_eq_true z
          omega
        rw [if_neg (show ¬ nI D.mn.nd < 8 from (nI_nlt (by omega) (by omega) : ¬ nI D.mn.nd < nI 8))]
        unfold jMod_readItem_b37
        rw [c5, if_neg (by decide), ← c5]
        exact no _ (if_neg cm)
    · rw [if_neg (show ¬ nI (rsK (tkK t a)) = 1 from fun z => by
        have := (nI_eq (b := 1) (by have := (rsK_4 hkl).2.2.2; omega) (by omega)).mp z
        rcases (by omega : tkK t a = 1 ∨ tkK t a = 2 ∨ tkK t a = 3 ∨ tkK t a = 6) with y | y | y | y <;> rw [y] at this <;> revert this <;> decide)]
      unfold jMod_readItem_b37
      by_cases c6 : tkK t a = 6
      · rw [if_pos (show nI (rsK (tkK t a)) = 2 by rw [c6]; rfl), q4]
        by_cases c : D.fog = none
        · have cm : mayK D (tkK t a) = true := decide_eq_true (Or.inr (Or.inr ⟨c6, c⟩))
          obtain ⟨M1, e1, f1, g14, e2, l1⟩ := yes cm
          rw [if_pos (show nI (if D.fog = none then 0 else 1) = 0 by rw [if_pos c]; rfl), c6]
          unfold jMod_readItem_b54
          rw [e1, px_bd, g14, if_pos rfl, if_neg (show ¬ nI (rsK 6) = 0 by decide), if_neg (show ¬ nI (rsK 6) = 1 by decide)]
          rw [c6] at l1
          obtain ⟨M', e, s, g⟩ := itemFog (ht.fr f1) (hD.m4 f1.m4) l1
          exact ⟨M', e, f1.m4.sc.tr s, g⟩
        · have cm : ¬ mayK D (tkK t a) = true := fun z => by
            unfold mayK at z
            rcases of_decide_eq_true z with z | z | z
            · omega
            · omega
            · exact c z.2
          rw [if_neg (show ¬ nI (if D.fog = none then 0 else 1) = 0 by rw [if_neg c]; decide)]
          exact no _ (if_neg cm)
      · have cm : ¬ mayK D (tkK t a) = true := fun z => by
          unfold mayK at z
          have z := of_decide_eq_true z
          omega
        rw [if_neg (show ¬ nI (rsK (tkK t a)) = 2 from fun z => by
          have := (nI_eq (b := 2) (by have := (rsK_4 hkl).2.2.2; omega) (by omega)).mp z
          rcases (by omega : tkK t a = 1 ∨ tkK t a = 2 ∨ tkK t a = 3) with y | y | y <;> rw [y] at this <;> revert this <;> decide)]
        exact no _ (if_neg cm)
/-- how a telling ends -/
def Tel (R : Sum Nat (Nat × Df)) (x : Int32) (q : St) : Prop := match R with
  | .inl p => q.1 0 14 = nI p ∧ p ≤ 300
  | .inr r => x = nI r.1 ∧ q.1 0 14 = -9 ∧ MD r.2 q
theorem MR.sc {g : Gh} {S S' : St} (h : MR g S) (hw : WG g) (hs : msc S S') : MR g S' := by
  obtain ⟨q1, q2, q3, q4, q5, q6, q7, q8, q9⟩ := h
  obtain ⟨s1, s2, s3, s4, s5, s6, s7⟩ := hs
  have h8 := hw.mn.1
  have keyS : ∀ {b : Nat} {P : Sp}, MSp b g.nh P S → MSp b g.nh P S' := by
    intro b P hh
    unfold MSp at *
    rw [s6 9 (by omega)]
    exact hh
  have key : ∀ {i : Nat} {o : Option Sp}, MIm i g.nh o S → MIm i g.nh o S' := by
    intro i o h
    cases o with
    | none => exact (congrFun (s6 10 (by omega)) i).trans h
    | some P => exact ⟨(congrFun (s6 10 (by omega)) i).trans h.1, keyS h.2⟩
  refine ⟨s1.trans q1, fun j hj => by rw [s6 1 (by omega)]; exact q2 j hj, s3.trans q3, fun d hd => ?_, s2.trans q5, keyS q6, key q7, key q8, by rw [s7]; exact q9⟩
  obtain ⟨a1, a2, a3⟩ := q4 d hd
  refine ⟨fun k hk => ?_, ?_, ?_⟩
  · rw [s4 _ (by omega)]; exact a1 k hk
  · rw [(s5 _ (by omega)).1]; exact a2
  · rw [(s5 _ (by omega)).2]; exact a3
theorem MR.mt {g : Gh} {S : St} (h : MR g S) (hw : WG g) : MT g.1 S := ⟨h.1, hw.1, fun j hj => ⟨h.2.1 j hj, hw.2.1 j hj⟩⟩
theorem tellM {t : Tx} {M : St} (ht : MT t M) : ∃ x S', jMod_valley M = jMod_valley_b70 x S' ∧ msc M S' ∧ Tel (tellT t) x S' := by
  have h300 := ht.2.1
  unfold jMod_valley
  rw [px_lt, px_lt, show x_gd 2 1 = x_gd (β := Int32 × St) 2 (nI 1) from rfl, px_gd (by omega) (by omega), px_lt, px_gd (by omega) (by omega), px_lt, px_gd (by omega) (by omega), px_lt, px_lt, show Int32.toNatClampNeg 1 = 1 from rfl]
  obtain ⟨S1, hS1⟩ : ∃ S1, S1 = upI (upI (upI (upI (upI (upI M 0 10 0) 0 14 (-9)) 2 1 0) 4 1 0) 8 1 0) 0 15 0 := ⟨_, rfl⟩
  have s1 : msc M S1 := by
    rw [hS1]
    exact ((((((msc.rf M).tr (sc0 (by omega))).tr (sc0 (by omega))).tr (sc2 (by omega))).tr (sc4 (by omega))).tr sc8).tr (sc0 (by omega))
  have d1 : MD D0 S1 := by
    rw [hS1]
    refine ⟨?_, ?_, ?_, ?_, fun h hh => absurd hh (Nat.not_lt_zero _), fun d hd => absurd hd (Nat.not_lt_zero _)⟩
    · rw [upI_row (by omega), upI_row (by omega), upI_row (by omega), upI_hit]; rfl
    · rw [upI_row (by omega), upI_row (by omega), upI_hit]; rfl
    · rw [upI_row (by omega), upI_hit]; rfl
    · rw [upI_hit]; rfl
  have a10 : S1.1 0 10 = nI 0 := by
    rw [hS1, upI_off (by omega), upI_row (by omega), upI_row (by omega), upI_row (by omega), upI_off (by omega), upI_hit]; rfl
  have a14 : S1.1 0 14 = -9 := by
    rw [hS1, upI_off (by omega), upI_row (by omega), upI_row (by omega), upI_row (by omega), upI_hit]
  rw [← hS1]
  obtain ⟨S2, e2, f2, g1, g2, g3, g4⟩ := next_ok (ht.sc s1) (Nat.zero_le _) a10
  rw [e2, px_bv]
  obtain ⟨R, hR⟩ : ∃ R, R = tellT t := ⟨_, rfl⟩
  rw [← hR]
  have b14 : S2.1 0 14 = -9 := (f2.2.1 14 (by omega)).trans a14
  -- until the end, or until a fault
  have go : ∀ k i n (q : St), i + k = 16 → k + 2 < n → msc M q → (∃ a D, itemsT t k i a D = R ∧ a ≤ t.1 ∧ TkM t a q ∧ MD D q ∧ WD D ∧ i = wtD D ∧ q.1 0 14 = -9) → ∃ x S', jMod_valley_h43 n (nI i) q = jMod_valley_b70 x S' ∧ msc M S' ∧ Tel R x S' := by
    intro k
    induction k with
    | zero =>
      intro i n q hik hn hs ⟨a, D, hr, ha, hk, hd, hw, hwt, h14⟩
      have := wtD_le hw
      omega
    | succ k ih =>
      intro i n q hik hn hs ⟨a, D, hr, ha, hk, hd, hw, hwt, h14⟩
      obtain ⟨n, rfl⟩ := Nat.exists_eq_succ_of_ne_zero (n := n) (by omega)
      have hkl := kind_le (t := t) (a := a)
      obtain ⟨-, -, r3, r6⟩ := rsK_4 hkl
      simp only [itemsT] at hr
      rw [jMod_valley_h43, jMod_valley_b43, h14, if_pos rfl, hk.2.2.1]
      by_cases c0 : tkK t a = 0
      · rw [if_pos c0] at hr
        rw [if_pos (show nI (rsK (tkK t a)) = 3 by rw [c0]; rfl)]
        exact ⟨_, q, rfl, hs, by rw [← hr]; exact ⟨rfl, h14, hd⟩⟩
      · rw [if_neg c0] at hr
        rw [if_neg (show ¬ nI (rsK (tkK t a)) = 3 from fun z => c0 (r3.mp ((nI_eq (b := 3) (by omega) (by omega)).mp z)))]
        obtain ⟨M', e, s, g⟩ := readItemM (ht.sc hs) ha hk h14 hd hw c0
        rw [e, px_bv, z1, nI_add]
        rcases g with ⟨r, er, k1, k2, k3⟩ | ⟨p, ep, k1, k2⟩
        · rw [er] at hr
          obtain ⟨m1, m2, m3, m4⟩ := itemT_r ha er
          obtain ⟨w1, w2⟩ := hw.put m1 m4
          exact ih (i + 1) n M' (by omega) (by omega) (hs.tr s) ⟨_, _, hr, (tk_le m2).2, k1, k3, w1, by omega, k2⟩
        · rw [ep] at hr
          obtain ⟨n, rfl⟩ := Nat.exists_eq_succ_of_ne_zero (n := n) (by omega)
          rw [jMod_valley_h43, jMod_valley_b43, k1, if_neg (fault_ne k2)]
          exact ⟨_, M', rfl, hs.tr s, by rw [← hr]; exact ⟨k1, k2⟩⟩
  exact go 16 0 FU S2 rfl (by decide) (s1.tr f2.m4.sc) ⟨0, D0, hR.symm, Nat.zero_le _, ⟨g1, g2, g3, g4⟩, d1.m4 f2.m4, WD0, rfl, b14⟩
