/-! says and nearest in the reference -/
def andN (f : Nat → Bool) : Nat → Bool
  | 0 => true
  | n + 1 => andN f n && f n
theorem andN_s {f : Nat → Bool} {n : Nat} : andN f (n + 1) = (andN f n && f n) := rfl
theorem andN_t {f : Nat → Bool} : ∀ {n : Nat}, andN f n = true ↔ ∀ i, i < n → f i = true
  | 0 => ⟨fun _ i hi => by omega, fun _ => rfl⟩
  | n + 1 => by
    simp only [andN, Bool.and_eq_true]
    rw [andN_t]
    exact ⟨fun h i hi => by
      rcases Nat.lt_succ_iff_lt_or_eq.mp hi with r | r
      · exact h.1 i r
      · rw [r]; exact h.2, fun h => ⟨fun i hi => h i (by omega), h n (by omega)⟩⟩
theorem words_no {x1 x2 x3 : Int32} (h : rowOk x1 x2 x3) {p : Nat} (h3 : p < 3) (hp : ¬ p < toldN x2 x3) : selI x1 x2 x3 p = -1 := by
  unfold toldN at hp
  match p, h3 with
  | 0, _ =>
    exfalso
    apply hp
    split
    · omega
    · split <;> omega
  | 1, _ =>
    by_cases e2 : x2 = -1
    · exact e2
    · rw [if_neg e2] at hp
      exfalso
      apply hp
      split <;> omega
  | 2, _ =>
    show x3 = -1
    by_cases e2 : x2 = -1
    · rcases h.2 with z | ⟨q2, -⟩
      · exact z.2
      · rw [e2] at q2; exact absurd q2 rg_n1
    · by_cases e3 : x3 = -1
      · exact e3
      · rw [if_neg e2, if_neg e3] at hp
        omega
theorem inw_t {x : Int32} {M : St} (h : x = -1 ∨ rg x 8) : jMod_in x (-1) 7 M = some (1, M) := by
  rcases h with rfl | q
  · exact in_t (by decide) (by decide)
  · obtain ⟨j, hj, rfl⟩ := rg_of q (by omega)
    exact in_t (fun z => nI_pos (show j < 2 ^ 31 by omega) (Int32.lt_trans z (by decide))) (nI_nlt (a := 7) (by omega) (by omega))
theorem inw_f {x : Int32} {M : St} (h : ¬ (x = -1 ∨ rg x 8)) : jMod_in x (-1) 7 M = some (0, M) := by
  refine in_f ?_
  by_cases c : x < 0
  · left
    apply Int32.lt_iff_toInt_lt.mpr
    have e : (-1 : Int32).toInt = -1 := by decide
    have c := Int32.lt_iff_toInt_lt.mp c
    have e0 : (0 : Int32).toInt = 0 := by decide
    have : x.toInt ≠ -1 := fun z => h (Or.inl (Int32.toInt_inj.mp (z.trans e.symm)))
    omega
  · right
    rcases rg_no (n := 8) (fun z => h (Or.inr z)) with z | z
    · exact absurd z c
    · exact Int32.lt_of_lt_of_le (show (7 : Int32) < nI 8 by decide) z
theorem areWords_t {x1 x2 x3 : Int32} {M : St} (h : rowOk x1 x2 x3) : jMod_areWords x1 x2 x3 M = some (1, M) := by
  obtain ⟨h1, h2⟩ := h
  obtain ⟨a, ha, rfl⟩ := rg_of h1 (by omega)
  unfold jMod_areWords
  rw [show jMod_in (nI a) 0 7 M = some (1, M) from in0_t (n := 7) ha (by omega), px_bd, if_neg n10, inw_t (by rcases h2 with z | z; exact Or.inl z.1; exact Or.inr z.1), px_bd, if_neg n10, inw_t (by rcases h2 with z | z; exact Or.inl z.2; exact z.2), px_bd, if_neg n10]
  rcases h2 with ⟨e2, e3⟩ | ⟨q2, -⟩
  · rw [e2, e3, if_neg (by decide), if_neg (by decide), px_n1]
  · obtain ⟨b, hb, rfl⟩ := rg_of q2 (by omega)
    rw [if_pos (nI_pos' (by omega)), px_n1]
theorem areWords_f {x1 x2 x3 : Int32} {M : St} (h : ¬ rowOk x1 x2 x3) : jMod_areWords x1 x2 x3 M = some (0, M) := by
  unfold jMod_areWords
  by_cases h1 : rg x1 8
  · obtain ⟨a, ha, rfl⟩ := rg_of h1 (by omega)
    rw [show jMod_in (nI a) 0 7 M = some (1, M) from in0_t (n := 7) ha (by omega), px_bd, if_neg n10]
    by_cases q2 : x2 = -1 ∨ rg x2 8
    · rw [inw_t q2, px_bd, if_neg n10]
      by_cases q3 : x3 = -1 ∨ rg x3 8
      · rw [inw_t q3, px_bd, if_neg n10]
        rcases q2 with e2 | q2
        · rcases q3 with e3 | q3
          · exact absurd ⟨h1, Or.inl ⟨e2, e3⟩⟩ h
          · obtain ⟨b, hb, rfl⟩ := rg_of q3 (by omega)
            rw [e2, if_neg (by decide), if_pos (nI_pos' (by omega)), px_n0]
        · exact absurd ⟨h1, Or.inr ⟨q2, q3⟩⟩ h
      · rw [inw_f q3, px_bd, if_pos rfl, px_n0]
    · rw [inw_f q2, px_bd, if_pos rfl, px_n0]
  · rw [show jMod_in x1 0 7 M = some (0, M) from in0_f (n := 7) h1 (by omega), px_bd, if_pos rfl, px_n0]
/-- only the rows 11 and 12 change -/
def o1112 (S S' : St) : Prop := (∀ r, r ≠ 11 → r ≠ 12 → S'.1 r = S.1 r) ∧ S'.2 = S.2
theorem o1112.rf (S : St) : o1112 S S := ⟨fun _ _ _ => rfl, rfl⟩
theorem o1112.up {S S' : St} (h : o1112 S S') {k j : Nat} {v : Int32} (hk : k = 11 ∨ k = 12) : o1112 S (upI S' k j v) := ⟨fun r h1 h2 => (upI_o r (by omega)).trans (h.1 r h1 h2), h.2⟩
theorem o1112.tr {S S' S2 : St} (h : o1112 S S') (h2 : o1112 S' S2) : o1112 S S2 := ⟨fun r h3 h4 => (h2.1 r h3 h4).trans (h.1 r h3 h4), h2.2.trans h.2⟩
theorem o1112.ms {S S' : St} (h : o1112 S S') : MSame S S' := ⟨fun r hr => h.1 r (by omega) (by omega), by rw [h.2]⟩
/-- the row that a code stands for -/
theorem isRowM {g : Gh} {M : St} (hr : MR g M) (hw : WG g) {x1 x2 x3 : Int32} (hq : rowOk x1 x2 x3) (h13 : ∀ p, p < 3 → M.1 13 p = selI x1 x2 x3 p) {mk c : Nat} (hc : c < 729) : ∃ M', jMod_isRow (nI c) (nI mk) M = some (bI (rowB g.mn (askRq x1 x2 x3 mk) c), M') ∧ o1112 M M' ∧ M'.1 12 = M.1 12 ∧ ∀ p, p < 3 → M'.1 11 p = nI (dig c p) := by
  have h8 := hw.mn.1
  unfold jMod_isRow
  rw [if_neg (by decide), show x_gd 3 0 = x_gd (β := Int32 × St) 3 (nI 0) from rfl, px_gd (by omega) (by omega), px_lt, if_neg (by decide), if_neg (by decide), show x_gd 3 1 = x_gd (β := Int32 × St) 3 (nI 1) from rfl, px_gd (by omega) (by omega), px_lt, if_neg (by decide), show x_gd 3 2 = x_gd (β := Int32 × St) 3 (nI 2) from rfl, px_gd (by omega) (by omega), px_lt]
  have d0 : nI c / 81 = nI (c / 81) := pk_div (d := 81) (by omega) (by decide) (by decide)
  have d1 : nI c / 9 = nI (c / 9) := pk_div (d := 9) (by omega) (by decide) (by decide)
  have d1' : nI (c / 9) - nI (c / 9) / 9 * 9 = nI (c / 9 % 9) := pk_rem (d := 9) (by omega) (by decide) (by decide)
  have d2 : nI c - nI (c / 9) * 9 = nI (c % 9) := by rw [← d1]; exact pk_rem (d := 9) (by omega) (by decide) (by decide)
  rw [d0, d1, d1', d2]
  obtain ⟨M2, hM2⟩ : ∃ M2, M2 = upI (upI (upI M 11 (Int32.toNatClampNeg 0) (nI (c / 81))) 11 (Int32.toNatClampNeg 1) (nI (c / 9 % 9))) 11 (Int32.toNatClampNeg 2) (nI (c % 9)) := ⟨_, rfl⟩
  have o2 : o1112 M M2 := by
    rw [hM2]
    exact (((o1112.rf M).up (by omega)).up (by omega)).up (by omega)
  have e12 : M2.1 12 = M.1 12 := by
    rw [hM2, upI_o 12 (by omega), upI_o 12 (by omega), upI_o 12 (by omega)]
  have e11 : ∀ p, p < 3 → M2.1 11 p = nI (dig c p) := fun p hp => by
    rw [hM2, upI_at, upI_at, upI_at, show Int32.toNatClampNeg 0 = 0 from rfl, show Int32.toNatClampNeg 1 = 1 from rfl, show Int32.toNatClampNeg 2 = 2 from rfl]
    match p, hp with
    | 0, _ => rfl
    | 1, _ => rfl
    | 2, _ => rfl
  rw [← hM2]
  refine ⟨M2, ?_, o2, e12, e11⟩
  have hr2 := hr.same o2.ms
  have dl : ∀ p, p < 3 → dig c p < 9 := fun p hp => by
    match p, hp with
    | 0, _ => show c / 81 < 9; omega
    | 1, _ => show c / 9 % 9 < 9; omega
    | 2, _ => show c % 9 < 9; omega
  rw [show rowB g.mn (askRq x1 x2 x3 mk) c = andN (fun p => okB g.mn (askRq x1 x2 x3 mk) p (dig c p)) 3 from rfl]
  refine ex_eq.mp (for_up (F := fun n i (q : St) => jMod_isRow_h38 n (nI mk) (bI (andN (fun p => okB g.mn (askRq x1 x2 x3 mk) p (dig c p)) i)) (nI i) q) (N := 3) (I := fun _ q => q = M2) _ ?_ ?_ (i := 0) (s := M2) (Nat.zero_le _) rfl (n := FU) (by decide))
  · intro n i q hi hq'
    subst hq'
    right
    have hd := dl i hi
    have e13 : q.1 13 i = selI x1 x2 x3 i := by rw [o2.1 13 (by omega) (by omega)]; exact h13 i hi
    -- the test of one place
    have t0 : askRq x1 x2 x3 mk i = none → jMod_isRow_b69 (jMod_isRow_h38 n) (nI mk) (bI (andN (fun p => okB g.mn (askRq x1 x2 x3 mk) p (dig c p)) i)) (nI i) 0 q = jMod_isRow_h38 n (nI mk) (bI (andN (fun p => okB g.mn (askRq x1 x2 x3 mk) p (dig c p)) (i + 1))) (nI (i + 1)) q := fun en => by
      unfold jMod_isRow_b69
      rw [andN_s]
      by_cases cb : andN (fun p => okB g.mn (askRq x1 x2 x3 mk) p (dig c p)) i = true
      · rw [cb, bI_t, if_neg n10, if_pos rfl, px_ld hi (by decide), e11 i hi, Bool.true_and]
        have eo : okB g.mn (askRq x1 x2 x3 mk) i (dig c i) = decide (dig c i = 8) := by unfold okB; rw [en]
        rw [eo]
        by_cases c8 : dig c i = 8
        · rw [if_pos (show nI (dig c i) = 8 by rw [c8]; rfl), decide_eq_true c8, bI_t, z1, nI_add]
        · rw [if_neg (show ¬ nI (dig c i) = 8 from fun z => c8 ((nI_eq (b := 8) (by omega) (by omega)).mp z)), decide_eq_false c8, bI_f, z1, nI_add]
      · rw [show andN (fun p => okB g.mn (askRq x1 x2 x3 mk) p (dig c p)) i = false by simpa using cb, bI_f, if_pos rfl, Bool.false_and, bI_f, z1, nI_add]
    have t1 : ∀ w, w < 8 → askRq x1 x2 x3 mk i = some w → q.1 13 i = nI w → jMod_isRow_b69 (jMod_isRow_h38 n) (nI mk) (bI (andN (fun p => okB g.mn (askRq x1 x2 x3 mk) p (dig c p)) i)) (nI i) 1 q = jMod_isRow_h38 n (nI mk) (bI (andN (fun p => okB g.mn (askRq x1 x2 x3 mk) p (dig c p)) (i + 1))) (nI (i + 1)) q := fun w hw8 en ew => by
      unfold jMod_isRow_b69
      rw [andN_s]
      by_cases cb : andN (fun p => okB g.mn (askRq x1 x2 x3 mk) p (dig c p)) i = true
      · rw [cb, bI_t, if_neg n10, if_neg n10, px_ld hi (by decide), e11 i hi, show x_ld (q.1 4) 2 0 = x_ld (β := Int32 × St) (q.1 4) 2 (nI 0) from rfl, px_ld (by omega) (by omega), hr2.nd, Bool.true_and]
        have eo : okB g.mn (askRq x1 x2 x3 mk) i (dig c i) = (decide (dig c i < g.mn.nd) && decide (g.mn.wd (dig c i) = w)) := by unfold okB; rw [en]
        rw [eo]
        by_cases c8 : dig c i < g.mn.nd
        · have e7 := (hr2.mn (dig c i) c8).2.2
          rw [Nat.zero_add] at e7
          have b7 := (hw.mn.2 (dig c i) c8).2.2
          rw [if_neg (nI_ge c8 (by omega)), px_ld hi (by decide), e11 i hi, px_ld (by omega) (by omega), e7, px_ld hi (by decide), ew, decide_eq_true c8, Bool.true_and]
          by_cases c9 : g.mn.wd (dig c i) = w
          · rw [if_pos (show nI (g.mn.wd (dig c i)) = nI w by rw [c9]), decide_eq_true c9, bI_t, z1, nI_add]
          · rw [if_neg (fun z => c9 ((nI_eq (by omega) (by omega)).mp z)), decide_eq_false c9, bI_f, z1, nI_add]
        · rw [if_pos (nI_le (by omega) (by omega)), decide_eq_false c8, Bool.false_and, bI_f, z1, nI_add]
      · rw [show andN (fun p => okB g.mn (askRq x1 x2 x3 mk) p (dig c p)) i = false by simpa using cb, bI_f, if_pos rfl, Bool.false_and, bI_f, z1, nI_add]
    rw [jMod_isRow_h38, jMod_isRow_b38, z3, if_neg (nI_ge hi (by decide)), bit_nI (by omega)]
    refine ⟨q, ?_, rfl⟩
    by_cases cm : mk.testBit i = true
    · rw [cm, bI_t, if_pos rfl, px_ld hi (by decide)]
      by_cases cT : i < toldN x2 x3
      · obtain ⟨w1, w2⟩ := words_ok hq cT
        rw [e13, w2, if_neg (nI_pos (by omega))]
        exact t1 (wordsN x1 x2 x3 i % 8) (Nat.mod_lt _ (by decide)) (if_pos ⟨cT, cm⟩) (by rw [e13, w2, Nat.mod_eq_of_lt w1])
      · rw [e13, words_no hq hi cT, if_pos (by decide)]
        exact t0 (if_neg (fun z => cT z.1))
    · rw [show mk.testBit i = false by simpa using cm, bI_f, if_neg (by decide)]
      exact t0 (if_neg (fun z => cm z.2))
  · intro n q hq'
    subst hq'
    rw [jMod_isRow_h38, jMod_isRow_b38, z3, if_pos (nI_le (Nat.le_refl _) (by decide)), px_nb]
    exact ⟨_, rfl, rfl⟩
theorem hasAllM {g : Gh} {M : St} (hr : MR g M) (hw : WG g) {h c : Nat} (hh : h < g.nh) (hd : ∀ p, p < 3 → dig c p < g.mn.nd ∨ dig c p = 8) (e11 : ∀ p, p < 3 → M.1 11 p = nI (dig c p)) : jMod_hasAll (nI h) M = some (bI (stB g.mn (g.now.L h) c), M) := by
  have h8 := hw.mn.1
  have h6 := hw.nh
  have n9 : ∀ p k, p < 3 → k < 5 → n8 g.mn (dig c p) k ≤ 9 := fun p k hp hk => by
    unfold n8
    split
    · rename_i z
      rcases hd p hp with y | y
      · exact (hw.mn.2 _ y).1 k hk
      · omega
    · omega
  have eB : stB g.mn (g.now.L h) c = andN (fun k => decide (stP g.mn (g.now.L h) c k)) 5 := by
    rw [Bool.eq_iff_iff, stB_t, andN_t]
    exact ⟨fun z i hi => decide_eq_true (z i hi), fun z i hi => of_decide_eq_true (z i hi)⟩
  rw [eB]
  refine ex_eq.mp (for_up (F := fun n i (q : St) => jMod_hasAll_h4 n (nI h) (bI (andN (fun k => decide (stP g.mn (g.now.L h) c k)) i)) (nI i) q) (N := 5) (I := fun _ q => q = M) _ ?_ ?_ (i := 0) (s := M) (Nat.zero_le _) rfl (n := FU) (by decide))
  · intro n i q hi hq'
    subst hq'
    right
    rw [jMod_hasAll_h4, jMod_hasAll_b4, z5, if_neg (nI_ge hi (by decide))]
    refine ⟨q, ?_, rfl⟩
    obtain ⟨m', q', e1, e2⟩ := for_go (F := fun m' j (r : St) => jMod_hasAll_h15 (jMod_hasAll_h4 n) m' (nI h) (bI (andN (fun k => decide (stP g.mn (g.now.L h) c k)) i)) (nI i) (nI (sumN (fun p => n8 g.mn (dig c p) i) j)) (nI j) r) (N := 3) (I := fun _ q' => q' = q) (fun m' j q' hj hq' => by
      subst hq'
      rw [jMod_hasAll_h15, jMod_hasAll_b15, z3, if_neg (nI_ge hj (by decide)), px_ld hj (by decide), e11 j hj]
      refine ⟨q', ?_, rfl⟩
      show _ = jMod_hasAll_h15 (jMod_hasAll_h4 n) m' (nI h) _ (nI i) (nI (sumN (fun p => n8 g.mn (dig c p) i) j + n8 g.mn (dig c j) i)) (nI (j + 1)) q'
      by_cases c8 : 8 ≤ dig c j
      · have d9 : dig c j = 8 := by
          rcases hd j hj with y | y
          · omega
          · exact y
        rw [if_pos (show 8 ≤ nI (dig c j) from (nI_le c8 (by omega) : nI 8 ≤ nI (dig c j))), px_lt, Int32.add_zero, z1, nI_add, show n8 g.mn (dig c j) i = 0 from if_neg (by omega)]
        rfl
      · have d9 : dig c j < g.mn.nd := by
          rcases hd j hj with y | y
          · exact y
          · omega
        have e5 := (hr.mn (dig c j) d9).1 i hi
        rw [Nat.zero_add] at e5
        rw [if_neg (show ¬ 8 ≤ nI (dig c j) from (nI_ge (by omega) (by omega) : ¬ nI 8 ≤ nI (dig c j))), px_ld hj (by decide), e11 j hj, show (5 : Int32) * nI (dig c j) + nI i = nI (5 * dig c j + i) by rw [z5, nI_mul, nI_add], px_ld (by omega) (by omega), e5, px_lt, nI_add, z1, nI_add, show n8 g.mn (dig c j) i = g.mn.need (dig c j) i from if_pos (by omega)]) (i := 0) (s := q) (Nat.zero_le _) rfl (n := FU) (by decide)
    subst e2
    refine Eq.trans e1 ?_
    have e9 := hr.sp.2.2.2.1 h hh i hi
    rw [Nat.zero_add] at e9
    have bL := hw.sp.1 h hh i hi
    have b0 := n9 0 i (by omega) hi
    have b1 := n9 1 i (by omega) hi
    have b2 := n9 2 i (by omega) hi
    rw [show sumN (fun p => n8 g.mn (dig c p) i) 3 = n8 g.mn (dig c 0) i + n8 g.mn (dig c 1) i + n8 g.mn (dig c 2) i by simp [sumN]]
    rw [jMod_hasAll_h15, jMod_hasAll_b15, z3, if_pos (nI_le (Nat.le_refl _) (by decide))]
    rw [andN_s]
    by_cases cb : andN (fun k => decide (stP g.mn (g.now.L h) c k)) i = true
    · rw [cb, bI_t, if_neg n10, show (5 : Int32) * nI h + nI i = nI (5 * h + i) by rw [z5, nI_mul, nI_add], px_ld (by omega) (by omega), e9, Bool.true_and]
      by_cases cs : stP g.mn (g.now.L h) c i
      · have cs' := cs
        unfold stP at cs'
        rw [if_neg (nI_nlt cs' (by omega)), decide_eq_true cs, bI_t, z1, nI_add]
      · have cs' := cs
        unfold stP at cs'
        rw [if_pos (nI_lt (by omega) (by omega)), decide_eq_false cs, bI_f, z1, nI_add]
    · rw [show andN (fun k => decide (stP g.mn (g.now.L h) c k)) i = false by simpa using cb, bI_f, if_pos rfl, Bool.false_and, bI_f, z1, nI_add]
  · intro n q hq'
    subst hq'
    rw [jMod_hasAll_h4, jMod_hasAll_b4, z5, if_pos (nI_le (Nat.le_refl _) (by decide)), px_nb]
    exact ⟨_, rfl, rfl⟩
