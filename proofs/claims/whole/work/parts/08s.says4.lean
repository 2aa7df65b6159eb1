/-! the fewest units in the reference -/
def BW (b : Option (Nat × Nat)) (S : St) : Prop := match b with
  | none => True
  | some q => ∀ p, p < 3 → S.1 12 p = nI (dig q.2 p)
theorem BW.same {b : Option (Nat × Nat)} {S S' : St} (h : BW b S) (h1 : S'.1 12 = S.1 12) : BW b S' := by
  cases b with
  | none => trivial
  | some q => exact fun p hp => by rw [h1]; exact h p hp
theorem rowB_dig {N : Mn} {rq : Rq} {c : Nat} (h : rowB N rq c = true) : ∀ p, p < 3 → dig c p < N.nd ∨ dig c p = 8 := by
  intro p hp
  simp only [rowB, Bool.and_eq_true, okB_t] at h
  have key : ∀ p, okd N rq p (dig c p) → dig c p < N.nd ∨ dig c p = 8 := fun p z => by
    unfold okd at z
    cases e : rq p with
    | none => rw [e] at z; exact Or.inr z
    | some w => rw [e] at z; exact Or.inl z.1
  match p, hp with
  | 0, _ => exact key 0 h.1.1
  | 1, _ => exact key 1 h.1.2
  | 2, _ => exact key 2 h.2
theorem copyBest (K6 : Int32 → Int32 → Int32 → Int32 → St → Option (Int32 × St)) (x1 x2 x3 x4 : Int32) {S : St} {c : Nat} (e11 : ∀ p, p < 3 → S.1 11 p = nI (dig c p)) : ∃ S', jMod_unitsFor_h100 K6 FU x1 x2 x3 x4 0 S = K6 x1 x2 x3 (x4 + 1) S' ∧ o1112 S S' ∧ ∀ p, p < 3 → S'.1 12 p = nI (dig c p) := by
  obtain ⟨m', q', e1, e2, e3, e4⟩ := for_go (F := fun n i (q : St) => jMod_unitsFor_h100 K6 n x1 x2 x3 x4 (nI i) q) (N := 3) (I := fun i q => o1112 S q ∧ q.1 11 = S.1 11 ∧ ∀ p, p < i → q.1 12 p = nI (dig c p)) (fun n i q hi ⟨i1, i2, i3⟩ => by
    rw [jMod_unitsFor_h100, jMod_unitsFor_b100, z3, if_neg (nI_ge hi (by decide)), px_ld hi (by decide), i2, e11 i hi, px_gd hi (by decide), px_lt, nI_clamp (by omega), z1, nI_add]
    refine ⟨_, rfl, i1.up (by omega), (upI_o 11 (by omega)).trans i2, fun p hp => ?_⟩
    rw [upI_at]
    by_cases e : p = i
    · rw [if_pos ⟨rfl, e⟩, e]
    · rw [if_neg (fun z => e z.2), i3 p (by omega)]) (i := 0) (s := S) (Nat.zero_le _) ⟨o1112.rf S, rfl, fun p hp => by omega⟩ (n := FU) (by decide)
  have e1 : jMod_unitsFor_h100 K6 FU x1 x2 x3 x4 0 S = jMod_unitsFor_h100 K6 (m' + 1) x1 x2 x3 x4 (nI 3) q' := e1
  rw [e1, jMod_unitsFor_h100, jMod_unitsFor_b100, z3, if_pos (nI_le (Nat.le_refl _) (by decide))]
  exact ⟨q', rfl, e2, e4⟩
theorem unitsForM {g : Gh} {M : St} (hr : MR g M) (hw : WG g) {x1 x2 x3 : Int32} (hq : rowOk x1 x2 x3) (h13 : ∀ p, p < 3 → M.1 13 p = selI x1 x2 x3 p) {h mk : Nat} (hh : h < g.nh) : ∃ M', jMod_unitsFor (nI h) (nI mk) M = some (fewOf (bestOf g h x1 x2 x3 mk), M') ∧ o1112 M M' ∧ BW (bestOf g h x1 x2 x3 mk) M' := by
  have h8 := hw.mn.1
  obtain ⟨B, hB⟩ : ∃ B, B = bestN g.mn (g.now.L h) (askRq x1 x2 x3 mk) := ⟨_, rfl⟩
  have key := for_up (F := fun n c (q : St) => jMod_unitsFor_h6 n (nI h) (nI mk) (fewOf (B c)) (nI c) q) (N := 729) (I := fun c q => o1112 M q ∧ BW (B c) q) (fun r => r.1 = fewOf (B 729) ∧ o1112 M r.2 ∧ BW (B 729) r.2) ?_ ?_ (i := 0) (s := M) (Nat.zero_le _) ⟨o1112.rf M, by rw [hB]; trivial⟩ (n := FU) (by decide)
  · obtain ⟨⟨a, S'⟩, e, k1, k2⟩ := key
    have k1 : a = _ := k1
    have e : jMod_unitsFor_h6 FU (nI h) (nI mk) (fewOf (B 0)) (nI 0) M = some (a, S') := e
    rw [k1, show fewOf (B 0) = -9 by rw [hB]; rfl] at e
    rw [hB] at k2 e
    exact ⟨S', e, k2⟩
  · intro n c q hc ⟨i1, i2⟩
    right
    have hr1 := hr.same i1.ms
    obtain ⟨M1, e1, o1, r12, r11⟩ := isRowM hr1 hw hq (fun p hp => by rw [i1.1 13 (by omega) (by omega)]; exact h13 p hp) (mk := mk) hc
    have hr2 := hr1.same o1.ms
    rw [jMod_unitsFor_h6, jMod_unitsFor_b6, if_neg (show ¬ 729 ≤ nI c from (nI_ge hc (by decide) : ¬ nI 729 ≤ nI c)), e1, px_bd]
    by_cases cr : rowB g.mn (askRq x1 x2 x3 mk) c = true
    · have hd := rowB_dig cr
      rw [cr, bI_t, if_neg n10, hasAllM hr2 hw hh hd r11, px_bd]
      by_cases cs : stB g.mn (g.now.L h) c = true
      · rw [cs, bI_t, if_neg n10]
        have ub : ∀ p, p < 3 → uu8 g.mn (dig c p) < 100 := fun p hp => by
          unfold uu8
          split
          · rcases hd p hp with y | y
            · exact units_lt hw.mn y
            · omega
          · omega
        obtain ⟨m', q', e2, e3⟩ := for_go (F := fun m' j (r : St) => jMod_unitsFor_h38 (jMod_unitsFor_h6 n) m' (nI h) (nI mk) (fewOf (B c)) (nI c) (nI (sumN (fun p => uu8 g.mn (dig c p)) j)) (nI j) r) (N := 3) (I := fun _ q' => q' = M1) (fun m' j q' hj hq' => by
          subst hq'
          rw [jMod_unitsFor_h38, jMod_unitsFor_b38, z3, if_neg (nI_ge hj (by decide)), px_ld hj (by decide), r11 j hj]
          refine ⟨q', ?_, rfl⟩
          show _ = jMod_unitsFor_h38 (jMod_unitsFor_h6 n) m' (nI h) (nI mk) (fewOf (B c)) (nI c) (nI (sumN (fun p => uu8 g.mn (dig c p)) j + uu8 g.mn (dig c j))) (nI (j + 1)) q'
          by_cases c8 : 8 ≤ dig c j
          · have d9 : dig c j = 8 := by
              rcases hd j hj with y | y
              · omega
              · exact y
            rw [if_pos (show 8 ≤ nI (dig c j) from (nI_le c8 (by omega) : nI 8 ≤ nI (dig c j))), px_lt, Int32.add_zero, z1, nI_add, show uu8 g.mn (dig c j) = 0 from if_neg (by omega)]
            rfl
          · have d9 : dig c j < g.mn.nd := by
              rcases hd j hj with y | y
              · exact y
              · omega
            rw [if_neg (show ¬ 8 ≤ nI (dig c j) from (nI_ge (by omega) (by omega) : ¬ nI 8 ≤ nI (dig c j))), px_ld hj (by decide), r11 j hj, unitsOf_ok hr2.mn hw.mn d9, px_bd, px_lt, nI_add, z1, nI_add, show uu8 g.mn (dig c j) = g.mn.units (dig c j) from if_pos (by omega)]) (i := 0) (s := M1) (Nat.zero_le _) rfl (n := FU) (by decide)
        subst e3
        have hu : sumN (fun p => uu8 g.mn (dig c p)) 3 = uOf g.mn c := by simp [sumN, uOf]
        have hu1 : uOf g.mn c < 1000 := by
          have := ub 0 (by omega)
          have := ub 1 (by omega)
          have := ub 2 (by omega)
          unfold uOf
          omega
        rw [hu] at e2
        have hbt : B (c + 1) = betN (uOf g.mn c) c (B c) := by rw [hB]; exact best_t cr cs
        obtain ⟨S4, e4, o4, r4⟩ := copyBest (jMod_unitsFor_h6 n) (nI h) (nI mk) (nI (uOf g.mn c)) (nI c) r11
        have win : B (c + 1) = some (uOf g.mn c, c) → ∃ s', jMod_unitsFor_h100 (jMod_unitsFor_h6 n) FU (nI h) (nI mk) (nI (uOf g.mn c)) (nI c) 0 q' = jMod_unitsFor_h6 n (nI h) (nI mk) (fewOf (B (c + 1))) (nI (c + 1)) s' ∧ o1112 M s' ∧ BW (B (c + 1)) s' := fun eb => by
          rw [e4, eb, z1, nI_add]
          exact ⟨S4, rfl, (i1.tr o1).tr o4, r4⟩
        show ∃ s', jMod_unitsFor_h38 (jMod_unitsFor_h6 n) FU (nI h) (nI mk) (fewOf (B c)) (nI c) 0 0 q' = _ ∧ _
        have e2 : jMod_unitsFor_h38 (jMod_unitsFor_h6 n) FU (nI h) (nI mk) (fewOf (B c)) (nI c) 0 0 q' = jMod_unitsFor_h38 (jMod_unitsFor_h6 n) (m' + 1) (nI h) (nI mk) (fewOf (B c)) (nI c) (nI (uOf g.mn c)) (nI 3) q' := e2
        rw [e2, jMod_unitsFor_h38, jMod_unitsFor_b38, z3, if_pos (nI_le (Nat.le_refl _) (by decide))]
        cases eb : B c with
        | none =>
          rw [eb] at hbt
          rw [if_pos (show fewOf none = -9 from rfl)]
          exact win hbt
        | some b =>
          rw [eb] at hbt
          have hb := best_lt hw.mn (hB ▸ eb)
          rw [if_neg (show ¬ fewOf (some b) = -9 from nI_nm9 (by omega))]
          show ∃ s', (if nI b.1 ≤ nI (uOf g.mn c) then jMod_unitsFor_h6 n (nI h) (nI mk) (nI b.1) (nI c + 1) q' else jMod_unitsFor_h100 (jMod_unitsFor_h6 n) FU (nI h) (nI mk) (nI (uOf g.mn c)) (nI c) 0 q') = _ ∧ _
          unfold betN at hbt
          dsimp only at hbt
          by_cases c2 : uOf g.mn c < b.1
          · rw [if_pos c2] at hbt
            rw [if_neg (nI_ge c2 (by omega))]
            exact win hbt
          · rw [if_neg c2] at hbt
            rw [if_pos (nI_le (by omega) (by omega)), hbt, z1, nI_add]
            rw [eb] at i2
            exact ⟨q', rfl, i1.tr o1, i2.same r12⟩
      · rw [show stB g.mn (g.now.L h) c = false by simpa using cs, bI_f, if_pos rfl, z1, nI_add, show B (c + 1) = B c by rw [hB]; exact best_f (fun z => cs (Bool.and_eq_true _ _ ▸ z).2)]
        exact ⟨M1, rfl, i1.tr o1, i2.same r12⟩
    · rw [show rowB g.mn (askRq x1 x2 x3 mk) c = false by simpa using cr, bI_f, if_pos rfl, z1, nI_add, show B (c + 1) = B c by rw [hB]; exact best_f (fun z => cr (Bool.and_eq_true _ _ ▸ z).1)]
      exact ⟨M1, rfl, i1.tr o1, i2.same r12⟩
  · intro n q ⟨i1, i2⟩
    rw [jMod_unitsFor_h6, jMod_unitsFor_b6, if_pos (show 729 ≤ nI 729 from (nI_le (Nat.le_refl _) (by decide) : nI 729 ≤ nI 729))]
    exact ⟨_, rfl, rfl, i1, i2⟩
theorem ask_M {x1 x2 x3 : Int32} {M : St} : ∃ M', jMod_ask x1 x2 x3 M = some M' ∧ MSame M M' ∧ ∀ p, p < 3 → M'.1 13 p = selI x1 x2 x3 p := by
  unfold jMod_ask
  rw [show x_gd 3 0 = x_gd (β := St) 3 (nI 0) from rfl, px_gd (by omega) (by omega), px_lt, show x_gd 3 1 = x_gd (β := St) 3 (nI 1) from rfl, px_gd (by omega) (by omega), px_lt, show x_gd 3 2 = x_gd (β := St) 3 (nI 2) from rfl, px_gd (by omega) (by omega), px_lt]
  refine ⟨_, rfl, ((((MSame.rf M).up (by omega)).up (by omega)).up (by omega)), fun p hp => ?_⟩
  rw [upI_at, upI_at, upI_at]
  match p, hp with
  | 0, _ => rfl
  | 1, _ => rfl
  | 2, _ => rfl
theorem m_says {g : Gh} {M : St} (hr : MR g M) (hw : WG g) (h x1 x2 x3 k : Int32) : MOk g (sSays g h x1 x2 x3 k) (jMod_says h x1 x2 x3 k M) := by
  unfold jMod_says sSays
  by_cases q : rg h g.nh
  · rw [if_pos q]
    obtain ⟨h, hh, rfl⟩ := rg_of q (by have := hw.nh; omega)
    have h6 := hw.nh
    rw [isHouse_t hr hw hh, px_bd, if_neg n10, nI_clamp (by omega)]
    by_cases q2 : rowOk x1 x2 x3
    · rw [if_pos (show rg x1 8 ∧ _ from q2), areWords_t q2, px_bd, if_neg n10]
      by_cases q3 : k = -1 ∨ rg k 3
      · rw [if_pos q3, show jMod_in k (-1) 2 M = some (1, M) by
            rcases q3 with rfl | q3
            · exact in_t (by decide) (by decide)
            · obtain ⟨j, hj, rfl⟩ := rg_of q3 (by omega)
              exact in_t (fun z => nI_pos (show j < 2 ^ 31 by omega) (Int32.lt_trans z (by decide))) (nI_nlt (a := 2) (by omega) (by omega)), px_bd, if_neg n10]
        obtain ⟨M1, e1, s1, t1⟩ := ask_M (x1 := x1) (x2 := x2) (x3 := x3) (M := M)
        have hr1 := hr.same s1
        obtain ⟨M2, e2, o2, b2⟩ := unitsForM hr1 hw q2 t1 (mk := 7) hh
        have e2 : jMod_unitsFor (nI h) 7 M1 = _ := e2
        have hr2 := hr1.same o2.ms
        rw [e1, px_bv, e2, px_bd]
        cases e : bestOf g h x1 x2 x3 7 with
        | none =>
          rw [if_pos (show fewOf none = -9 from rfl)]
          exact ⟨M2, rfl, hr2⟩
        | some b =>
          have hb := best_lt hw.mn (show bestN g.mn (g.now.L h) (askRq x1 x2 x3 7) 729 = some b from e)
          rw [e] at b2
          rw [if_neg (show ¬ fewOf (some b) = -9 from nI_nm9 (by omega))]
          dsimp only
          rcases q3 with rfl | q3
          · rw [if_neg (show ¬ (0 : Int32) ≤ -1 by decide), if_pos (show (-1 : Int32) = -1 from rfl)]
            exact ⟨M2, rfl, hr2⟩
          · obtain ⟨j, hj, rfl⟩ := rg_of q3 (by omega)
            have hl := told_le (x2 := x2) (x3 := x3)
            have e13 : M2.1 13 j = selI x1 x2 x3 j := by rw [o2.1 13 (by omega) (by omega)]; exact t1 j hj
            rw [if_pos (show 0 ≤ nI j from nI_pos' (by omega)), if_neg (show ¬ nI j = -1 from nI_nm1 (by omega)), px_ld hj (by decide), e13, nI_clamp (by omega)]
            by_cases c : toldN x2 x3 ≤ j
            · rw [words_no q2 hj (by omega), if_neg (show ¬ (0 : Int32) ≤ -1 by decide), if_pos c]
              exact ⟨M2, rfl, hr2⟩
            · obtain ⟨w1, w2⟩ := words_ok q2 (p := j) (by omega)
              rw [w2, if_pos (nI_pos' (by omega)), if_neg c, px_ld hj (by decide), b2 j hj]
              exact ⟨M2, rfl, hr2⟩
      · rw [if_neg q3, show jMod_in k (-1) 2 M = some (0, M) from in_f (by
          rcases k3_no q3 with z | z
          · exact Or.inl z
          · right
            exact Int32.lt_of_lt_of_le (show (2 : Int32) < 3 by decide) (i_nlt.mp z)), px_bd, if_pos rfl]
        exact ⟨_, rfl, hr⟩
    · rw [if_neg (show ¬ (rg x1 8 ∧ _) from q2), areWords_f q2, px_bd, if_pos rfl]
      exact ⟨_, rfl, hr⟩
  · rw [if_neg q, isHouse_f hr hw q, px_bd, if_pos rfl]
    exact ⟨_, rfl, hr⟩
theorem m_nearest {g : Gh} {M : St} (hr : MR g M) (hw : WG g) (h x1 x2 x3 : Int32) : MOk g (sNear g h x1 x2 x3) (jMod_nearest h x1 x2 x3 M) := by
  unfold jMod_nearest sNear
  by_cases q : rg h g.nh
  · rw [if_pos q]
    obtain ⟨h, hh, rfl⟩ := rg_of q (by have := hw.nh; omega)
    have h6 := hw.nh
    rw [isHouse_t hr hw hh, px_bd, if_neg n10, nI_clamp (by omega)]
    by_cases q2 : rowOk x1 x2 x3
    · rw [if_pos (show rg x1 8 ∧ _ from q2), areWords_t q2, px_bd, if_neg n10]
      obtain ⟨M1, e1, s1, t1⟩ := ask_M (x1 := x1) (x2 := x2) (x3 := x3) (M := M)
      have hr1 := hr.same s1
      have hl := two_told (x2 := x2) (x3 := x3)
      rw [e1, px_bv]
      -- which places there are
      have lim : (if x3 < 0 then (if x2 < 0 then jMod_nearest_h55 FU (nI h) 1 0 1 M1 else jMod_nearest_h55 FU (nI h) 3 0 1 M1) else jMod_nearest_h55 FU (nI h) 7 0 1 M1) = jMod_nearest_h55 FU (nI h) (nI (2 ^ toldN x2 x3 - 1)) 0 1 M1 := by
        unfold toldN
        rcases q2.2 with ⟨e2, e3⟩ | ⟨y2, y3⟩
        · rw [e2, e3, if_pos (by decide), if_pos (by decide), if_pos rfl]
          rfl
        · have n2 : ¬ x2 = -1 := fun z => rg_n1 (z ▸ y2)
          rw [if_neg n2, if_neg y2.1]
          rcases y3 with e3 | y3
          · rw [e3, if_pos (by decide), if_pos rfl]
            rfl
          · have n3 : ¬ x3 = -1 := fun z => rg_n1 (z ▸ y3)
            rw [if_neg n3, if_neg y3.1]
            rfl
      rw [lim]
      have key := for_up (F := fun n i (q : St) => jMod_nearest_h55 n (nI h) (nI (2 ^ toldN x2 x3 - 1)) (nI (nrN g h x1 x2 x3 (i - 1))) (nI i) q) (N := 2 ^ toldN x2 x3) (I := fun i q => 1 ≤ i ∧ o1112 M1 q) (fun r => r.1 = nI (nrN g h x1 x2 x3 (2 ^ toldN x2 x3 - 1)) ∧ o1112 M1 r.2) ?_ ?_ (i := 1) (s := M1) (by omega) ⟨Nat.le_refl _, o1112.rf M1⟩ (n := FU) (Nat.lt_of_le_of_lt (Nat.le_trans (Nat.sub_le _ _) hl.2) (by decide))
      · obtain ⟨⟨a, S'⟩, e, k1, k2⟩ := key
        have k1 : a = _ := k1
        exact ⟨S', k1 ▸ e, hr1.same k2.ms⟩
      · intro n i q hi ⟨i0, i1⟩
        right
        have hn := nrN_le (g := g) (h := h) (x1 := x1) (x2 := x2) (x3 := x3) (i := i - 1)
        have b1 : pop i ≤ 8 := popN_le 8
        have b2 : pop (nrN g h x1 x2 x3 (i - 1)) ≤ 8 := popN_le 8
        obtain ⟨j, rfl⟩ : ∃ j, i = j + 1 := ⟨i - 1, by omega⟩
        rw [Nat.add_sub_cancel] at hn b2 ⊢
        rw [jMod_nearest_h55, jMod_nearest_b55, if_neg (nI_nlt (by omega) (by omega)), bitsIn_ok, px_bd, bitsIn_ok, px_bd]
        show ∃ s', _ = jMod_nearest_h55 n (nI h) (nI (2 ^ toldN x2 x3 - 1)) (nI (nrN g h x1 x2 x3 (j + 1))) (nI (j + 1 + 1)) s' ∧ _
        by_cases c : pop (j + 1) ≤ pop (nrN g h x1 x2 x3 j)
        · rw [if_pos (nI_le c (by omega)), z1, nI_add, show nrN g h x1 x2 x3 (j + 1) = nrN g h x1 x2 x3 j from if_pos c]
          exact ⟨q, rfl, by omega, i1⟩
        · obtain ⟨S3, e3, o3, -⟩ := unitsForM (hr1.same i1.ms) hw q2 (fun p hp => by rw [i1.1 13 (by omega) (by omega)]; exact t1 p hp) (mk := j + 1) hh
          rw [if_neg (nI_ge (by omega) (by omega)), e3, px_bd]
          cases e : bestOf g h x1 x2 x3 (j + 1) with
          | none =>
            rw [if_pos (show fewOf none = -9 from rfl), z1, nI_add, show nrN g h x1 x2 x3 (j + 1) = nrN g h x1 x2 x3 j by
              simp only [nrN]
              rw [if_neg c, e]
              rfl]
            exact ⟨S3, rfl, by omega, i1.tr o3⟩
          | some b =>
            have hb := best_lt hw.mn (show bestN g.mn (g.now.L h) (askRq x1 x2 x3 (j + 1)) 729 = some b from e)
            rw [if_neg (show ¬ fewOf (some b) = -9 from nI_nm9 (by omega)), z1, nI_add, show nrN g h x1 x2 x3 (j + 1) = j + 1 by
              simp only [nrN]
              rw [if_neg c, e]
              rfl]
            exact ⟨S3, rfl, by omega, i1.tr o3⟩
      · intro n q ⟨i0, i1⟩
        rw [jMod_nearest_h55, jMod_nearest_b55, if_pos (nI_lt (by omega) (by omega))]
        exact ⟨_, rfl, rfl, i1⟩
    · rw [if_neg (show ¬ (rg x1 8 ∧ _) from q2), areWords_f q2, px_bd, if_pos rfl]
      exact ⟨_, rfl, hr⟩
  · rw [if_neg q, isHouse_f hr hw q, px_bd, if_pos rfl]
    exact ⟨_, rfl, hr⟩
