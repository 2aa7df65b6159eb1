/-! silent -/
def silN (ph : Nat → Nat) (lo : Nat) (x : Int32) : Nat → Int32
  | 0 => x
  | k + 1 => if k < lo then silN ph lo x k else silN ph lo x k &&& ((1 <<< (nI (ph k) &&& 31)) ^^^ (-1))
theorem silN_lo {ph : Nat → Nat} {lo : Nat} {x : Int32} : ∀ {k : Nat}, k ≤ lo → silN ph lo x k = x
  | 0, _ => rfl
  | k + 1, h => by
    simp only [silN]
    rw [if_pos (by omega)]
    exact silN_lo (by omega)
def sSilent (g : Gh) (n : Int32) : Int32 := if rg1 n 20 then silN g.now.ph (g.now.np - n.toNatClampNeg) ((1 <<< (nI g.nh &&& 31)) - 1) g.now.np else -1
theorem c_silent {g : Gh} {S : St} (hr : CR g S) (hw : WG g) (n : Int32) : jSmoke_silent n S = some (sSilent g n, S) := by
  have hnp := hw.sp.2.1
  have h6 := hw.nh
  unfold jSmoke_silent sSilent
  by_cases q : rg1 n 20
  · rw [if_pos q, if_neg q.1]
    obtain ⟨n, h1, h2, rfl⟩ := rg1_of q (by omega)
    rw [z20, if_pos (nI_le h2 (by omega)), px_lt, px_lt, hr.sp.1, hr.sp.2.1, nI_clamp (by omega)]
    have e0 : (if 0 < nI g.now.np - nI n then nI g.now.np - nI n else 0) = nI (g.now.np - n) := by
      rw [z0]
      by_cases c : 0 < g.now.np - n
      · rw [if_pos ((lt_sub_nI (k := 0) (by omega) (by omega) (by omega)).mpr c), nI_sub (by omega)]
      · rw [if_neg (fun z => c ((lt_sub_nI (k := 0) (by omega) (by omega) (by omega)).mp z)), show g.now.np - n = 0 by omega]
    rw [e0]
    refine ex_eq.mp (for_up (F := fun n i (q : Int32 × St) => jSmoke_silent_h39 n q.1 (nI i) q.2) (N := g.now.np) (I := fun i q => q = (silN g.now.ph (g.now.np - n) ((1 <<< (nI g.nh &&& 31)) - 1) i, S) ∧ g.now.np - n ≤ i) _ ?_ ?_ (i := g.now.np - n) (s := ((1 <<< (nI g.nh &&& 31)) - 1, S)) (Nat.sub_le _ _) ⟨by rw [silN_lo (Nat.le_refl _)], Nat.le_refl _⟩ (n := FU) (Nat.lt_of_le_of_lt (Nat.le_trans (Nat.sub_le _ _) hnp) (by decide)))
    · intro m i q hi ⟨hq, hlo⟩
      subst hq
      right
      have hb := hw.sp.2.2.1 i hi
      rw [jSmoke_silent_h39, jSmoke_silent_b39, hr.sp.2.1, if_neg (nI_ge hi (by omega)), px_ld (by omega) (by omega), show S.1 21 i = _ from (hr.sp.2.2.2.2.2 i hi).1, px_lt]
      refine ⟨(silN g.now.ph (g.now.np - n) ((1 <<< (nI g.nh &&& 31)) - 1) (i + 1), S), ?_, rfl, by omega⟩
      simp only [silN]
      rw [if_neg (by omega), z1, nI_add]
    · intro m q ⟨hq, hlo⟩
      subst hq
      rw [jSmoke_silent_h39, jSmoke_silent_b39, hr.sp.2.1, if_pos (nI_le (Nat.le_refl _) (by omega))]
      exact ⟨_, rfl, rfl⟩
  · rw [if_neg q]
    rcases rg1_no q with z | z
    · rw [if_pos z]
    · rw [if_neg (fun q => absurd (Int32.lt_trans z q) (by decide)), z20, if_neg (i_nle.mpr z)]
theorem m_silent {g : Gh} {M : St} (hr : MR g M) (hw : WG g) (n : Int32) : jMod_silent n M = some (sSilent g n, M) := by
  have hnp := hw.sp.2.1
  have h6 := hw.nh
  have a1 : M.1 9 32 = nI g.now.np := hr.sp.1
  unfold jMod_silent sSilent
  by_cases q : rg1 n 20
  · rw [if_pos q]
    obtain ⟨n, h1, h2, rfl⟩ := rg1_of q (by omega)
    rw [z20, in1_t h1 h2 (by omega), px_bd, if_neg n10, z0, px_ld (by omega) (by omega), hr.nh, px_lt, nI_clamp (by omega)]
    refine ex_eq.mp (for_up (F := fun m i (q : Int32 × St) => jMod_silent_h25 m (nI n) q.1 (nI i) q.2) (N := g.now.np) (I := fun i q => q = (silN g.now.ph (g.now.np - n) ((1 <<< (nI g.nh &&& 31)) - 1) i, M)) _ ?_ ?_ (i := 0) (s := ((1 <<< (nI g.nh &&& 31)) - 1, M)) (Nat.zero_le _) rfl (n := FU) (Nat.lt_of_le_of_lt (Nat.le_trans (Nat.sub_le _ _) hnp) (by decide)))
    · intro m i q hi hq
      subst hq
      right
      have e := (hr.sp.2.2.2.2 i hi).1
      rw [Nat.zero_add] at e
      rw [jMod_silent_h25, jMod_silent_b25, z32, px_ld (by omega) (by omega), a1, if_neg (nI_ge hi (by omega)), px_ld (by omega) (by omega), a1]
      refine ⟨(silN g.now.ph (g.now.np - n) ((1 <<< (nI g.nh &&& 31)) - 1) (i + 1), M), ?_, rfl⟩
      simp only [silN]
      by_cases c : i < g.now.np - n
      · rw [if_pos ((lt_sub_nI (by omega) (by omega) (by omega)).mpr c), if_pos c, px_lt, Int32.and_neg_one, z1, nI_add]
      · rw [if_neg (fun z => c ((lt_sub_nI (by omega) (by omega) (by omega)).mp z)), if_neg c, z33, z2, nI_mul, nI_add, px_ld (by omega) (by omega), e, px_lt, z1, nI_add]
    · intro m q hq
      subst hq
      rw [jMod_silent_h25, jMod_silent_b25, z32, px_ld (by omega) (by omega), a1, if_pos (nI_le (Nat.le_refl _) (by omega))]
      exact ⟨_, rfl, rfl⟩
  · rw [if_neg q, z20, in1_f q, px_bd, if_pos rfl]
/-! mark -/
abbrev Gh.addTr (g : Gh) (v : Int64) : Gh := (g.1, g.2.1, g.2.2.1, g.2.2.2.1, g.2.2.2.2.1, g.tr + v)
def sMark (g : Gh) (k d : Int32) : Int32 × Gh :=
  if rg d g.mn.nd then
    if k = 0 then (nI (g.mn.units d.toNatClampNeg), g.addTr 1)
    else if k = 1 then (nI (g.mn.units d.toNatClampNeg) * 2, g.addTr 11)
    else if k = 2 then (nI (g.mn.units d.toNatClampNeg) + nI (g.mn.sm d.toNatClampNeg), g.addTr 101)
    else if k = 3 then (nI (g.mn.units d.toNatClampNeg) * 2 + d, g.addTr 1011)
    else if k = 4 then (nI (g.mn.units d.toNatClampNeg) + nI (g.mn.sm d.toNatClampNeg) - nI (g.mn.wd d.toNatClampNeg), g.addTr 10101)
    else if k = 5 then (nI (g.mn.units d.toNatClampNeg) + nI g.now.np, g.addTr 100001)
    else (-1000000, g)
  else (-1000000, g)
theorem upL_hit {S : St} {k j : Nat} {v : Int64} : (upL S k j v).2 k j = v := by simp [upL, va_up, vp_updL]
theorem upL_1 {S : St} {k j : Nat} {v : Int64} : (upL S k j v).1 = S.1 := rfl
theorem CR.addTr {g : Gh} {S S' : St} (h : CR g S) {v : Int64} (h1 : S'.1 = S.1) (h2 : S'.2 0 9 = S.2 0 9 + v) : CR (g.addTr v) S' := by
  obtain ⟨q1, q2, q3, q4, q5, q6, q7⟩ := h
  exact ⟨by rw [h1]; exact q1, by rw [h1]; exact q2, q3.rows (fun r _ => by rw [h1]), q4.kept (fun r _ => by rw [h1]), q5.kept (fun r _ => by rw [h1]), q6.kept (fun r _ => by rw [h1]), by rw [h2, q7]⟩
theorem MR.addTr {g : Gh} {S S' : St} (h : MR g S) {v : Int64} (h1 : S'.1 = S.1) (h2 : S'.2 0 0 = S.2 0 0 + v) : MR (g.addTr v) S' := by
  obtain ⟨q1, q2, q3, q4, q5, q6, q7, q8, q9⟩ := h
  have key : ∀ {i : Nat} {o : Option Sp}, MIm i g.nh o S → MIm i g.nh o S' := by
    intro i o h
    cases o with
    | none => exact (congrFun (congrFun h1 10) i).trans h
    | some P => exact ⟨(congrFun (congrFun h1 10) i).trans h.1, by have := h.2; unfold MSp at *; rw [h1]; exact this⟩
  exact ⟨by rw [h1]; exact q1, by rw [h1]; exact q2, by rw [h1]; exact q3, by unfold MMn at *; rw [h1]; exact q4, by rw [h1]; exact q5, by unfold MSp at *; rw [h1]; exact q6, key q7, key q8, by rw [h2, q9]⟩
theorem markDish {N : Mn} {S : St} (hm : CMn 14 N S) (hw : WMn N) {d : Nat} (hd : d < N.nd) : jSmoke_markOfDish (nI d) S = some (nI (N.units d), upL S 0 9 (S.2 0 9 + 1)) := by
  have h8 := hw.1
  unfold jSmoke_markOfDish
  rw [px_lt, upL_1, px_ld (by omega) (by omega), show S.1 16 d = _ from (hm.2 d hd).2.1]
theorem CMn.upL {N : Mn} {S : St} (hm : CMn 14 N S) {k j : Nat} {v : Int64} : CMn 14 N (upL S k j v) := hm
theorem markStew {N : Mn} {S : St} (hm : CMn 14 N S) (hw : WMn N) {d : Nat} (hd : d < N.nd) : ∃ S', jSmoke_markOfStew (nI d) S = some (nI (N.units d) * 2, S') ∧ S'.1 = S.1 ∧ S'.2 0 9 = S.2 0 9 + 11 := by
  unfold jSmoke_markOfStew
  rw [px_lt, markDish hm.upL hw hd, px_bd]
  exact ⟨_, rfl, rfl, by rw [upL_hit, upL_hit, Int64.add_assoc]; rfl⟩
theorem markRoast {N : Mn} {S : St} (hm : CMn 14 N S) (hw : WMn N) {d : Nat} (hd : d < N.nd) : ∃ S', jSmoke_markOfRoast (nI d) S = some (nI (N.units d) + nI (N.sm d), S') ∧ S'.1 = S.1 ∧ S'.2 0 9 = S.2 0 9 + 101 := by
  have h8 := hw.1
  unfold jSmoke_markOfRoast
  rw [px_lt, markDish hm.upL hw hd, px_bd, upL_1, upL_1, px_ld (by omega) (by omega), show S.1 17 d = _ from (hm.2 d hd).2.2.1]
  exact ⟨_, rfl, rfl, by rw [upL_hit, upL_hit, Int64.add_assoc]; rfl⟩
theorem c_mark {g : Gh} {S : St} (hr : CR g S) (hw : WG g) (k d : Int32) : COk (sMark g k d).2 (sMark g k d).1 (jSmoke_mark k d S) := by
  have h8 := hw.mn.1
  unfold jSmoke_mark sMark
  by_cases q : rg d g.mn.nd
  · rw [if_pos q]
    obtain ⟨d, hd, rfl⟩ := rg_of q (by omega)
    rw [lists_t hr.mn hw.mn hd, px_bd, if_neg n10, nI_clamp (by omega)]
    by_cases k0 : k = 0
    · rw [if_pos k0, if_pos k0, markDish hr.mn hw.mn hd, px_bd]
      exact ⟨_, rfl, hr.addTr rfl (by rw [upL_hit])⟩
    rw [if_neg k0, if_neg k0]
    by_cases k1 : k = 1
    · rw [if_pos k1, if_pos k1]
      obtain ⟨S', e, h1, h2⟩ := markStew hr.mn hw.mn hd
      rw [e, px_bd]
      exact ⟨_, rfl, hr.addTr h1 h2⟩
    rw [if_neg k1, if_neg k1]
    by_cases k2 : k = 2
    · rw [if_pos k2, if_pos k2]
      obtain ⟨S', e, h1, h2⟩ := markRoast hr.mn hw.mn hd
      rw [e, px_bd]
      exact ⟨_, rfl, hr.addTr h1 h2⟩
    rw [if_neg k2, if_neg k2]
    by_cases k3 : k = 3
    · rw [if_pos k3, if_pos k3]
      unfold jSmoke_markOfBrides
      obtain ⟨S', e, h1, h2⟩ := markStew (hr.mn.upL (k := 0) (j := 9) (v := S.2 0 9 + 1000)) hw.mn hd
      rw [px_lt, e, px_bd, px_bd]
      exact ⟨_, rfl, hr.addTr h1 (by rw [h2, upL_hit, Int64.add_assoc]; rfl)⟩
    rw [if_neg k3, if_neg k3]
    by_cases k4 : k = 4
    · rw [if_pos k4, if_pos k4]
      unfold jSmoke_markOfPoor
      obtain ⟨S', e, h1, h2⟩ := markRoast (hr.mn.upL (k := 0) (j := 9) (v := S.2 0 9 + 10000)) hw.mn hd
      rw [px_lt, e, px_bd, h1, upL_1, px_ld (by omega) (by omega), show S.1 18 d = _ from (hr.mn.2 d hd).2.2.2, px_bd]
      exact ⟨_, rfl, hr.addTr h1 (by rw [h2, upL_hit, Int64.add_assoc]; rfl)⟩
    rw [if_neg k4, if_neg k4]
    by_cases k5 : k = 5
    · rw [if_pos k5, if_pos k5]
      unfold jSmoke_markOfBurnt
      rw [px_lt, markDish hr.mn.upL hw.mn hd, px_bd, px_bd, upL_1, upL_1, hr.sp.2.1]
      exact ⟨_, rfl, hr.addTr rfl (by rw [upL_hit, upL_hit, Int64.add_assoc]; rfl)⟩
    rw [if_neg k5, if_neg k5]
    exact ⟨_, rfl, hr⟩
  · rw [if_neg q, lists_f hr.mn q, px_bd, if_pos rfl]
    exact ⟨_, rfl, hr⟩
theorem m_mark {g : Gh} {M : St} (hr : MR g M) (hw : WG g) (k d : Int32) : MOk (sMark g k d).2 (sMark g k d).1 (jMod_mark k d M) := by
  have h8 := hw.mn.1
  have a1 : M.1 9 32 = nI g.now.np := hr.sp.1
  have mul2 : ∀ x : Int32, 2 * x = x * 2 := fun x => Int32.mul_comm _ _
  unfold jMod_mark sMark
  by_cases qk : rg k 6
  · obtain ⟨j, hj, rfl⟩ := rg_of qk (by omega)
    rw [show jMod_in (nI j) 0 5 M = some (1, M) from in0_t (n := 5) (by omega) (by omega), px_bd, if_neg n10]
    by_cases q : rg d g.mn.nd
    · rw [if_pos q]
      obtain ⟨d, hd, rfl⟩ := rg_of q (by omega)
      obtain ⟨-, e2, e3⟩ := hr.mn d hd
      rw [Nat.zero_add] at e2 e3
      rw [isDish_t hr hw hd, px_bd, if_neg n10, nI_clamp (by omega), unitsOf_ok hr.mn hw.mn hd, px_bd]
      rcases (by omega : j = 0 ∨ j = 1 ∨ j = 2 ∨ j = 3 ∨ j = 4 ∨ j = 5) with rfl | rfl | rfl | rfl | rfl | rfl
      · rw [if_pos (show nI 0 = 0 from rfl), if_pos (show nI 0 = 0 from rfl), px_lt]
        exact ⟨_, rfl, hr.addTr rfl (by rw [upL_hit])⟩
      · rw [if_neg (show ¬ nI 1 = 0 by decide), if_neg (show ¬ nI 1 = 0 by decide), if_pos (show nI 1 = 1 from rfl), if_pos (show nI 1 = 1 from rfl), px_lt, mul2]
        exact ⟨_, rfl, hr.addTr rfl (by rw [upL_hit])⟩
      · rw [if_neg (show ¬ nI 2 = 0 by decide), if_neg (show ¬ nI 2 = 0 by decide), if_neg (show ¬ nI 2 = 1 by decide), if_neg (show ¬ nI 2 = 1 by decide), if_pos (show nI 2 = 2 from rfl), if_pos (show nI 2 = 2 from rfl), px_lt, upL_1, px_ld (by omega) (by omega), e2]
        exact ⟨_, rfl, hr.addTr rfl (by rw [upL_hit])⟩
      · rw [if_neg (show ¬ nI 3 = 0 by decide), if_neg (show ¬ nI 3 = 0 by decide), if_neg (show ¬ nI 3 = 1 by decide), if_neg (show ¬ nI 3 = 1 by decide), if_neg (show ¬ nI 3 = 2 by decide), if_neg (show ¬ nI 3 = 2 by decide), if_pos (show nI 3 = 3 from rfl), if_pos (show nI 3 = 3 from rfl), px_lt, mul2]
        exact ⟨_, rfl, hr.addTr rfl (by rw [upL_hit])⟩
      · rw [if_neg (show ¬ nI 4 = 0 by decide), if_neg (show ¬ nI 4 = 0 by decide), if_neg (show ¬ nI 4 = 1 by decide), if_neg (show ¬ nI 4 = 1 by decide), if_neg (show ¬ nI 4 = 2 by decide), if_neg (show ¬ nI 4 = 2 by decide), if_neg (show ¬ nI 4 = 3 by decide), if_neg (show ¬ nI 4 = 3 by decide), if_pos (show nI 4 = 4 from rfl), if_pos (show nI 4 = 4 from rfl), px_lt, upL_1, px_ld (by omega) (by omega), e2, px_ld (by omega) (by omega), e3]
        exact ⟨_, rfl, hr.addTr rfl (by rw [upL_hit])⟩
      · rw [if_neg (show ¬ nI 5 = 0 by decide), if_neg (show ¬ nI 5 = 0 by decide), if_neg (show ¬ nI 5 = 1 by decide), if_neg (show ¬ nI 5 = 1 by decide), if_neg (show ¬ nI 5 = 2 by decide), if_neg (show ¬ nI 5 = 2 by decide), if_neg (show ¬ nI 5 = 3 by decide), if_neg (show ¬ nI 5 = 3 by decide), if_neg (show ¬ nI 5 = 4 by decide), if_neg (show ¬ nI 5 = 4 by decide), if_pos (show nI 5 = 5 from rfl), px_lt, upL_1, z32, px_ld (by omega) (by omega), a1]
        exact ⟨_, rfl, hr.addTr rfl (by rw [upL_hit])⟩
    · rw [if_neg q, isDish_f hr hw q, px_bd, if_pos rfl]
      exact ⟨_, rfl, hr⟩
  · have hk : ∀ j, j < 6 → ¬ k = nI j := fun j hj z => qk (by rw [z]; exact rg_nI hj (by omega))
    rw [show jMod_in k 0 5 M = some (0, M) from in0_f (n := 5) qk (by omega), px_bd, if_pos rfl]
    by_cases q : rg d g.mn.nd
    · rw [if_pos q, if_neg (show ¬ k = 0 from hk 0 (by omega)), if_neg (show ¬ k = 1 from hk 1 (by omega)), if_neg (show ¬ k = 2 from hk 2 (by omega)), if_neg (show ¬ k = 3 from hk 3 (by omega)), if_neg (show ¬ k = 4 from hk 4 (by omega)), if_neg (show ¬ k = 5 from hk 5 (by omega))]
      exact ⟨_, rfl, hr⟩
    · rw [if_neg q]
      exact ⟨_, rfl, hr⟩
theorem WG.addTr {g : Gh} (hw : WG g) (v : Int64) : WG (g.addTr v) := hw
theorem w_mark {g : Gh} (hw : WG g) (k d : Int32) : WG (sMark g k d).2 := by
  unfold sMark
  (repeat' split) <;> first | exact hw.addTr _ | exact hw
/-! type -/
def byteAt (v : Int64) (k : Nat) : Nat := ((Int64.toInt32 (x_lushr v (8 * nI k))) &&& 255).toNatClampNeg
theorem byteAt_c (v : Int64) (k : Nat) : (Int64.toInt32 (x_lushr v (8 * nI k))) &&& 255 = nI (byteAt v k) ∧ byteAt v k < 256 := by
  obtain ⟨j, hj, e⟩ := pk_andE (Int64.toInt32 (x_lushr v (8 * nI k))) (m := 255) 8 (by decide)
  unfold byteAt
  rw [e, nI_clamp (by omega)]
  exact ⟨rfl, hj⟩
theorem b_255 : ∀ i, i < 32 → bt 255 i = decide (i < 8) := by decide +kernel
theorem l_255 : ∀ i, i < 64 → (255 : Int64).toBitVec.getLsbD i = decide (i < 8) := by decide +kernel
theorem lu_n : ∀ k, k < 8 → (((8 * nI k).toInt64.toUInt64 &&& Int64.toUInt64 63).toBitVec % 64).toNat = 8 * k := by decide +kernel
theorem ls_n : ∀ k, k < 8 → (((8 * nI k).toInt64 &&& 63).toBitVec.smod 64).toNat = 8 * k := by decide +kernel
theorem b_l2i (x : Int64) {i : Nat} (hi : i < 32) : bt (Int64.toInt32 x) i = x.toBitVec.getLsbD i := by
  unfold bt
  rw [Int64.toBitVec_toInt32, BitVec.getLsbD_signExtend]
  simp [hi, show i < 64 by omega]
theorem b_i2b (x : Int32) {i : Nat} (hi : i < 8) : bt (x.toInt8.toInt32) i = bt x i := by
  unfold bt
  rw [Int8.toBitVec_toInt32, BitVec.getLsbD_signExtend, Int32.toBitVec_toInt8, BitVec.getLsbD_signExtend]
  simp [hi, show i < 32 by omega]
theorem b_lu (v : Int64) {k i : Nat} (hk : k < 8) (hi : i < 8) : (x_lushr v (8 * nI k)).toBitVec.getLsbD i = v.toBitVec.getLsbD (8 * k + i) := by
  unfold x_lushr
  show (v.toUInt64.toBitVec >>> (((8 * nI k).toInt64.toUInt64 &&& Int64.toUInt64 63).toBitVec % 64)).getLsbD i = _
  rw [BitVec.ushiftRight_eq', lu_n k hk, BitVec.getLsbD_ushiftRight]
  rfl
theorem b_ls (v : Int64) {k i : Nat} (hk : k < 8) (hi : i < 8) : (x_lshr v (8 * nI k)).toBitVec.getLsbD i = v.toBitVec.getLsbD (8 * k + i) := by
  unfold x_lshr
  rw [Int64.toBitVec_shiftRight]
  show (v.toBitVec.sshiftRight (((8 * nI k).toInt64 &&& 63).toBitVec.smod 64).toNat).getLsbD i = _
  rw [ls_n k hk, BitVec.getLsbD_sshiftRight]
  simp [show 8 * k + i < 64 by omega, show i < 64 by omega]
theorem byteAt_m (v : Int64) {k : Nat} (hk : k < 8) : (vp_nar .byte (x_i2b (Int64.toInt32 ((x_lshr v (8 * nI k)) &&& 255)))) &&& 255 = nI (byteAt v k) := by
  rw [← (byteAt_c v k).1]
  apply b_ext
  intro i hi
  show bt ((Int64.toInt32 ((x_lshr v (8 * nI k)) &&& 255)).toInt8.toInt32.toInt8.toInt32 &&& 255) i = _
  rw [b_and, b_and, b_255 i hi]
  by_cases h : i < 8
  · rw [b_i2b _ h, b_i2b _ h, b_l2i _ hi, b_l2i _ hi, Int64.toBitVec_and, BitVec.getLsbD_and, l_255 i (by omega), b_lu v hk h, b_ls v hk h]
    simp [h]
  · simp [h]
def typT (g : Gh) (v : Int64) (n j : Nat) : Nat := if j < g.tl then g.tb j else byteAt v (n - 1 - (j - g.tl))
def sType (g : Gh) (v : Int64) (n : Int32) : Int32 × Gh :=
  if rg1 n 8 then if g.tl + n.toNatClampNeg ≤ 300 then (nI (g.tl + n.toNatClampNeg), g.setTx (g.tl + n.toNatClampNeg) (typT g v n.toNatClampNeg)) else (-3, g) else (-1, g)
theorem dn_nI {n i : Nat} (h : i < n) : nI (n - i) + (-1) = nI (n - (i + 1)) := by rw [nI_m1 (by omega)]; rfl
theorem c_type {g : Gh} {S : St} (hr : CR g S) (hw : WG g) (v : Int64) (n : Int32) : COk (sType g v n).2 (sType g v n).1 (jSmoke_type v n S) := by
  have hl := hw.1
  have h11 := hr.1
  unfold jSmoke_type sType
  by_cases q : rg1 n 8
  · rw [if_pos q, if_neg q.1]
    obtain ⟨n, h1, h2, rfl⟩ := rg1_of q (by omega)
    rw [nI_clamp (by omega), if_pos (show nI n ≤ 8 from nI_le h2 (by decide)), h11, nI_add]
    by_cases q2 : g.tl + n ≤ 300
    · rw [if_pos q2, if_pos (show nI (g.tl + n) ≤ 300 from nI_le q2 (by decide)), px_lt]
      show ∃ S', _ ∧ _
      have key := for_up (F := fun m i (q : St) => jSmoke_type_h36 m v (nI (n - i) + (-1)) q) (N := n) (I := fun i q => q.1 1 1 = nI (g.tl + i) ∧ (∀ j, j < g.tl + i → q.1 2 j = nI (typT g v n j)) ∧ (∀ r, 14 ≤ r ∧ r ≤ 30 → q.1 r = S.1 r) ∧ q.2 0 = S.2 0) (fun r => r.1 = nI (g.tl + n) ∧ CR (g.setTx (g.tl + n) (typT g v n)) r.2) ?_ ?_ (i := 0) (s := S) (Nat.zero_le _) ⟨h11, fun j hj => ?_, fun _ _ => rfl, rfl⟩ (n := FU) (Nat.lt_of_le_of_lt (Nat.sub_le _ _) (Nat.lt_of_le_of_lt h2 (by decide)))
      · obtain ⟨⟨a, S'⟩, e, e1, e2⟩ := key
        rw [show nI n - 1 = nI (n - 0) + (-1) from Int32.sub_eq_add_neg _ _]
        exact ⟨S', e1 ▸ e, e2⟩
      · intro m i q hi ⟨i1, i2, i3, i4⟩
        right
        obtain ⟨hb, hb2⟩ := byteAt_c v (n - (i + 1))
        rw [jSmoke_type_h36, jSmoke_type_b36, dn_nI hi, if_neg (nI_pos (by omega)), hb]
        unfold jText_append
        rw [i1, if_pos (show nI (g.tl + i) < 300 from (nI_lt (by omega) (by decide) : nI (g.tl + i) < nI 300)), px_gd (n := 300) (by omega) (by omega), px_lt, nI_clamp (by omega), px_lt, px_bv]
        refine ⟨_, rfl, ?_, fun j hj => ?_, fun r hr' => ?_, i4⟩
        · rw [upI_hit, upI_row (by omega), i1, z1, nI_add]
          rfl
        · rw [upI_row (by omega), upI_at]
          by_cases c : j = g.tl + i
          · rw [if_pos ⟨rfl, c⟩, c]
            unfold typT
            rw [if_neg (by omega), show n - 1 - (g.tl + i - g.tl) = n - (i + 1) by omega]
          · rw [if_neg (fun z => c z.2), i2 j (by omega)]
        · rw [upI_o r (by omega), upI_o r (by omega), i3 r hr']
      · intro m q ⟨i1, i2, i3, i4⟩
        rw [jSmoke_type_h36, jSmoke_type_b36, Nat.sub_self, if_pos (by decide)]
        exact ⟨_, rfl, i1, hr.setTx i3 i4 i1 i2⟩
      · unfold typT
        rw [if_pos (show j < g.tl from hj)]
        exact hr.2.1 j hj
    · rw [if_neg q2, if_neg (show ¬ nI (g.tl + n) ≤ 300 from (nI_ge (by omega) (by omega) : ¬ nI (g.tl + n) ≤ nI 300))]
      exact ⟨_, rfl, hr⟩
  · rw [if_neg q]
    rcases rg1_no q with z | z
    · rw [if_pos z]
      exact ⟨_, rfl, hr⟩
    · rw [if_neg (fun q => absurd (Int32.lt_trans z q) (by decide)), if_neg (show ¬ n ≤ 8 from i_nle.mpr z)]
      exact ⟨_, rfl, hr⟩
theorem m_type {g : Gh} {M : St} (hr : MR g M) (hw : WG g) (v : Int64) (n : Int32) : MOk (sType g v n).2 (sType g v n).1 (jMod_type v n M) := by
  have hl := hw.1
  have h11 := hr.1
  unfold jMod_type sType
  by_cases q : rg1 n 8
  · rw [if_pos q]
    obtain ⟨n, h1, h2, rfl⟩ := rg1_of q (by omega)
    rw [nI_clamp (by omega), show jMod_in (nI n) 1 8 M = some (1, M) from in1_t (m := 8) h1 h2 (by omega), px_bd, if_neg n10, h11, nI_add]
    by_cases q2 : g.tl + n ≤ 300
    · rw [if_pos q2, if_pos (show nI (g.tl + n) ≤ 300 from nI_le q2 (by decide)), px_lt]
      show ∃ S', _ ∧ _
      have key := for_up (F := fun m i (q : St) => jMod_type_h32 m v (nI (n - i) + (-1)) q) (N := n) (I := fun i q => q.1 0 2 = nI (g.tl + i) ∧ (∀ j, j < g.tl + i → q.1 1 j &&& 255 = nI (typT g v n j)) ∧ (∀ r, 2 ≤ r ∧ r ≤ 10 → q.1 r = M.1 r) ∧ q.2 0 = M.2 0) (fun r => r.1 = nI (g.tl + n) ∧ MR (g.setTx (g.tl + n) (typT g v n)) r.2) ?_ ?_ (i := 0) (s := M) (Nat.zero_le _) ⟨h11, fun j hj => ?_, fun _ _ => rfl, rfl⟩ (n := FU) (Nat.lt_of_le_of_lt (Nat.sub_le _ _) (Nat.lt_of_le_of_lt h2 (by decide)))
      · obtain ⟨⟨a, S'⟩, e, e1, e2⟩ := key
        rw [show nI n - 1 = nI (n - 0) + (-1) from Int32.sub_eq_add_neg _ _]
        exact ⟨S', e1 ▸ e, e2⟩
      · intro m i q hi ⟨i1, i2, i3, i4⟩
        right
        have hb := byteAt_m v (k := n - (i + 1)) (by omega)
        rw [jMod_type_h32, jMod_type_b32, dn_nI hi, if_neg (nI_pos (by omega)), i1, px_gd (n := 300) (by omega) (by omega), px_lt, nI_clamp (by omega), px_lt]
        refine ⟨_, rfl, ?_, fun j hj => ?_, fun r hr' => ?_, i4⟩
        · rw [upI_hit, upI_row (by omega), i1, z1, nI_add]
          rfl
        · rw [upI_row (by omega), upI_at]
          by_cases c : j = g.tl + i
          · rw [if_pos ⟨rfl, c⟩, c, hb]
            unfold typT
            rw [if_neg (by omega), show n - 1 - (g.tl + i - g.tl) = n - (i + 1) by omega]
          · rw [if_neg (fun z => c z.2), i2 j (by omega)]
        · rw [upI_o r (by omega), upI_o r (by omega), i3 r hr']
      · intro m q ⟨i1, i2, i3, i4⟩
        rw [jMod_type_h32, jMod_type_b32, Nat.sub_self, if_pos (by decide)]
        exact ⟨_, by rw [i1], rfl, hr.setTx i3 i4 i1 i2⟩
      · unfold typT
        rw [if_pos (show j < g.tl from hj)]
        exact hr.2.1 j hj
    · rw [if_neg q2, if_neg (show ¬ nI (g.tl + n) ≤ 300 from (nI_ge (by omega) (by omega) : ¬ nI (g.tl + n) ≤ nI 300))]
      exact ⟨_, rfl, hr⟩
  · rw [if_neg q, show jMod_in n 1 8 M = some (0, M) from in1_f q, px_bd, if_pos rfl]
    exact ⟨_, rfl, hr⟩
theorem w_type {g : Gh} (hw : WG g) (v : Int64) (n : Int32) : WG (sType g v n).2 := by
  unfold sType
  split
  · rename_i q
    split
    · rename_i q2
      refine ⟨q2, fun j hj => ?_, hw.2.2⟩
      show typT g v _ j < 256
      unfold typT
      split
      · rename_i c
        exact hw.2.1 j c
      · exact (byteAt_c _ _).2
    · exact hw
  · exact hw
