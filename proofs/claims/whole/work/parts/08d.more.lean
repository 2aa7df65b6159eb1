/-! gives, plume, fog, clear, lot, count, trace, dish -/
abbrev rg1 (x : Int32) (m : Nat) : Prop := ¬ x < 1 ∧ ¬ nI m < x
theorem rg1_of {x : Int32} {m : Nat} (h : rg1 x m) (hm : m < 2 ^ 31) : ∃ j, 1 ≤ j ∧ j ≤ m ∧ x = nI j := by
  have h0 : ¬ x < 0 := fun z => h.1 (Int32.lt_trans z (by decide))
  obtain ⟨j, hj, rfl⟩ := nI_of h0
  refine ⟨j, ?_, ?_, rfl⟩
  · rcases Nat.eq_zero_or_pos j with e | e
    · subst e; exact absurd (by decide) h.1
    · exact e
  · rcases Nat.lt_or_ge m j with e | e
    · exact absurd (nI_lt e hj) h.2
    · exact e
theorem rg1_no {x : Int32} {m : Nat} (h : ¬ rg1 x m) : x < 1 ∨ nI m < x := by
  by_cases h0 : x < 1
  · exact Or.inl h0
  · exact Or.inr (Decidable.byContradiction fun z => h ⟨h0, z⟩)
theorem in1_t {m j : Nat} {M : St} (h1 : 1 ≤ j) (h : j ≤ m) (hm : m < 2 ^ 31) : jMod_in (nI j) 1 (nI m) M = some (1, M) := in_t (by rw [z1]; exact nI_nlt h1 (by omega)) (nI_nlt h hm)
theorem in1_f {m : Nat} {x : Int32} {M : St} (h : ¬ rg1 x m) : jMod_in x 1 (nI m) M = some (0, M) := in_f (rg1_no h)
def givesSp (P : Sp) (h t k n : Nat) : Sp := ((fun h' k' => if h' = t ∧ k' = k then P.L t k + n else if h' = h ∧ k' = k then P.L h k - n else P.L h' k'), P.2)
def sGives (g : Gh) (h t k n : Int32) : Int32 × Gh := if rg h g.nh then if rg t g.nh then if h = t then (-1, g) else if rg k 5 then if rg1 n 9 then if n.toNatClampNeg ≤ g.now.L h.toNatClampNeg k.toNatClampNeg then if g.now.L t.toNatClampNeg k.toNatClampNeg + n.toNatClampNeg ≤ 9 then (nI (g.now.L t.toNatClampNeg k.toNatClampNeg + n.toNatClampNeg), g.setNow (givesSp g.now h.toNatClampNeg t.toNatClampNeg k.toNatClampNeg n.toNatClampNeg)) else (-3, g) else (-2, g) else (-1, g) else (-1, g) else (-1, g) else (-1, g)
theorem c_gives {g : Gh} {S : St} (hr : CR g S) (hw : WG g) (h t k n : Int32) : COk (sGives g h t k n).2 (sGives g h t k n).1 (jSmoke_gives h t k n S) := by
  have h6 := hw.nh
  unfold jSmoke_gives sGives
  by_cases hh : rg h g.nh
  · rw [if_pos hh]
    obtain ⟨h, hj, rfl⟩ := rg_of hh (by omega)
    rw [hasHouse_t hr.sp hw.nh hj, px_bd, if_neg n10, nI_clamp (by omega)]
    by_cases ht : rg t g.nh
    · rw [if_pos ht]
      obtain ⟨t, hj2, rfl⟩ := rg_of ht (by omega)
      rw [hasHouse_t hr.sp hw.nh hj2, px_bd, if_neg n10, nI_clamp (by omega)]
      by_cases he : h = t
      · subst he
        rw [if_pos rfl, if_pos rfl]
        exact ⟨_, rfl, hr⟩
      · have he' : ¬ nI h = nI t := fun z => he ((nI_eq (by omega) (by omega)).mp z)
        rw [if_neg he', if_neg he']
        by_cases qk : rg k 5
        · rw [if_pos qk]
          obtain ⟨k, hk, rfl⟩ := rg_of qk (by omega)
          rw [if_neg (nI_pos (by omega)), z5, if_neg (nI_ge hk (by omega)), nI_clamp (by omega)]
          by_cases hn : rg1 n 9
          · rw [if_pos hn, if_neg hn.1]
            obtain ⟨n, hn1, hn2, rfl⟩ := rg1_of hn (by omega)
            have b1 := hw.sp.1 h hj k hk
            have b2 := hw.sp.1 t hj2 k hk
            rw [z9, if_pos (nI_le hn2 (by omega)), stock_ok hr.sp hw.nh hj hk, px_bd, nI_clamp (by omega)]
            by_cases c1 : n ≤ g.now.L h k
            · rw [if_pos c1, if_pos (nI_le c1 (by omega)), stock_ok hr.sp hw.nh hj2 hk, px_bd, nI_add]
              by_cases c2 : g.now.L t k + n ≤ 9
              · rw [if_pos c2, if_pos (nI_le c2 (by omega)), change_ok (by omega) hk, px_bv, show S.1 20 (h * 5 + k) = nI (g.now.L h k) from hr.sp.2.2.2.2.1 h hj k hk, nI_addneg c1]
                have s1 : CSp 19 g.nh ((fun h' k' => if h' = h ∧ k' = k then g.now.L h k - n else g.now.L h' k'), g.now.2) (upI S 20 (h * 5 + k) (nI (g.now.L h k - n))) := hr.sp.larder hk (fun _ _ _ _ => rfl)
                have e2 : (upI S 20 (h * 5 + k) (nI (g.now.L h k - n))).1 20 (t * 5 + k) = nI (g.now.L t k) := by rw [upI_off (by omega)]; exact hr.sp.2.2.2.2.1 t hj2 k hk
                rw [change_ok (by omega) hk, px_bv, e2, nI_add]
                have s2 : CSp 19 g.nh (givesSp g.now h t k n) (upI (upI S 20 (h * 5 + k) (nI (g.now.L h k - n))) 20 (t * 5 + k) (nI (g.now.L t k + n))) := s1.larder hk (fun h' k' _ _ => rfl)
                have e3 := stock_ok s2 hw.nh hj2 hk
                rw [show (givesSp g.now h t k n).L t k = g.now.L t k + n from if_pos ⟨rfl, rfl⟩] at e3
                rw [e3, px_bd]
                refine ⟨_, rfl, hr.setSp (fun r hr' => ?_) rfl s2⟩
                rw [upI_o r (by omega), upI_o r (by omega)]
              · rw [if_neg c2, if_neg (nI_ge (by omega) (by omega))]
                exact ⟨_, rfl, hr⟩
            · rw [if_neg c1, if_neg (nI_ge (by omega) (by omega))]
              exact ⟨_, rfl, hr⟩
          · rw [if_neg hn]
            rcases rg1_no hn with z | z
            · rw [if_pos z]; exact ⟨_, rfl, hr⟩
            · rw [if_neg (fun q => absurd (Int32.lt_trans z q) (by decide)), z9, if_neg (i_nle.mpr z)]
              exact ⟨_, rfl, hr⟩
        · rw [if_neg qk]
          rcases rg_no qk with z | z
          · rw [if_pos z]; exact ⟨_, rfl, hr⟩
          · rw [if_neg (fun q => absurd (Int32.lt_of_le_of_lt z q) (by decide)), z5, if_pos z]
            exact ⟨_, rfl, hr⟩
    · rw [if_neg ht, hasHouse_f hr.sp ht, px_bd, if_pos rfl]
      exact ⟨_, rfl, hr⟩
  · rw [if_neg hh, hasHouse_f hr.sp hh, px_bd, if_pos rfl]
    exact ⟨_, rfl, hr⟩
theorem m_gives {g : Gh} {M : St} (hr : MR g M) (hw : WG g) (h t k n : Int32) : MOk (sGives g h t k n).2 (sGives g h t k n).1 (jMod_gives h t k n M) := by
  have h6 := hw.nh
  unfold jMod_gives sGives
  by_cases hh : rg h g.nh
  · rw [if_pos hh]
    obtain ⟨h, hj, rfl⟩ := rg_of hh (by omega)
    rw [isHouse_t hr hw hj, px_bd, if_neg n10, nI_clamp (by omega)]
    by_cases ht : rg t g.nh
    · rw [if_pos ht]
      obtain ⟨t, hj2, rfl⟩ := rg_of ht (by omega)
      rw [isHouse_t hr hw hj2, px_bd, if_neg n10, nI_clamp (by omega)]
      by_cases he : h = t
      · subst he
        rw [if_pos rfl, if_pos rfl]
        exact ⟨_, rfl, hr⟩
      · have he' : ¬ nI h = nI t := fun z => he ((nI_eq (by omega) (by omega)).mp z)
        rw [if_neg he', if_neg he', z4]
        by_cases qk : rg k 5
        · rw [if_pos qk]
          obtain ⟨k, hk, rfl⟩ := rg_of qk (by omega)
          rw [in0_t (by omega) (by omega), px_bd, if_neg n10, nI_clamp (by omega), z9]
          by_cases hn : rg1 n 9
          · rw [if_pos hn]
            obtain ⟨n, hn1, hn2, rfl⟩ := rg1_of hn (by omega)
            have b1 := hw.sp.1 h hj k hk
            have b2 := hw.sp.1 t hj2 k hk
            have e1 := hr.sp.2.2.2.1 h hj k hk
            have e2 := hr.sp.2.2.2.1 t hj2 k hk
            rw [Nat.zero_add] at e1 e2
            rw [in1_t hn1 hn2 (by omega), px_bd, if_neg n10, z5, nI_mul, nI_add, px_ld (by omega) (by omega), e1, nI_clamp (by omega)]
            by_cases c1 : n ≤ g.now.L h k
            · rw [if_pos c1, if_pos (nI_le c1 (by omega)), nI_mul, nI_add, px_ld (by omega) (by omega), e2, nI_add]
              by_cases c2 : g.now.L t k + n ≤ 9
              · rw [if_pos c2, if_pos (nI_le c2 (by omega)), px_ld (by omega) (by omega), e1, px_gd (by omega) (by omega), px_lt, nI_clamp (by omega), nI_sub c1]
                have s1 : MSp 0 g.nh ((fun h' k' => if h' = h ∧ k' = k then g.now.L h k - n else g.now.L h' k'), g.now.2) (upI M 9 (5 * h + k) (nI (g.now.L h k - n))) := hr.sp.larder hw.nh hj hk (fun _ _ _ _ => rfl)
                rw [px_ld (by omega) (by omega), upI_off (by omega), e2, px_gd (by omega) (by omega), px_lt, nI_clamp (by omega), nI_add]
                have s2 : MSp 0 g.nh (givesSp g.now h t k n) (upI (upI M 9 (5 * h + k) (nI (g.now.L h k - n))) 9 (5 * t + k) (nI (g.now.L t k + n))) := s1.larder hw.nh hj2 hk (fun h' k' _ _ => rfl)
                rw [px_ld (by omega) (by omega), upI_hit]
                refine ⟨_, rfl, hr.setSp (fun r h1 h2 => ?_) ((hi9.rf.up (by omega)).up (by omega)) rfl s2⟩
                rw [upI_o r h2, upI_o r h2]
              · rw [if_neg c2, if_neg (nI_ge (by omega) (by omega))]
                exact ⟨_, rfl, hr⟩
            · rw [if_neg c1, if_neg (nI_ge (by omega) (by omega))]
              exact ⟨_, rfl, hr⟩
          · rw [if_neg hn, in1_f hn, px_bd, if_pos rfl]
            exact ⟨_, rfl, hr⟩
        · rw [if_neg qk, in0_f qk (by omega), px_bd, if_pos rfl]
          exact ⟨_, rfl, hr⟩
    · rw [if_neg ht, isHouse_f hr hw ht, px_bd, if_pos rfl]
      exact ⟨_, rfl, hr⟩
  · rw [if_neg hh, isHouse_f hr hw hh, px_bd, if_pos rfl]
    exact ⟨_, rfl, hr⟩
theorem w_gives {g : Gh} (hw : WG g) (h t k n : Int32) : WG (sGives g h t k n).2 := by
  have h6 := hw.nh
  unfold sGives
  by_cases hh : rg h g.nh
  · rw [if_pos hh]
    by_cases ht : rg t g.nh
    · rw [if_pos ht]
      by_cases he : h = t
      · rw [if_pos he]; exact hw
      · rw [if_neg he]
        by_cases qk : rg k 5
        · rw [if_pos qk]
          by_cases hn : rg1 n 9
          · rw [if_pos hn]
            split
            · split
              · rename_i c1 c2
                obtain ⟨h, hj, rfl⟩ := rg_of hh (by omega)
                obtain ⟨k, hk, rfl⟩ := rg_of qk (by omega)
                rw [nI_clamp (by omega), nI_clamp (by omega)] at c1
                rw [nI_clamp (n := k) (by omega)] at c2
                obtain ⟨b1, b2, b3, b4⟩ := hw.sp
                refine hw.setSp ⟨fun h' hh' k' hk' => ?_, b2, b3, b4⟩
                rw [nI_clamp (n := h) (by omega), nI_clamp (n := k) (by omega)]
                simp only [givesSp, Sp.L]
                split
                · exact c2
                · split
                  · exact Nat.le_trans (Nat.sub_le _ _) (b1 h hj k hk)
                  · exact b1 h' hh' k' hk'
              · exact hw
            · exact hw
          · rw [if_neg hn]; exact hw
        · rw [if_neg qk]; exact hw
    · rw [if_neg ht]; exact hw
  · rw [if_neg hh]; exact hw
/-! plume -/
def sPlume (g : Gh) (k w : Int32) : Int32 := if rg k g.now.np then if rg w 2 then if w = 0 then nI (g.now.ph k.toNatClampNeg) else nI (g.mn.sm (g.now.pd k.toNatClampNeg)) else -1 else -1
theorem c_plume {g : Gh} {S : St} (hr : CR g S) (hw : WG g) (k w : Int32) : jSmoke_plume k w S = some (sPlume g k w, S) := by
  have h8 := hw.mn.1
  have hnp := hw.sp.2.1
  unfold jSmoke_plume sPlume
  rw [hr.sp.2.1]
  by_cases hk : rg k g.now.np
  · rw [if_pos hk]
    obtain ⟨k, hj, rfl⟩ := rg_of hk (by omega)
    rw [if_neg (nI_pos (by omega)), if_neg (nI_ge hj (by omega)), nI_clamp (by omega)]
    by_cases qx : rg w 2
    · rw [if_pos qx]
      obtain ⟨w, hx, rfl⟩ := rg_of qx (by omega)
      rw [if_neg (nI_pos (by omega)), z1, if_pos (nI_le (by omega) (by omega))]
      obtain ⟨e1, e2⟩ := hr.sp.2.2.2.2.2 k hj
      have hd := (hw.sp.2.2.1 k hj).2
      by_cases h5 : nI w = 0
      · rw [if_pos h5, if_pos h5, px_ld (by omega) (by omega), show S.1 21 k = _ from e1]
      · rw [if_neg h5, if_neg h5, px_ld (by omega) (by omega), show S.1 22 k = _ from e2, px_ld (by omega) (by omega), show S.1 17 (g.now.pd k) = _ from (hr.mn.2 _ hd).2.2.1]
    · rw [if_neg qx]
      rcases rg_no qx with h0 | h0
      · rw [if_pos h0]
      · rw [if_neg (fun z => absurd (Int32.lt_of_le_of_lt h0 z) (by decide)), if_neg (i_nle.mpr (Int32.lt_of_lt_of_le (by decide) h0))]
  · rw [if_neg hk]
    rcases rg_no hk with h0 | h0
    · rw [if_pos h0]
    · rw [if_pos h0]; split <;> rfl
theorem m_plume {g : Gh} {M : St} (hr : MR g M) (hw : WG g) (k w : Int32) : jMod_plume k w M = some (sPlume g k w, M) := by
  have h8 := hw.mn.1
  have hnp := hw.sp.2.1
  have a1 : M.1 9 32 = nI g.now.np := hr.sp.1
  unfold jMod_plume sPlume
  rw [z32, px_ld (by omega) (by omega), a1]
  by_cases hk : rg k g.now.np
  · rw [if_pos hk]
    obtain ⟨k, hj, rfl⟩ := rg_of hk (by omega)
    rw [inm_t hj (by omega), px_bd, if_neg n10, nI_clamp (by omega), z1]
    by_cases qx : rg w 2
    · rw [if_pos qx]
      obtain ⟨w, hx, rfl⟩ := rg_of qx (by omega)
      rw [in0_t (by omega) (by omega), px_bd, if_neg n10]
      obtain ⟨e1, e2⟩ := hr.sp.2.2.2.2 k hj
      rw [Nat.zero_add] at e1 e2
      have hd := (hw.sp.2.2.1 k hj).2
      have e3 := (hr.mn _ hd).2.1
      rw [Nat.zero_add] at e3
      by_cases h5 : nI w = 0
      · rw [if_pos h5, if_pos h5, z33, z2, nI_mul, nI_add, px_ld (by omega) (by omega), e1]
      · rw [if_neg h5, if_neg h5, z33, z2, nI_mul, nI_add, nI_add, px_ld (by omega) (by omega), e2, px_ld (by omega) (by omega), e3]
    · rw [if_neg qx, in0_f qx (by omega), px_bd, if_pos rfl]
  · rw [if_neg hk, inm_f hk (by omega), px_bd, if_pos rfl]
