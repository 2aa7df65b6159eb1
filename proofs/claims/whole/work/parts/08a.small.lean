/-! small calls: what class and reference answer, by one account -/
theorem CR.mn {g : Gh} {S : St} (h : CR g S) : CMn 14 g.mn S := h.2.2.1
theorem CR.sp {g : Gh} {S : St} (h : CR g S) : CSp 19 g.nh g.now S := h.2.2.2.1
theorem MR.nd {g : Gh} {S : St} (h : MR g S) : S.1 4 0 = nI g.mn.nd := h.2.2.1
theorem MR.mn {g : Gh} {S : St} (h : MR g S) : MMn 0 g.mn S := h.2.2.2.1
theorem MR.nh {g : Gh} {S : St} (h : MR g S) : S.1 2 0 = nI g.nh := h.2.2.2.2.1
theorem MR.sp {g : Gh} {S : St} (h : MR g S) : MSp 0 g.nh g.now S := h.2.2.2.2.2.1
theorem WG.mn {g : Gh} (h : WG g) : WMn g.mn := h.2.2.1
theorem WG.nh {g : Gh} (h : WG g) : g.nh ≤ 6 := h.2.2.2.1
theorem WG.sp {g : Gh} (h : WG g) : WSp g.nh g.mn.nd g.now := h.2.2.2.2.1
theorem hasHouse_t {nh : Nat} {P : Sp} {S : St} (hs : CSp 19 nh P S) (hn : nh ≤ 6) {h : Nat} (hh : h < nh) : jSuppers_hasHouse (nI h) S = some (1, S) := by
  unfold jSuppers_hasHouse
  rw [hs.1, if_neg (nI_pos (by omega)), if_neg (nI_ge hh (by omega)), px_n1]
theorem hasHouse_f {nh : Nat} {P : Sp} {S : St} (hs : CSp 19 nh P S) {x : Int32} (hx : ¬ rg x nh) : jSuppers_hasHouse x S = some (0, S) := by
  unfold jSuppers_hasHouse
  rw [hs.1]
  rcases rg_no hx with h | h
  · rw [if_pos h, px_n0]
  · rw [if_pos h, px_n0]; split <;> rfl
theorem lists_t {N : Mn} {S : St} (hm : CMn 14 N S) (hw : WMn N) {d : Nat} (hd : d < N.nd) : jMenu_lists (nI d) S = some (1, S) := by
  have := hw.1
  unfold jMenu_lists
  rw [hm.1, if_neg (nI_pos (by omega)), if_neg (nI_ge hd (by omega)), px_n1]
theorem lists_f {N : Mn} {S : St} (hm : CMn 14 N S) {x : Int32} (hx : ¬ rg x N.nd) : jMenu_lists x S = some (0, S) := by
  unfold jMenu_lists
  rw [hm.1]
  rcases rg_no hx with h | h
  · rw [if_pos h, px_n0]
  · rw [if_pos h, px_n0]; split <;> rfl
theorem in_t {x lo hi : Int32} {M : St} (h1 : ¬ x < lo) (h2 : ¬ hi < x) : jMod_in x lo hi M = some (1, M) := by
  unfold jMod_in
  rw [if_neg h1, if_neg h2, px_n1]
theorem in_f {x lo hi : Int32} {M : St} (h : x < lo ∨ hi < x) : jMod_in x lo hi M = some (0, M) := by
  unfold jMod_in
  by_cases h1 : x < lo
  · rw [if_pos h1, px_n0]
  · rcases h with h | h
    · exact absurd h h1
    · rw [if_neg h1, if_pos h, px_n0]
theorem in0_t {n j : Nat} {M : St} (h : j < n + 1) (hn : n < 2 ^ 31) : jMod_in (nI j) 0 (nI n) M = some (1, M) := in_t (nI_pos (by omega)) (nI_nlt (by omega) hn)
theorem in0_f {n : Nat} {x : Int32} {M : St} (h : ¬ rg x (n + 1)) (hn : n + 1 < 2 ^ 31) : jMod_in x 0 (nI n) M = some (0, M) := by
  refine in_f ?_
  rcases rg_no h with h | h
  · exact Or.inl h
  · exact Or.inr (Int32.lt_of_lt_of_le (nI_lt (Nat.lt_succ_self n) hn) h)
theorem inm_t {n j : Nat} {M : St} (h : j < n) (hn : n < 2 ^ 31) : jMod_in (nI j) 0 (nI n - 1) M = some (1, M) := by
  rw [z1, nI_sub (by omega)]
  exact in0_t (by omega) (by omega)
theorem inm_f {n : Nat} {x : Int32} {M : St} (h : ¬ rg x n) (hn : n < 2 ^ 31) : jMod_in x 0 (nI n - 1) M = some (0, M) := by
  cases n with
  | zero =>
    refine in_f ?_
    by_cases h0 : x < 0
    · exact Or.inl h0
    · exact Or.inr (Int32.lt_of_lt_of_le (by decide) (i_nlt.mp h0))
  | succ n =>
    rw [z1, nI_sub (by omega), Nat.add_sub_cancel]
    exact in0_f h hn
theorem isHouse_t {g : Gh} {M : St} (hr : MR g M) (hw : WG g) {h : Nat} (hh : h < g.nh) : jMod_isHouse (nI h) M = some (1, M) := by
  have := hw.nh
  unfold jMod_isHouse
  rw [z0, px_ld (by omega) (by omega), hr.nh, ← z0, inm_t hh (by omega), px_bd, px_n1]
theorem isHouse_f {g : Gh} {M : St} (hr : MR g M) (hw : WG g) {x : Int32} (hx : ¬ rg x g.nh) : jMod_isHouse x M = some (0, M) := by
  have := hw.nh
  unfold jMod_isHouse
  rw [z0, px_ld (by omega) (by omega), hr.nh, ← z0, inm_f hx (by omega), px_bd, px_n0]
theorem isDish_t {g : Gh} {M : St} (hr : MR g M) (hw : WG g) {d : Nat} (hd : d < g.mn.nd) : jMod_isDish (nI d) M = some (1, M) := by
  have := hw.mn.1
  unfold jMod_isDish
  rw [z0, px_ld (by omega) (by omega), hr.nd, ← z0, inm_t hd (by omega), px_bd, px_n1]
theorem isDish_f {g : Gh} {M : St} (hr : MR g M) (hw : WG g) {x : Int32} (hx : ¬ rg x g.mn.nd) : jMod_isDish x M = some (0, M) := by
  have := hw.mn.1
  unfold jMod_isDish
  rw [z0, px_ld (by omega) (by omega), hr.nd, ← z0, inm_f hx (by omega), px_bd, px_n0]
theorem stock_ok {nh : Nat} {P : Sp} {S : St} (hs : CSp 19 nh P S) (hn : nh ≤ 6) {h g : Nat} (hh : h < nh) (hg : g < 5) : jSuppers_stock (nI h) (nI g) S = some (nI (P.L h g), S) := by
  unfold jSuppers_stock
  rw [z5, nI_mul, nI_add, px_ld (by omega) (by omega), hs.2.2.2.2.1 h hh g hg]
/-- the sum of the first n -/
def sumN (f : Nat → Nat) : Nat → Nat
  | 0 => 0
  | n + 1 => sumN f n + f n
theorem sumN_le {f : Nat → Nat} {b : Nat} : ∀ {n : Nat}, (∀ i, i < n → f i ≤ b) → sumN f n ≤ b * n
  | 0, _ => Nat.zero_le _
  | n + 1, h => by
    have h1 := sumN_le (fun i hi => h i (Nat.lt_succ_of_lt hi)) (n := n)
    have h2 := h n (Nat.lt_succ_self n)
    show sumN f n + f n ≤ b * (n + 1)
    rw [Nat.mul_succ]
    omega
theorem sumN_congr {f k : Nat → Nat} : ∀ {n : Nat}, (∀ i, i < n → f i = k i) → sumN f n = sumN k n
  | 0, _ => rfl
  | n + 1, h => by
    show sumN f n + f n = sumN k n + k n
    rw [sumN_congr (fun i hi => h i (Nat.lt_succ_of_lt hi)), h n (Nat.lt_succ_self n)]
theorem Mn.units_eq (N : Mn) (d : Nat) : N.units d = sumN (N.need d) 5 := by simp [Mn.units, sumN]
theorem allStock_ok {nh : Nat} {P : Sp} {S : St} (hs : CSp 19 nh P S) (hn : nh ≤ 6) {h : Nat} (hh : h < nh) : jSuppers_allStock (nI h) S = some (nI (sumN (P.L h) 5), S) := by
  refine ex_eq.mp (for_up (F := fun n i (q : Nat × St) => jSuppers_allStock_h4 n (nI h) (nI q.1) (nI i) q.2) (N := 5) (I := fun i q => q = (sumN (P.L h) i, S)) _ ?_ ?_ (i := 0) (s := (0, S)) (Nat.zero_le _) rfl (n := FU) (by decide))
  · intro n i q hi hI
    subst hI
    right
    rw [jSuppers_allStock_h4, jSuppers_allStock_b4, z5, if_neg (nI_ge hi (by decide)), stock_ok hs hn hh hi, px_bd, px_lt, nI_add, z1, nI_add]
    exact ⟨(sumN (P.L h) (i + 1), S), rfl, rfl⟩
  · intro n q hI
    subst hI
    rw [jSuppers_allStock_h4, jSuppers_allStock_b4, z5, if_pos (nI_le (Nat.le_refl _) (by decide))]
    exact ⟨_, rfl, rfl⟩
theorem storeOf_ok {g : Gh} {M : St} (hr : MR g M) (hw : WG g) {h : Nat} (hh : h < g.nh) : jMod_storeOf (nI h) M = some (nI (sumN (g.now.L h) 5), M) := by
  have := hw.nh
  refine ex_eq.mp (for_up (F := fun n i (q : Nat × St) => jMod_storeOf_h4 n (nI h) (nI q.1) (nI i) q.2) (N := 5) (I := fun i q => q = (sumN (g.now.L h) i, M)) _ ?_ ?_ (i := 0) (s := (0, M)) (Nat.zero_le _) rfl (n := FU) (by decide))
  · intro n i q hi hI
    subst hI
    right
    have e := hr.sp.2.2.2.1 h hh i hi
    rw [Nat.zero_add] at e
    rw [jMod_storeOf_h4, jMod_storeOf_b4, z5, if_neg (nI_ge hi (by decide)), nI_mul, nI_add, px_ld (by omega) (by omega), e, px_lt, nI_add, z1, nI_add]
    exact ⟨(sumN (g.now.L h) (i + 1), M), rfl, rfl⟩
  · intro n q hI
    subst hI
    rw [jMod_storeOf_h4, jMod_storeOf_b4, z5, if_pos (nI_le (Nat.le_refl _) (by decide))]
    exact ⟨_, rfl, rfl⟩
theorem unitsOf_ok {N : Mn} {M : St} (hr : MMn 0 N M) (hw : WMn N) {d : Nat} (hd : d < N.nd) : jMod_unitsOf (nI d) M = some (nI (N.units d), M) := by
  have := hw.1
  refine ex_eq.mp (for_up (F := fun n i (q : Nat × St) => jMod_unitsOf_h4 n (nI d) (nI q.1) (nI i) q.2) (N := 5) (I := fun i q => q = (sumN (N.need d) i, M)) _ ?_ ?_ (i := 0) (s := (0, M)) (Nat.zero_le _) rfl (n := FU) (by decide))
  · intro n i q hi hI
    subst hI
    right
    have e := (hr d hd).1 i hi
    rw [Nat.zero_add] at e
    rw [jMod_unitsOf_h4, jMod_unitsOf_b4, z5, if_neg (nI_ge hi (by decide)), nI_mul, nI_add, px_ld (by omega) (by omega), e, px_lt, nI_add, z1, nI_add]
    exact ⟨(sumN (N.need d) (i + 1), M), rfl, rfl⟩
  · intro n q hI
    subst hI
    rw [jMod_unitsOf_h4, jMod_unitsOf_b4, z5, if_pos (nI_le (Nat.le_refl _) (by decide)), Mn.units_eq]
    exact ⟨_, rfl, rfl⟩
/-! what a call answers, by the ghost -/
def sHouse (g : Gh) (h w : Int32) : Int32 := if rg h g.nh then if rg w 6 then if w = 5 then nI (sumN (g.now.L h.toNatClampNeg) 5) else nI (g.now.L h.toNatClampNeg w.toNatClampNeg) else -1 else -1
theorem c_house {g : Gh} {S : St} (hr : CR g S) (hw : WG g) (h w : Int32) : jSmoke_house h w S = some (sHouse g h w, S) := by
  have := hw.nh
  unfold jSmoke_house sHouse
  by_cases hh : rg h g.nh
  · rw [if_pos hh]
    obtain ⟨h, hj, rfl⟩ := rg_of hh (by omega)
    rw [hasHouse_t hr.sp hw.nh hj, px_bd, if_neg n10, nI_clamp (by omega)]
    by_cases hx : rg w 6
    · rw [if_pos hx]
      obtain ⟨w, hx, rfl⟩ := rg_of hx (by omega)
      rw [if_neg (nI_pos (by omega)), z5, if_pos (nI_le (by omega) (by omega)), nI_clamp (by omega)]
      by_cases h5 : w = 5
      · subst h5
        rw [if_pos (nI_le (Nat.le_refl _) (by omega)), if_pos rfl, allStock_ok hr.sp hw.nh hj, px_bd]
      · rw [if_neg (nI_ge (by omega) (by omega)), if_neg (fun z => h5 ((nI_eq (by omega) (by omega)).mp z)), stock_ok hr.sp hw.nh hj (by omega), px_bd]
    · rw [if_neg hx]
      rcases rg_no hx with h0 | h0
      · rw [if_pos h0]
      · rw [if_neg (fun z => absurd (Int32.lt_of_le_of_lt h0 z) (by decide)), if_neg (i_nle.mpr (Int32.lt_of_lt_of_le (by decide) h0))]
  · rw [if_neg hh, hasHouse_f hr.sp hh, px_bd, if_pos rfl]
theorem m_house {g : Gh} {M : St} (hr : MR g M) (hw : WG g) (h w : Int32) : jMod_house h w M = some (sHouse g h w, M) := by
  have := hw.nh
  unfold jMod_house sHouse
  by_cases hh : rg h g.nh
  · rw [if_pos hh]
    obtain ⟨h, hj, rfl⟩ := rg_of hh (by omega)
    rw [isHouse_t hr hw hj, px_bd, if_neg n10, nI_clamp (by omega), z5]
    by_cases hx : rg w 6
    · rw [if_pos hx]
      obtain ⟨w, hx, rfl⟩ := rg_of hx (by omega)
      rw [in0_t (by omega) (by omega), px_bd, if_neg n10, nI_clamp (by omega)]
      by_cases h5 : w = 5
      · subst h5
        rw [if_pos (nI_le (Nat.le_refl _) (by omega)), if_pos rfl, storeOf_ok hr hw hj, px_bd]
      · have e := hr.sp.2.2.2.1 h hj w (by omega)
        rw [Nat.zero_add] at e
        rw [if_neg (nI_ge (by omega) (by omega)), if_neg (fun z => h5 ((nI_eq (by omega) (by omega)).mp z)), nI_mul, nI_add, px_ld (by omega) (by omega), e]
    · rw [if_neg hx, in0_f hx (by omega), px_bd, if_pos rfl]
  · rw [if_neg hh, isHouse_f hr hw hh, px_bd, if_pos rfl]
