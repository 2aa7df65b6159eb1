/-! the least terms -/
theorem half {b r : Nat} (h : 0 < r) (hr : r < b) : 2 * (b % r) < b := by
  have h1 := Nat.mod_lt b h
  have h2 := Nat.mod_add_div b r
  have h3 : 1 ≤ b / r := (Nat.one_le_div_iff h).mpr (by omega)
  have h4 : r * 1 ≤ r * (b / r) := Nat.mul_le_mul_left r h3
  omega
theorem lN_z {b : Nat} (hb : b < 2 ^ 63) : (lg_cmp (lN b) 0 = 0 ↔ b = 0) ∧ (lN b = 0 ↔ b = 0) := by
  have e : lN b = 0 ↔ b = 0 := pk_lEQ (b := 0) hb (by decide)
  exact ⟨(lg_cmp_eq _ _).trans e, e⟩
theorem least_go {y0 y2 : Int64} {x4 : Int32} {S : St} : ∀ (k a b i n : Nat), b < 2 ^ k → k ≤ 60 → a < 2 ^ 63 → i + 2 * k ≤ 100 → 2 * k < n → jSmoke_leastTerms_h9 n y0 y2 x4 (lN a) (lN b) (nI i) S = jSmoke_leastTerms_b44 y0 y2 x4 (lN (Nat.gcd a b)) S
  | 0, a, b, i, n, hb, _, _, hi, hn => by
    obtain ⟨n, rfl⟩ := Nat.exists_eq_succ_of_ne_zero (n := n) (by omega)
    have : b = 0 := by simpa using hb
    subst this
    rw [jSmoke_leastTerms_h9, jSmoke_leastTerms_b9, Nat.gcd_zero_right]
    split
    · rfl
    · rw [if_pos ((lN_z (by decide)).1.mpr rfl)]
  | k + 1, a, b, i, n, hb, hk, ha, hi, hn => by
    obtain ⟨n, rfl⟩ := Nat.exists_eq_succ_of_ne_zero (n := n) (by omega)
    have p0 : 2 ^ (k + 1) ≤ 2 ^ 60 := Nat.pow_le_pow_right (by decide) hk
    have hb63 : b < 2 ^ 63 := by omega
    rw [jSmoke_leastTerms_h9, jSmoke_leastTerms_b9, if_neg (show ¬ 100 ≤ nI i from (nI_ge (by omega) (by omega) : ¬ nI 100 ≤ nI i))]
    by_cases c : b = 0
    · rw [if_pos ((lN_z hb63).1.mpr c), c, Nat.gcd_zero_right]
    rw [if_neg (fun z => c ((lN_z hb63).1.mp z)), if_neg (fun z => c ((lN_z hb63).2.mp z)), px_lt, pk_lRem ha (by omega) hb63, z1, nI_add]
    have hr : a % b < b := Nat.mod_lt _ (by omega)
    obtain ⟨n, rfl⟩ := Nat.exists_eq_succ_of_ne_zero (n := n) (by omega)
    rw [jSmoke_leastTerms_h9, jSmoke_leastTerms_b9, if_neg (show ¬ 100 ≤ nI (i + 1) from (nI_ge (by omega) (by omega) : ¬ nI 100 ≤ nI (i + 1)))]
    have e1 : Nat.gcd a b = Nat.gcd b (a % b) := by rw [Nat.gcd_comm, Nat.gcd_rec, Nat.gcd_comm]
    by_cases c2 : a % b = 0
    · rw [if_pos ((lN_z (by omega)).1.mpr c2), e1, c2, Nat.gcd_zero_right]
    rw [if_neg (fun z => c2 ((lN_z (by omega)).1.mp z)), if_neg (fun z => c2 ((lN_z (by omega)).2.mp z)), px_lt, pk_lRem hb63 (by omega) (by omega), z1, nI_add]
    have h2 := half (b := b) (r := a % b) (by omega) hr
    have e2 : Nat.gcd b (a % b) = Nat.gcd (a % b) (b % (a % b)) := by rw [Nat.gcd_comm b, Nat.gcd_rec, Nat.gcd_comm]
    rw [e1, e2]
    exact least_go k (a % b) (b % (a % b)) (i + 2) n (by rw [Nat.pow_succ] at hb; omega) (by omega) (by omega) (by omega) (by omega)
theorem common_go {S : St} : ∀ (k a b n : Nat), b < 2 ^ k → k ≤ 60 → a < 2 ^ 63 → 2 * k < n → jMod_common_h6 n (lN a) (lN b) S = some (lN (Nat.gcd a b), S)
  | 0, a, b, n, hb, _, _, hn => by
    obtain ⟨n, rfl⟩ := Nat.exists_eq_succ_of_ne_zero (n := n) (by omega)
    have : b = 0 := by simpa using hb
    subst this
    rw [jMod_common_h6, jMod_common_b6, Nat.gcd_zero_right, if_pos ((lN_z (by decide)).1.mpr rfl)]
  | k + 1, a, b, n, hb, hk, ha, hn => by
    obtain ⟨n, rfl⟩ := Nat.exists_eq_succ_of_ne_zero (n := n) (by omega)
    have p0 : 2 ^ (k + 1) ≤ 2 ^ 60 := Nat.pow_le_pow_right (by decide) hk
    have hb63 : b < 2 ^ 63 := by omega
    rw [jMod_common_h6, jMod_common_b6]
    by_cases c : b = 0
    · rw [if_pos ((lN_z hb63).1.mpr c), c, Nat.gcd_zero_right]
    rw [if_neg (fun z => c ((lN_z hb63).1.mp z)), if_neg (fun z => c ((lN_z hb63).2.mp z)), px_lt, pk_lRem ha (by omega) hb63]
    have hr : a % b < b := Nat.mod_lt _ (by omega)
    obtain ⟨n, rfl⟩ := Nat.exists_eq_succ_of_ne_zero (n := n) (by omega)
    rw [jMod_common_h6, jMod_common_b6]
    have e1 : Nat.gcd a b = Nat.gcd b (a % b) := by rw [Nat.gcd_comm, Nat.gcd_rec, Nat.gcd_comm]
    by_cases c2 : a % b = 0
    · rw [if_pos ((lN_z (by omega)).1.mpr c2), e1, c2, Nat.gcd_zero_right]
    rw [if_neg (fun z => c2 ((lN_z (by omega)).1.mp z)), if_neg (fun z => c2 ((lN_z (by omega)).2.mp z)), px_lt, pk_lRem hb63 (by omega) (by omega)]
    have h2 := half (b := b) (r := a % b) (by omega) hr
    have e2 : Nat.gcd b (a % b) = Nat.gcd (a % b) (b % (a % b)) := by rw [Nat.gcd_comm b, Nat.gcd_rec, Nat.gcd_comm]
    rw [e1, e2]
    exact common_go k (a % b) (b % (a % b)) n (by rw [Nat.pow_succ] at hb; omega) (by omega) (by omega) (by omega)
theorem gcd_b {a b : Nat} (h0 : 0 < b) : 0 < Nat.gcd a b ∧ Nat.gcd a b ≤ b := ⟨Nat.gcd_pos_of_pos_right a h0, Nat.le_of_dvd h0 (Nat.gcd_dvd_right a b)⟩
theorem leastTerms_ok {a b : Nat} (ha : a < 2 ^ 63) (hb : b < 2 ^ 40) (h0 : 0 < b) (x4 : Int32) (S : St) : jSmoke_leastTerms (lN a) (lN b) x4 S = some (if x4 = 0 then lN (a / Nat.gcd a b) else lN (b / Nat.gcd a b), S) := by
  obtain ⟨g1, g2⟩ := gcd_b (a := a) h0
  unfold jSmoke_leastTerms
  show jSmoke_leastTerms_h9 FU (lN a) (lN b) x4 (lN a) (lN b) (nI 0) S = _
  rw [least_go 40 a b 0 FU hb (by decide) ha (by decide) (by decide)]
  have gz : ¬ Nat.gcd a b = 0 := by omega
  have g63 : Nat.gcd a b < 2 ^ 63 := by omega
  unfold jSmoke_leastTerms_b44
  rw [if_neg (fun z => gz ((lN_z g63).1.mp z))]
  by_cases c : x4 = 0
  · rw [if_pos c, if_pos c, if_neg (fun z => gz ((lN_z g63).2.mp z)), pk_lDiv ha g1 g63]
  · rw [if_neg c, if_neg c, if_neg (fun z => gz ((lN_z g63).2.mp z)), pk_lDiv (by omega) g1 g63]
theorem common_ok {a b : Nat} (ha : a < 2 ^ 63) (hb : b < 2 ^ 40) (S : St) : jMod_common (lN a) (lN b) S = some (lN (Nat.gcd a b), S) := common_go 40 a b FU hb (by decide) ha (by decide)
/-! who -/
def wgtN (N : Mn) (P : Sp) (s h : Nat) (d : Nat) : Nat := if N.fits d (P.L h) = true then rdN P.fog (N.sm d ^^^ s) 3 else 0
theorem wgt_le {N : Mn} {P : Sp} {s h d : Nat} (hf : P.fog ≤ 5) : wgtN N P s h d ≤ 1000 := by
  unfold wgtN
  split
  · exact rdN_le (by omega) 3
  · omega
def whoW (g : Gh) (s h : Nat) : Nat := sumN (wgtN g.mn g.now s h) g.mn.nd
def whoT (g : Gh) (s : Nat) : Nat := sumN (whoW g s) g.nh
theorem sumN_pre {f : Nat → Nat} : ∀ {n i : Nat}, i ≤ n → sumN f i ≤ sumN f n
  | 0, i, h => by rw [Nat.le_zero.mp h]; exact Nat.le_refl _
  | n + 1, i, h => by
    rcases Nat.lt_or_ge i (n + 1) with q | q
    · have := sumN_pre (f := f) (n := n) (i := i) (by omega)
      show sumN f i ≤ sumN f n + f n
      omega
    · rw [Nat.le_antisymm h q]; exact Nat.le_refl _
theorem whoW_le {g : Gh} (hw : WG g) {s h : Nat} : whoW g s h ≤ 8000 := by
  have h8 := hw.mn.1
  have := sumN_le (f := wgtN g.mn g.now s h) (b := 1000) (n := g.mn.nd) (fun d _ => wgt_le hw.sp.2.2.2)
  unfold whoW
  omega
theorem whoT_le {g : Gh} (hw : WG g) {s : Nat} : whoT g s ≤ 48000 := by
  have h6 := hw.nh
  have := sumN_le (f := whoW g s) (b := 8000) (n := g.nh) (fun d _ => whoW_le hw)
  unfold whoT
  omega
def sWho (g : Gh) (s h k : Int32) : Int32 := if rg s 8 then if rg h g.nh then if rg k 2 then
    if whoT g s.toNatClampNeg = 0 then -2 else
    if k = 0 then nI (whoW g s.toNatClampNeg h.toNatClampNeg / Nat.gcd (whoW g s.toNatClampNeg h.toNatClampNeg) (whoT g s.toNatClampNeg))
    else nI (whoT g s.toNatClampNeg / Nat.gcd (whoW g s.toNatClampNeg h.toNatClampNeg) (whoT g s.toNatClampNeg))
  else -1 else -1 else -1
theorem weightOf_ok {g : Gh} {S : St} (hr : CR g S) (hw : WG g) {h s : Nat} (hh : h < g.nh) : ∃ S', jSmoke_weightOf (nI h) (nI s) S = some (nI (whoW g s h), S') ∧ Same S S' := by
  have h8 := hw.mn.1
  obtain ⟨S1, e1, s1, p1⟩ := fill_39 hr.sp hw.nh hh
  have hmn := hr.mn.same s1
  have hsp := hr.sp.same s1 (by omega)
  unfold jSmoke_weightOf
  rw [e1, px_bv]
  refine ⟨S1, ?_, s1⟩
  refine ex_eq.mp (for_up (F := fun n i (q : St) => jSmoke_weightOf_h17 n (nI s) (nI (sumN (wgtN g.mn g.now s h) i)) (nI i) q) (N := g.mn.nd) (I := fun _ q => q = S1) _ ?_ ?_ (i := 0) (s := S1) (Nat.zero_le _) rfl (n := FU) (Nat.lt_of_le_of_lt (Nat.le_trans (Nat.sub_le _ _) h8) (by decide)))
  · intro n i q hi hq
    subst hq
    right
    have e2 : q.1 17 i = nI (g.mn.sm i) := (hmn.2 i hi).2.2.1
    rw [jSmoke_weightOf_h17, jSmoke_weightOf_b17, hmn.1, if_neg (nI_ge hi (by omega)), fits_39 hmn hw.mn (fun k hk => ⟨p1 k hk, by have := hw.sp.1 h hh k hk; omega⟩) hi, px_bd]
    refine ⟨q, ?_, rfl⟩
    show _ = jSmoke_weightOf_h17 n (nI s) (nI (sumN (wgtN g.mn g.now s h) i + wgtN g.mn g.now s h i)) (nI (i + 1)) q
    unfold wgtN
    by_cases c : g.mn.fits i (g.now.L h) = true
    · rw [c, bI_t, if_neg n10, px_ld (by omega) (by omega), e2, thou_ok hsp hw.sp.2.2.2, px_bd, px_lt, nI_add, z1, nI_add, if_pos rfl]
    · rw [show g.mn.fits i (g.now.L h) = false by simpa using c, bI_f, if_pos rfl, z1, nI_add, if_neg (by decide)]
      rfl
  · intro n q hq
    subst hq
    rw [jSmoke_weightOf_h17, jSmoke_weightOf_b17, hmn.1, if_pos (nI_le (Nat.le_refl _) (by omega))]
    exact ⟨_, rfl, rfl⟩
theorem c_who {g : Gh} {S : St} (hr : CR g S) (hw : WG g) (s h k : Int32) : COk g (sWho g s h k) (jSmoke_who s h k S) := by
  have h6 := hw.nh
  unfold jSmoke_who sWho
  by_cases q : rg s 8
  · rw [if_pos q]
    obtain ⟨s, hs, rfl⟩ := rg_of q (by omega)
    rw [isSmoke_t hs, px_bd, if_neg n10, nI_clamp (by omega)]
    by_cases q2 : rg h g.nh
    · rw [if_pos q2]
      obtain ⟨h, hh, rfl⟩ := rg_of q2 (by omega)
      rw [hasHouse_t hr.sp hw.nh hh, px_bd, if_neg n10, nI_clamp (by omega)]
      by_cases q3 : rg k 2
      · rw [if_pos q3, if_neg q3.1, if_pos (show k ≤ 1 by
            obtain ⟨j, hj, rfl⟩ := rg_of q3 (by omega)
            exact (nI_le (by omega) (by omega) : nI j ≤ nI 1))]
        have bT := whoT_le hw (s := s)
        have bW := whoW_le hw (s := s) (h := h)
        have key := for_up (F := fun n i (q : St) => jSmoke_who_h35 n (nI s) (nI h) k (nI (sumN (whoW g s) i)) (nI i) q) (N := g.nh) (I := fun _ q => Same S q) (fun r => r.1 = (if whoT g s = 0 then -2 else if k = 0 then nI (whoW g s h / Nat.gcd (whoW g s h) (whoT g s)) else nI (whoT g s / Nat.gcd (whoW g s h) (whoT g s))) ∧ Same S r.2) ?_ ?_ (i := 0) (s := S) (Nat.zero_le _) (Same.rf S) (n := FU) (Nat.lt_of_le_of_lt (Nat.le_trans (Nat.sub_le _ _) h6) (by decide))
        · obtain ⟨⟨a, S'⟩, e, e1, e2⟩ := key
          have e1 : a = _ := e1
          exact ⟨S', e1 ▸ e, hr.same e2⟩
        · intro n i q hi hs'
          right
          have hr' := hr.same hs'
          obtain ⟨S2, e2, s2⟩ := weightOf_ok hr' hw (h := i) (s := s) hi
          rw [jSmoke_who_h35, jSmoke_who_b35, hr'.sp.1, if_neg (nI_ge hi (by omega)), e2, px_bd, px_lt, nI_add, z1, nI_add]
          exact ⟨S2, rfl, hs'.tr s2⟩
        · intro n q hs'
          have hr' := hr.same hs'
          rw [jSmoke_who_h35, jSmoke_who_b35, hr'.sp.1, if_pos (nI_le (Nat.le_refl _) (by omega))]
          show ∃ r, (if nI (whoT g s) = 0 then _ else _) = some r ∧ _
          by_cases c : whoT g s = 0
          · rw [if_pos (show nI (whoT g s) = 0 by rw [c]; rfl)]
            exact ⟨_, rfl, (if_pos c).symm, hs'⟩
          · obtain ⟨S2, e2, s2⟩ := weightOf_ok hr' hw (h := h) (s := s) hh
            rw [if_neg (nI_ne0 (by omega) (by omega)), e2, px_bd]
            show ∃ r, x_bd (jSmoke_leastTerms (nI (whoW g s h)).toInt64 (nI (whoT g s)).toInt64 k S2) _ = some r ∧ _
            rw [nI_l (by omega), nI_l (by omega), leastTerms_ok (by omega) (by omega) (by omega), px_bd]
            refine ⟨_, rfl, ?_, hs'.tr s2⟩
            rw [if_neg c]
            by_cases k0 : k = 0
            · rw [if_pos k0, if_pos k0]; exact lN_i _
            · rw [if_neg k0, if_neg k0]; exact lN_i _
      · rw [if_neg q3]
        rcases rg_no q3 with z | z
        · rw [if_pos z]
          exact ⟨_, rfl, hr⟩
        · rw [if_neg (show ¬ k < 0 from fun y => absurd (Int32.lt_of_lt_of_le y (Int32.le_trans (show (0 : Int32) ≤ nI 2 by decide) z)) (Int32.lt_irrefl)), if_neg (show ¬ k ≤ 1 from fun y => absurd (Int32.le_trans z y) (by decide))]
          exact ⟨_, rfl, hr⟩
    · rw [if_neg q2, hasHouse_f hr.sp q2, px_bd, if_pos rfl]
      exact ⟨_, rfl, hr⟩
  · rw [if_neg q, isSmoke_f q, px_bd, if_pos rfl]
    exact ⟨_, rfl, hr⟩
theorem m_who {g : Gh} {M : St} (hr : MR g M) (hw : WG g) (s h k : Int32) : jMod_who s h k M = some (sWho g s h k, M) := by
  have h6 := hw.nh
  have h8 := hw.mn.1
  unfold jMod_who sWho
  by_cases q : rg s 8
  · rw [if_pos q]
    obtain ⟨s, hs, rfl⟩ := rg_of q (by omega)
    rw [mSmoke_t hs, px_bd, if_neg n10, nI_clamp (by omega)]
    by_cases q2 : rg h g.nh
    · rw [if_pos q2]
      obtain ⟨h, hh, rfl⟩ := rg_of q2 (by omega)
      rw [isHouse_t hr hw hh, px_bd, if_neg n10, nI_clamp (by omega)]
      by_cases q3 : rg k 2
      · rw [if_pos q3, show jMod_in k 0 1 M = some (1, M) by
            obtain ⟨j, hj, rfl⟩ := rg_of q3 (by omega)
            exact in0_t (n := 1) hj (by omega), px_bd, if_neg n10]
        have bT := whoT_le hw (s := s)
        have bW := whoW_le hw (s := s) (h := h)
        refine ex_eq.mp (for_up (F := fun n i (q : St) => jMod_who_h35 n (nI s) (nI h) k (nI (if h < i then whoW g s h else 0)) (nI (sumN (whoW g s) i)) (nI i) q) (N := g.nh) (I := fun _ q => q = M) _ ?_ ?_ (i := 0) (s := M) (Nat.zero_le _) rfl (n := FU) (Nat.lt_of_le_of_lt (Nat.le_trans (Nat.sub_le _ _) h6) (by decide)))
        · intro n i q hi hq
          subst hq
          right
          rw [jMod_who_h35, jMod_who_b35, show x_ld (q.1 2) 2 0 = x_ld (q.1 2) 2 (nI 0) from rfl, px_ld (by omega) (by omega), hr.nh, if_neg (nI_ge hi (by omega))]
          obtain ⟨m', q', e1, e4⟩ := for_go (F := fun m' j (r : St) => jMod_who_h49 (jMod_who_h35 n) m' (nI s) (nI h) k (nI ((if h < i then whoW g s h else 0) + (if i = h then sumN (wgtN g.mn g.now s i) j else 0))) (nI (sumN (whoW g s) i + sumN (wgtN g.mn g.now s i) j)) (nI i) (nI j) r) (N := g.mn.nd) (I := fun _ q' => q' = q) (fun m' j q' hj hq' => by
            subst hq'
            have e6 := (hr.mn j hj).2.1
            rw [Nat.zero_add] at e6
            rw [jMod_who_h49, jMod_who_b49, show x_ld (q'.1 4) 2 0 = x_ld (q'.1 4) 2 (nI 0) from rfl, px_ld (by omega) (by omega), hr.nd, if_neg (nI_ge hj (by omega)), canCook_ok hr hw hi hj, px_bd]
            refine ⟨q', ?_, rfl⟩
            show _ = jMod_who_h49 (jMod_who_h35 n) m' (nI s) (nI h) k (nI ((if h < i then whoW g s h else 0) + (if i = h then sumN (wgtN g.mn g.now s i) j + wgtN g.mn g.now s i j else 0))) (nI (sumN (whoW g s) i + (sumN (wgtN g.mn g.now s i) j + wgtN g.mn g.now s i j))) (nI i) (nI (j + 1)) q'
            unfold jMod_who_b87
            by_cases c : g.mn.fits j (g.now.L i) = true
            · have ew : wgtN g.mn g.now s i j = rdN g.now.fog (g.mn.sm j ^^^ s) 3 := if_pos c
              rw [c, bI_t, if_neg n10, px_ld (by omega) (by omega), e6, readAs_ok hr.sp hw.sp.2.2.2, px_bd]
              by_cases c2 : i = h
              · rw [if_pos (show nI i = nI h by rw [c2]), px_lt, px_lt, nI_add, nI_add, z1, nI_add, ew, if_pos c2, if_pos c2, Nat.add_assoc, Nat.add_assoc]
              · rw [if_neg (fun z => c2 ((nI_eq (by omega) (by omega)).mp z)), px_lt, px_lt, Int32.add_zero, nI_add, z1, nI_add, ew, if_neg c2, if_neg c2, Nat.add_assoc]
            · have ew : wgtN g.mn g.now s i j = 0 := if_neg c
              rw [show g.mn.fits j (g.now.L i) = false by simpa using c, bI_f, if_pos rfl, ew]
              by_cases c2 : i = h
              · rw [if_pos (show nI i = nI h by rw [c2]), px_lt, px_lt, Int32.add_zero, Int32.add_zero, z1, nI_add, if_pos c2, if_pos c2]; rfl
              · rw [if_neg (fun z => c2 ((nI_eq (by omega) (by omega)).mp z)), px_lt, px_lt, Int32.add_zero, Int32.add_zero, z1, nI_add, if_neg c2, if_neg c2, Nat.add_zero]; rfl) (i := 0) (s := q) (Nat.zero_le _) rfl (n := FU) (Nat.lt_of_le_of_lt (Nat.le_trans (Nat.sub_le _ _) h8) (by decide))
          subst e4
          refine ⟨q', ?_, rfl⟩
          rw [show sumN (wgtN g.mn g.now s i) 0 = 0 from rfl, ite_self, Nat.add_zero, Nat.add_zero] at e1
          refine Eq.trans e1 ?_
          rw [jMod_who_h49, jMod_who_b49, show x_ld (q'.1 4) 2 0 = x_ld (q'.1 4) 2 (nI 0) from rfl, px_ld (by omega) (by omega), hr.nd, if_pos (nI_le (Nat.le_refl _) (by omega)), z1, nI_add]
          have e5 : (if h < i then whoW g s h else 0) + (if i = h then sumN (wgtN g.mn g.now s i) g.mn.nd else 0) = if h < i + 1 then whoW g s h else 0 := by
            by_cases c2 : i = h
            · subst c2
              rw [if_neg (by omega), if_pos rfl, if_pos (by omega), Nat.zero_add]
              rfl
            · rw [if_neg c2, Nat.add_zero]
              by_cases c3 : h < i
              · rw [if_pos c3, if_pos (by omega)]
              · rw [if_neg c3, if_neg (by omega)]
          rw [e5]
          rfl
        · intro n q hq
          subst hq
          rw [jMod_who_h35, jMod_who_b35, show x_ld (q.1 2) 2 0 = x_ld (q.1 2) 2 (nI 0) from rfl, px_ld (by omega) (by omega), hr.nh, if_pos (nI_le (Nat.le_refl _) (by omega)), if_pos hh]
          refine ex_eq.mpr ?_
          show (if nI (whoT g s) = 0 then _ else x_bd (jMod_common (nI (whoW g s h)).toInt64 (nI (whoT g s)).toInt64 q) _) = _
          by_cases c : whoT g s = 0
          · rw [if_pos (show nI (whoT g s) = 0 by rw [c]; rfl), if_pos c]
          · obtain ⟨g1, g2⟩ := gcd_b (a := whoW g s h) (b := whoT g s) (by omega)
            rw [if_neg (nI_ne0 (by omega) (by omega)), if_neg c, nI_l (by omega), nI_l (by omega), common_ok (by omega) (by omega), px_bd, px_lt, lN_i]
            by_cases k0 : k = 0
            · rw [if_pos k0, if_pos k0, if_neg (nI_ne0 g1 (by omega)), pk_div (by omega) g1 (by omega)]
            · rw [if_neg k0, if_neg k0, if_neg (nI_ne0 g1 (by omega))]
              show some (nI (whoT g s) / _, q) = _
              rw [pk_div (by omega) g1 (by omega)]
      · rw [if_neg q3, show jMod_in k 0 1 M = some (0, M) from in0_f (n := 1) q3 (by omega), px_bd, if_pos rfl]
    · rw [if_neg q2, isHouse_f hr hw q2, px_bd, if_pos rfl]
  · rw [if_neg q, mSmoke_f q, px_bd, if_pos rfl]
