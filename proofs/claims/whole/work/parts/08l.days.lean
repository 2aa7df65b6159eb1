/-! days -/
def bstN (N : Mn) (P : Nat → Nat) : Nat → Option Nat
  | 0 => none
  | i + 1 => if N.fits i P = true then (match bstN N P i with
    | none => some i
    | some b => if N.units i < N.units b then some i else some b) else bstN N P i
theorem bstN_lt {N : Mn} {P : Nat → Nat} : ∀ {i b : Nat}, bstN N P i = some b → b < i ∧ N.fits b P = true
  | 0, b, h => by cases h
  | i + 1, b, h => by
    simp only [bstN] at h
    by_cases c : N.fits i P = true
    · rw [if_pos c] at h
      cases e : bstN N P i with
      | none =>
        rw [e] at h
        cases h
        exact ⟨by omega, c⟩
      | some b' =>
        rw [e] at h
        dsimp only at h
        have := bstN_lt e
        split at h
        · cases h
          exact ⟨by omega, c⟩
        · cases h
          exact ⟨by omega, this.2⟩
    · rw [if_neg c] at h
      have := bstN_lt h
      exact ⟨by omega, this.2⟩
def dayN (N : Mn) : Nat → (Nat → Nat) → Nat
  | 0, _ => 0
  | k + 1, P => match bstN N P N.nd with
    | none => 0
    | some d => dayN N k (fun g => P g - N.need d g) + 1
theorem dayN_0 {N : Mn} {k : Nat} {P : Nat → Nat} (h : bstN N P N.nd = none) : dayN N (k + 1) P = 0 := by
  simp only [dayN]
  rw [h]
theorem dayN_s {N : Mn} {k d : Nat} {P : Nat → Nat} (h : bstN N P N.nd = some d) : dayN N (k + 1) P = dayN N k (fun g => P g - N.need d g) + 1 := by
  simp only [dayN]
  rw [h]
theorem dayN_le {N : Mn} : ∀ {k : Nat} {P : Nat → Nat}, dayN N k P ≤ k
  | 0, _ => Nat.le_refl _
  | k + 1, P => by
    simp only [dayN]
    cases bstN N P N.nd with
    | none => exact Nat.zero_le _
    | some d => exact Nat.succ_le_succ dayN_le
def sDays (g : Gh) (h : Int32) : Int32 := if rg h g.nh then nI (dayN g.mn 30 (g.now.L h.toNatClampNeg)) else -1
theorem units_lt {N : Mn} (hw : WMn N) {d : Nat} (hd : d < N.nd) : N.units d < 100 := by
  have := sumN_le (f := N.need d) (b := 9) (n := 5) (fun g hg => (hw.2 d hd).1 g hg)
  rw [Mn.units_eq]
  omega
theorem leanest_ok {N : Mn} {S : St} (hm : CMn 14 N S) (hw : WMn N) {P : Nat → Nat} (hP : ∀ g, g < 5 → S.1 39 g = nI (P g) ∧ P g < 1000) : jMenu_leanest S = some (oI (-1) (bstN N P N.nd), S) := by
  have h8 := hw.1
  have e1 : ∀ j, j < N.nd → S.1 16 j = nI (N.units j) := fun j hj => (hm.2 j hj).2.1
  refine ex_eq.mp (for_up (F := fun n i (q : St) => jMenu_leanest_h4 n (oI (-1) (bstN N P i)) (nI i) q) (N := N.nd) (I := fun _ q => q = S) _ ?_ ?_ (i := 0) (s := S) (Nat.zero_le _) rfl (n := FU) (Nat.lt_of_le_of_lt (Nat.le_trans (Nat.sub_le _ _) h8) (by decide)))
  · intro n i q hi hq
    subst hq
    right
    rw [jMenu_leanest_h4, jMenu_leanest_b4, hm.1, if_neg (nI_ge hi (by omega)), fits_39 hm hw hP hi, px_bd]
    refine ⟨q, ?_, rfl⟩
    simp only [bstN]
    by_cases c : N.fits i P = true
    · rw [c, bI_t, if_neg n10, if_pos rfl]
      cases e : bstN N P i with
      | none =>
        rw [if_pos (show oI (-1) none = -1 from rfl), z1, nI_add]
        rfl
      | some b =>
        have hb := (bstN_lt e).1
        have u1 := units_lt hw hi
        have u2 := units_lt hw (d := b) (by omega)
        rw [if_neg (show ¬ oI (-1) (some b) = -1 from nI_nm1 (by omega)), px_ld (by omega) (by omega), e1 i hi]
        show x_ld (q.1 16) 8 (nI b) _ = _
        rw [px_ld (by omega) (by omega), e1 b (by omega)]
        by_cases c2 : N.units i < N.units b
        · rw [if_neg (nI_ge c2 (by omega)), z1, nI_add]
          dsimp only
          rw [if_pos c2]
          rfl
        · rw [if_pos (nI_le (by omega) (by omega)), z1, nI_add]
          dsimp only
          rw [if_neg c2]
    · rw [show N.fits i P = false by simpa using c, bI_f, if_pos rfl, if_neg (by decide), z1, nI_add]
  · intro n q hq
    subst hq
    rw [jMenu_leanest_h4, jMenu_leanest_b4, hm.1, if_pos (nI_le (Nat.le_refl _) (by omega))]
    exact ⟨_, rfl, rfl⟩
theorem take_39 {N : Mn} {S : St} (hm : CMn 14 N S) (hw : WMn N) {P : Nat → Nat} (hP : ∀ g, g < 5 → S.1 39 g = nI (P g) ∧ P g < 1000) {d : Nat} (hd : d < N.nd) (hf : N.fits d P = true) : ∃ S', jMenu_take_39 (nI d) S = some S' ∧ Same S S' ∧ ∀ g, g < 5 → S'.1 39 g = nI (P g - N.need d g) := by
  have h8 := hw.1
  have hf := Mn.fits_t.mp hf
  refine for_up (F := fun n i (q : St) => jMenu_take_39_h2 n (nI d) (nI i) q) (N := 5) (I := fun i q => Same S q ∧ ∀ g, g < 5 → q.1 39 g = nI (if g < i then P g - N.need d g else P g)) _ ?_ ?_ (i := 0) (s := S) (Nat.zero_le _) ⟨Same.rf S, fun g hg => by rw [if_neg (by omega)]; exact (hP g hg).1⟩ (n := FU) (by decide)
  · intro n i q hi ⟨hs, hI⟩
    right
    rw [jMenu_take_39_h2, jMenu_take_39_b2, z5, if_neg (nI_ge hi (by decide)), px_ld hi (by decide), hI i hi, if_neg (by omega), need_ok (hm.same hs) hw hd hi, px_bd, px_gd hi (by decide), px_lt, nI_clamp (by omega), nI_sub (hf i hi), z1, nI_add]
    refine ⟨_, rfl, hs.up (by omega), fun g hg => ?_⟩
    rw [upI_at, hI g hg]
    by_cases c : g = i
    · rw [if_pos ⟨rfl, c⟩, c, if_pos (by omega)]
    · rw [if_neg (fun z => c z.2)]
      by_cases c2 : g < i
      · rw [if_pos c2, if_pos (by omega)]
      · rw [if_neg c2, if_neg (by omega)]
  · intro n q ⟨hs, hI⟩
    rw [jMenu_take_39_h2, jMenu_take_39_b2, z5, if_pos (nI_le (Nat.le_refl _) (by decide))]
    exact ⟨_, rfl, hs, fun g hg => by rw [hI g hg, if_pos hg]⟩
theorem c_days {g : Gh} {S : St} (hr : CR g S) (hw : WG g) (h : Int32) : COk g (sDays g h) (jSmoke_days h S) := by
  unfold jSmoke_days sDays
  by_cases q : rg h g.nh
  · rw [if_pos q]
    obtain ⟨h, hh, rfl⟩ := rg_of q (by have := hw.nh; omega)
    have h6 := hw.nh
    rw [hasHouse_t hr.sp hw.nh hh, px_bd, if_neg n10, nI_clamp (by omega)]
    obtain ⟨S1, e1, s1, p1⟩ := fill_39 hr.sp hw.nh hh
    rw [e1, px_bv]
    obtain ⟨T, hT⟩ : ∃ T, T = dayN g.mn 30 (g.now.L h) := ⟨_, rfl⟩
    rw [← hT]
    have key := for_up (F := fun n i (q : St) => jSmoke_days_h27 n (nI i) q) (N := 30) (I := fun i q => Same S q ∧ ∃ P : Nat → Nat, (∀ k, k < 5 → q.1 39 k = nI (P k) ∧ P k < 1000) ∧ T = i + dayN g.mn (30 - i) P) (fun r => r.1 = nI T ∧ Same S r.2) ?_ ?_ (i := 0) (s := S1) (Nat.zero_le _) ⟨s1, g.now.L h, fun k hk => ⟨p1 k hk, by have := hw.sp.1 h hh k hk; omega⟩, by rw [Nat.zero_add]; exact hT⟩ (n := FU) (by decide)
    · obtain ⟨⟨a, S'⟩, e, e1, e2⟩ := key
      have e1 : a = _ := e1
      exact ⟨S', e1 ▸ e, hr.same e2⟩
    · intro n i q hi ⟨hs, P, hP, hd⟩
      have hmn := hr.mn.same hs
      rw [jSmoke_days_h27, jSmoke_days_b27, z30, if_neg (nI_ge hi (by decide)), leanest_ok hmn hw.mn hP, px_bd]
      rw [show 30 - i = (30 - (i + 1)) + 1 by omega] at hd
      cases e : bstN g.mn P g.mn.nd with
      | none =>
        left
        rw [if_pos (show oI (-1) none = -1 from rfl)]
        rw [dayN_0 e] at hd
        exact ⟨_, rfl, congrArg nI hd.symm, hs⟩
      | some d =>
        right
        obtain ⟨hdn, hf⟩ := bstN_lt e
        rw [if_neg (show ¬ oI (-1) (some d) = -1 from nI_nm1 (by have := hw.mn.1; omega))]
        show ∃ s', x_bv (jMenu_take_39 (nI d) q) _ = _ ∧ _
        obtain ⟨S2, e2, s2, p2⟩ := take_39 hmn hw.mn hP hdn hf
        rw [e2, px_bv, z1, nI_add]
        rw [dayN_s e] at hd
        refine ⟨S2, rfl, hs.tr s2, fun k => P k - g.mn.need d k, fun k hk => ⟨p2 k hk, Nat.lt_of_le_of_lt (Nat.sub_le _ _) (hP k hk).2⟩, ?_⟩
        omega
    · intro n q ⟨hs, P, hP, hd⟩
      rw [jSmoke_days_h27, jSmoke_days_b27, z30, if_pos (nI_le (Nat.le_refl _) (by decide))]
      rw [Nat.sub_self] at hd
      exact ⟨_, rfl, congrArg nI hd.symm, hs⟩
  · rw [if_neg q, hasHouse_f hr.sp q, px_bd, if_pos rfl]
    exact ⟨_, rfl, hr⟩
/-! the same for the reference -/
theorem nextInner {N : Mn} {M : St} (hm : MMn 0 N M) (hw : WMn N) {P : Nat → Nat} (hP : ∀ g, g < 5 → M.1 16 g = nI (P g) ∧ P g < 1000) {d : Nat} (hd : d < N.nd) (K : Int32 → Int32 → St → Option (Int32 × St)) (x1 : Int32) (b : Bool) : jMod_nextSupper_h43 K FU x1 (nI d) (bI b) 0 M = K (if (b && N.fits d P) = true then nI d else x1) (nI (d + 1)) M := by
  have h8 := hw.1
  obtain ⟨m', ⟨b', q'⟩, e1, e2, e3⟩ := for_go (F := fun n i (q : Bool × St) => jMod_nextSupper_h43 K n x1 (nI d) (bI q.1) (nI i) q.2) (N := 5) (I := fun i q => q.2 = M ∧ (q.1 = true ↔ (b = true ∧ ∀ g, g < i → N.need d g ≤ P g))) (fun n i ⟨b', q⟩ hi ⟨hq, hI⟩ => by
    have hq : q = M := hq
    subst hq
    have hI : b' = true ↔ (b = true ∧ ∀ g, g < i → N.need d g ≤ P g) := hI
    have e4 := (hm d hd).1 i hi
    rw [Nat.zero_add] at e4
    have b9 := (hw.2 d hd).1 i hi
    show ∃ s', jMod_nextSupper_h43 K (n + 1) x1 (nI d) (bI b') (nI i) q = _ ∧ _
    rw [jMod_nextSupper_h43, jMod_nextSupper_b43, z5, if_neg (nI_ge hi (by decide))]
    by_cases c : b' = true
    · rw [c, bI_t, if_neg n10, px_ld hi (by decide), (hP i hi).1, nI_mul, nI_add, px_ld (by omega) (by omega), e4]
      have hI := hI.mp c
      by_cases c2 : P i < N.need d i
      · rw [if_pos (nI_lt c2 (by omega)), z1, nI_add]
        exact ⟨(false, q), rfl, rfl, ⟨fun z => (by cases z), fun z => absurd (z.2 i (by omega)) (by omega)⟩⟩
      · rw [if_neg (nI_nlt (by omega) (by have := (hP i hi).2; omega)), z1, nI_add]
        refine ⟨(true, q), rfl, rfl, ⟨fun _ => ⟨hI.1, fun g hg => ?_⟩, fun _ => rfl⟩⟩
        rcases Nat.lt_succ_iff_lt_or_eq.mp hg with r | r
        · exact hI.2 g r
        · rw [r]; omega
    · rw [show b' = false by simpa using c, bI_f, if_pos rfl, z1, nI_add]
      exact ⟨(false, q), rfl, rfl, ⟨fun z => (by cases z), fun z => absurd (hI.mpr ⟨z.1, fun g hg => z.2 g (by omega)⟩) c⟩⟩) (i := 0) (s := (b, M)) (Nat.zero_le _) ⟨rfl, ⟨fun z => ⟨z, fun g hg => by omega⟩, fun z => z.1⟩⟩ (n := FU) (by decide)
  have e2 : q' = M := e2
  subst e2
  refine Eq.trans e1 ?_
  show jMod_nextSupper_h43 K (m' + 1) x1 (nI d) (bI b') (nI 5) q' = _
  rw [jMod_nextSupper_h43, jMod_nextSupper_b43, z5, if_pos (nI_le (Nat.le_refl _) (by decide))]
  have e3 : b' = (b && N.fits d P) := by
    have e3 : b' = true ↔ (b = true ∧ ∀ g, g < 5 → N.need d g ≤ P g) := e3
    rw [← Mn.fits_t] at e3
    rw [Bool.eq_iff_iff, e3]
    simp
  rw [← e3]
  cases b'
  · rw [if_pos (show bI false = 0 from rfl), if_neg (by decide), z1, nI_add]
  · rw [if_neg (show ¬ bI true = 0 from n10), if_pos rfl, z1, nI_add]
theorem nextSupper_ok {N : Mn} {M : St} (hn : M.1 4 0 = nI N.nd) (hm : MMn 0 N M) (hw : WMn N) {P : Nat → Nat} (hP : ∀ g, g < 5 → M.1 16 g = nI (P g) ∧ P g < 1000) : jMod_nextSupper M = some (oI (-9) (bstN N P N.nd), M) := by
  have h8 := hw.1
  refine ex_eq.mp (for_up (F := fun n i (q : St) => jMod_nextSupper_h5 n (oI (-9) (bstN N P i)) (nI i) q) (N := N.nd) (I := fun _ q => q = M) _ ?_ ?_ (i := 0) (s := M) (Nat.zero_le _) rfl (n := FU) (Nat.lt_of_le_of_lt (Nat.le_trans (Nat.sub_le _ _) h8) (by decide)))
  · intro n i q hi hq
    subst hq
    right
    rw [jMod_nextSupper_h5, jMod_nextSupper_b5, show x_ld (q.1 4) 2 0 = x_ld (q.1 4) 2 (nI 0) from rfl, px_ld (by omega) (by omega), hn, if_neg (nI_ge hi (by omega))]
    refine ⟨q, ?_, rfl⟩
    simp only [bstN]
    cases e : bstN N P i with
    | none =>
      rw [if_pos (show oI (-9) none = -9 from rfl), show (1 : Int32) = bI true from rfl, nextInner hm hw hP hi, Bool.true_and]
      by_cases c : N.fits i P = true
      · rw [if_pos c, if_pos c]; rfl
      · rw [if_neg c, if_neg c]
    | some b =>
      have hb := (bstN_lt e).1
      have u1 := units_lt hw hi
      have u2 := units_lt hw (d := b) (by omega)
      rw [if_neg (show ¬ oI (-9) (some b) = -9 from nI_nm9 (by omega)), unitsOf_ok hm hw hi, px_bd]
      show x_bd (jMod_unitsOf (nI b) q) _ = _
      rw [unitsOf_ok hm hw (by omega), px_bd]
      by_cases c2 : N.units i < N.units b
      · rw [if_neg (nI_ge c2 (by omega)), show (1 : Int32) = bI true from rfl, nextInner hm hw hP hi, Bool.true_and]
        dsimp only
        rw [if_pos c2]
        by_cases c : N.fits i P = true
        · rw [if_pos c, if_pos c]; rfl
        · rw [if_neg c, if_neg c]
      · rw [if_pos (nI_le (by omega) (by omega)), show (0 : Int32) = bI false from rfl]
        show jMod_nextSupper_h43 _ FU _ (nI i) (bI false) 0 q = _
        rw [nextInner hm hw hP hi, Bool.false_and, if_neg (by decide)]
        dsimp only
        rw [if_neg c2]
        by_cases c : N.fits i P = true
        · rw [if_pos c]
        · rw [if_neg c]
  · intro n q hq
    subst hq
    rw [jMod_nextSupper_h5, jMod_nextSupper_b5, show x_ld (q.1 4) 2 0 = x_ld (q.1 4) 2 (nI 0) from rfl, px_ld (by omega) (by omega), hn, if_pos (nI_le (Nat.le_refl _) (by omega))]
    exact ⟨_, rfl, rfl⟩
theorem m_days {g : Gh} {M : St} (hr : MR g M) (hw : WG g) (h : Int32) : MOk g (sDays g h) (jMod_days h M) := by
  have h8 := hw.mn.1
  have h6 := hw.nh
  unfold jMod_days sDays
  by_cases q : rg h g.nh
  · rw [if_pos q]
    obtain ⟨h, hh, rfl⟩ := rg_of q (by omega)
    rw [isHouse_t hr hw hh, px_bd, if_neg n10, nI_clamp (by omega)]
    obtain ⟨m', S1, e1, s1, p1⟩ := for_go (F := fun n i (q : St) => jMod_days_h12 n (nI h) (nI i) q) (N := 5) (I := fun i q => MSame M q ∧ ∀ k, k < i → q.1 16 k = nI (g.now.L h k)) (fun n i q hi ⟨hs, hI⟩ => by
      have e4 := hr.sp.2.2.2.1 h hh i hi
      rw [Nat.zero_add, ← hs.1 9 (by omega)] at e4
      rw [jMod_days_h12, jMod_days_b12, z5, if_neg (nI_ge hi (by decide)), nI_mul, nI_add, px_ld (by omega) (by omega), e4, px_gd hi (by decide), px_lt, nI_clamp (by omega), z1, nI_add]
      refine ⟨_, rfl, hs.up (by omega), fun k hk => ?_⟩
      rw [upI_at]
      by_cases c : k = i
      · rw [if_pos ⟨rfl, c⟩, c]
      · rw [if_neg (fun z => c z.2), hI k (by omega)]) (i := 0) (s := M) (Nat.zero_le _) ⟨MSame.rf M, fun k hk => by omega⟩ (n := FU) (by decide)
    have e1 : jMod_days_h12 FU (nI h) 0 M = jMod_days_h12 (m' + 1) (nI h) (nI 5) S1 := e1
    have hP1 : ∀ k, k < 5 → S1.1 16 k = nI (g.now.L h k) ∧ g.now.L h k < 1000 := fun k hk => ⟨p1 k hk, by have := hw.sp.1 h hh k hk; omega⟩
    have hn : ∀ {q : St}, MSame M q → q.1 4 0 = nI g.mn.nd := fun hs => (congrFun (hs.1 4 (by omega)) 0).trans hr.nd
    rw [e1, jMod_days_h12, jMod_days_b12, z5, if_pos (nI_le (Nat.le_refl _) (by decide)), nextSupper_ok (hn s1) (hr.mn.same s1) hw.mn hP1, px_bd]
    obtain ⟨T, hT⟩ : ∃ T, T = dayN g.mn 30 (g.now.L h) := ⟨_, rfl⟩
    rw [← hT]
    have key := for_up (F := fun n i (q : Int32 × St) => jMod_days_h46 n (nI i) q.1 q.2) (N := 30) (I := fun i q => MSame M q.2 ∧ ∃ P : Nat → Nat, (∀ k, k < 5 → q.2.1 16 k = nI (P k) ∧ P k < 1000) ∧ q.1 = oI (-9) (bstN g.mn P g.mn.nd) ∧ T = i + dayN g.mn (30 - i) P) (fun r => r.1 = nI T ∧ MSame M r.2) ?_ ?_ (i := 0) (s := (oI (-9) (bstN g.mn (g.now.L h) g.mn.nd), S1)) (Nat.zero_le _) ⟨s1, g.now.L h, hP1, rfl, by rw [Nat.zero_add]; exact hT⟩ (n := FU) (by decide)
    · obtain ⟨⟨a, S'⟩, e, e1, e2⟩ := key
      have e1 : a = _ := e1
      exact ⟨S', e1 ▸ e, hr.same e2⟩
    · intro n i ⟨v, q⟩ hi ⟨hs, P, hP, hv, hd⟩
      have hv : v = oI (-9) (bstN g.mn P g.mn.nd) := hv
      subst hv
      have hs : MSame M q := hs
      have hP : ∀ k, k < 5 → q.1 16 k = nI (P k) ∧ P k < 1000 := hP
      show (∃ r, jMod_days_h46 (n + 1) (nI i) (oI (-9) (bstN g.mn P g.mn.nd)) q = some r ∧ _) ∨ ∃ s', jMod_days_h46 (n + 1) (nI i) (oI (-9) (bstN g.mn P g.mn.nd)) q = _ ∧ _
      rw [jMod_days_h46, jMod_days_b46]
      rw [show 30 - i = (30 - (i + 1)) + 1 by omega] at hd
      cases e : bstN g.mn P g.mn.nd with
      | none =>
        left
        rw [if_pos (show oI (-9) none = -9 from rfl)]
        rw [dayN_0 e] at hd
        exact ⟨_, rfl, congrArg nI hd.symm, hs⟩
      | some d =>
        right
        obtain ⟨hdn, hf⟩ := bstN_lt e
        have hf := Mn.fits_t.mp hf
        rw [if_neg (show ¬ oI (-9) (some d) = -9 from nI_nm9 (by omega)), z30, if_neg (nI_ge hi (by decide))]
        show ∃ s', jMod_days_h61 (jMod_days_h46 n) FU (nI i) (nI d) 0 q = _ ∧ _
        obtain ⟨m2, S2, e2, s2, p2⟩ := for_go (F := fun m j (r : St) => jMod_days_h61 (jMod_days_h46 n) m (nI i) (nI d) (nI j) r) (N := 5) (I := fun j r => MSame M r ∧ ∀ k, k < 5 → r.1 16 k = nI (if k < j then P k - g.mn.need d k else P k)) (fun m j r hj ⟨hs, hI⟩ => by
          have e4 := (hr.mn d hdn).1 j hj
          rw [Nat.zero_add, ← hs.1 5 (by omega)] at e4
          rw [jMod_days_h61, jMod_days_b61, z5, if_neg (nI_ge hj (by decide)), px_ld hj (by decide), hI j hj, if_neg (by omega), nI_mul, nI_add, px_ld (by omega) (by omega), e4, px_gd hj (by decide), px_lt, nI_clamp (by omega), nI_sub (hf j hj), z1, nI_add]
          refine ⟨_, rfl, hs.up (by omega), fun k hk => ?_⟩
          rw [upI_at, hI k hk]
          by_cases c : k = j
          · rw [if_pos ⟨rfl, c⟩, c, if_pos (by omega)]
          · rw [if_neg (fun z => c z.2)]
            by_cases c2 : k < j
            · rw [if_pos c2, if_pos (by omega)]
            · rw [if_neg c2, if_neg (by omega)]) (i := 0) (s := q) (Nat.zero_le _) ⟨hs, fun k hk => by rw [if_neg (by omega)]; exact (hP k hk).1⟩ (n := FU) (by decide)
        have e2 : jMod_days_h61 (jMod_days_h46 n) FU (nI i) (nI d) 0 q = jMod_days_h61 (jMod_days_h46 n) (m2 + 1) (nI i) (nI d) (nI 5) S2 := e2
        have hP2 : ∀ k, k < 5 → S2.1 16 k = nI (P k - g.mn.need d k) ∧ P k - g.mn.need d k < 1000 := fun k hk => ⟨by rw [p2 k hk, if_pos hk], by have := (hP k hk).2; omega⟩
        rw [e2, jMod_days_h61, jMod_days_b61, z5, if_pos (nI_le (Nat.le_refl _) (by decide)), nextSupper_ok (P := fun k => P k - g.mn.need d k) (hn s2) (hr.mn.same s2) hw.mn hP2, px_bd, z1, nI_add]
        rw [dayN_s e] at hd
        refine ⟨(_, S2), rfl, s2, fun k => P k - g.mn.need d k, hP2, rfl, ?_⟩
        omega
    · intro n ⟨v, q⟩ ⟨hs, P, hP, hv, hd⟩
      have hv : v = oI (-9) (bstN g.mn P g.mn.nd) := hv
      subst hv
      show ∃ r, jMod_days_h46 (n + 1) (nI 30) (oI (-9) (bstN g.mn P g.mn.nd)) q = some r ∧ _
      rw [jMod_days_h46, jMod_days_b46, z30, if_pos (nI_le (Nat.le_refl _) (by decide))]
      rw [Nat.sub_self] at hd
      split
      · exact ⟨_, rfl, congrArg nI hd.symm, hs⟩
      · exact ⟨_, rfl, congrArg nI hd.symm, hs⟩
  · rw [if_neg q, isHouse_f hr hw q, px_bd, if_pos rfl]
    exact ⟨_, rfl, hr⟩
