/-! bits counted, sets of dishes -/
theorem for_go {σ α : Type} {F : Nat → Nat → σ → α} {N : Nat} (I : Nat → σ → Prop)
    (step : ∀ n i s, i < N → I i s → ∃ s', F (n + 1) i s = F n (i + 1) s' ∧ I (i + 1) s') {i : Nat} {s : σ} (hi : i ≤ N) (h0 : I i s) {n : Nat} (hn : N - i < n) : ∃ m s', F n i s = F (m + 1) N s' ∧ I N s' := by
  induction n generalizing i s with
  | zero => omega
  | succ n ih =>
    by_cases h : i = N
    · subst h; exact ⟨n, s, rfl, h0⟩
    · obtain ⟨s', h1, h2⟩ := step n i s (by omega) h0
      rw [h1]; exact ih (by omega) h2 (by omega)
def popN (x : Nat) : Nat → Nat
  | 0 => 0
  | k + 1 => popN x k + (if x.testBit k = true then 1 else 0)
abbrev pop (x : Nat) : Nat := popN x 8
theorem popN_le {x : Nat} : ∀ k, popN x k ≤ k
  | 0 => Nat.le_refl _
  | k + 1 => by
    have := popN_le (x := x) k
    simp only [popN]
    split <;> omega
def bcOf (x : Int32) : Int32 :=
  let v1 := x - ((x_ush x 1) &&& 1431655765)
  let v2 := (v1 &&& 858993459) + ((x_ush v1 2) &&& 858993459)
  let v3 := (v2 + (x_ush v2 4)) &&& 252645135
  let v4 := v3 + (x_ush v3 8)
  let v5 := v4 + (x_ush v4 16)
  v5 &&& 63
theorem bc_all : ∀ x, x < 256 → bcOf (nI x) = nI (pop x) := by decide +kernel
theorem bitCount_ok {x : Nat} (hx : x < 256) {S : St} : jInt_bitCount (nI x) S = some (nI (pop x), S) := by
  rw [← bc_all x hx]
  rfl
theorem bitsIn_ok {x : Nat} {S : St} : jMod_bitsIn (nI x) S = some (nI (pop x), S) := by
  refine ex_eq.mp (for_up (F := fun n i (q : St) => jMod_bitsIn_h4 n (nI x) (nI (popN x i)) (nI i) q) (N := 8) (I := fun _ q => q = S) _ ?_ ?_ (i := 0) (s := S) (Nat.zero_le _) rfl (n := FU) (by decide))
  · intro n i q hi hq
    subst hq
    right
    rw [jMod_bitsIn_h4, jMod_bitsIn_b4, z8, if_neg (nI_ge hi (by decide)), bit_nI (by omega), px_lt]
    refine ⟨q, ?_, rfl⟩
    simp only [popN]
    by_cases c : x.testBit i = true
    · rw [c, if_pos rfl, bI_t, z1, nI_add, nI_add]
    · rw [show x.testBit i = false by simpa using c, if_neg (by decide), bI_f, z0, z1, nI_add, nI_add]
  · intro n q hq
    subst hq
    rw [jMod_bitsIn_h4, jMod_bitsIn_b4, z8, if_pos (nI_le (Nat.le_refl _) (by decide))]
    exact ⟨_, rfl, rfl⟩
theorem holds_ok {x i : Nat} (hi : i < 32) {S : St} : jMenu_holds (nI x) (nI i) S = some (bI (x.testBit i), S) := by
  unfold jMenu_holds
  rw [bit_nI hi]
  cases x.testBit i
  · rw [if_pos (show bI false = 0 from rfl)]; rfl
  · rw [if_neg (by decide)]; rfl
def orN (p : Nat → Bool) (f : Nat → Nat) : Nat → Nat
  | 0 => 0
  | k + 1 => if p k = true then orN p f k ||| f k else orN p f k
theorem orN_lt {p : Nat → Bool} {f : Nat → Nat} {b : Nat} : ∀ {k : Nat}, (∀ i, i < k → f i < 2 ^ b) → orN p f k < 2 ^ b
  | 0, _ => Nat.two_pow_pos b
  | k + 1, h => by
    have := orN_lt (p := p) (k := k) (fun i hi => h i (by omega))
    simp only [orN]
    split
    · exact Nat.or_lt_two_pow this (h k (by omega))
    · exact this
/-- one of them that .. -/
theorem lst_none {p : Nat → Bool} : ∀ {n : Nat}, lst p n = none ↔ ∀ j, j < n → p j = false
  | 0 => ⟨fun _ j hj => by omega, fun _ => rfl⟩
  | n + 1 => by
    simp only [lst]
    constructor
    · intro h j hj
      cases e : lst p n with
      | some d => rw [e] at h; cases h
      | none =>
        rw [e] at h
        rcases Nat.lt_succ_iff_lt_or_eq.mp hj with q | q
        · exact lst_none.mp e j q
        · subst q
          by_cases c : p j = true
          · simp [c] at h
          · simpa using c
    · intro h
      rw [lst_none.mpr (fun j hj => h j (by omega))]
      simp [h n (by omega)]
theorem orN_bit {p : Nat → Bool} {f : Nat → Nat} {w : Nat} : ∀ {n : Nat}, (orN p (fun d => 2 ^ f d) n).testBit w = (lst (fun d => p d && decide (f d = w)) n).isSome
  | 0 => by simp [orN, lst]
  | n + 1 => by
    have ih := orN_bit (p := p) (f := f) (w := w) (n := n)
    simp only [orN, lst]
    cases e : lst (fun d => p d && decide (f d = w)) n with
    | some d =>
      rw [e] at ih
      by_cases c : p n = true
      · rw [if_pos c, Nat.testBit_or, ih]; rfl
      · rw [if_neg c, ih]
    | none =>
      rw [e] at ih
      by_cases c : p n = true
      · rw [if_pos c, Nat.testBit_or, ih]
        by_cases c2 : f n = w
        · subst c2
          simp [c]
        · simp [c, c2, Nat.testBit_two_pow]
      · rw [if_neg c, ih]
        simp [c]
def sFeast (g : Gh) (e k : Int32) : Int32 :=
  if e &&& ((1 : Int32) <<< (nI g.mn.nd &&& 31) - 1) = 0 then -1 else
  if rg k 3 then
    if k = 0 then nI (orN (e &&& ((1 : Int32) <<< (nI g.mn.nd &&& 31) - 1)).toNatClampNeg.testBit g.mn.sm g.mn.nd)
    else match g.mn.means (orN (e &&& ((1 : Int32) <<< (nI g.mn.nd &&& 31) - 1)).toNatClampNeg.testBit g.mn.sm g.mn.nd) with
      | none => -9
      | some v => if k = 1 then nI v else if (lst (fun d => (e &&& ((1 : Int32) <<< (nI g.mn.nd &&& 31) - 1)).toNatClampNeg.testBit d && decide (g.mn.wd d = v)) g.mn.nd).isSome = true then 0 else 1
  else -1
theorem smokeOfAll_ok {N : Mn} {S : St} (hm : CMn 14 N S) (hw : WMn N) {e : Nat} : jMenu_smokeOfAll (nI e) S = some (nI (orN e.testBit N.sm N.nd), S) := by
  have h8 := hw.1
  refine ex_eq.mp (for_up (F := fun n i (q : St) => jMenu_smokeOfAll_h4 n (nI e) (nI (orN e.testBit N.sm i)) (nI i) q) (N := N.nd) (I := fun _ q => q = S) _ ?_ ?_ (i := 0) (s := S) (Nat.zero_le _) rfl (n := FU) (Nat.lt_of_le_of_lt (Nat.le_trans (Nat.sub_le _ _) h8) (by decide)))
  · intro n i q hi hq
    subst hq
    right
    have e2 : q.1 17 i = nI (N.sm i) := (hm.2 i hi).2.2.1
    rw [jMenu_smokeOfAll_h4, jMenu_smokeOfAll_b4, hm.1, if_neg (nI_ge hi (by omega)), holds_ok (by omega), px_bd]
    refine ⟨q, ?_, rfl⟩
    simp only [orN]
    by_cases c : e.testBit i = true
    · rw [c, bI_t, if_neg n10, if_pos rfl, px_ld (by omega) (by omega), e2, px_lt, nI_or, z1, nI_add]
    · rw [show e.testBit i = false by simpa using c, bI_f, if_pos rfl, if_neg (by decide), z1, nI_add]
  · intro n q hq
    subst hq
    rw [jMenu_smokeOfAll_h4, jMenu_smokeOfAll_b4, hm.1, if_pos (nI_le (Nat.le_refl _) (by omega))]
    exact ⟨_, rfl, rfl⟩
theorem anySays_ok {N : Mn} {S : St} (hm : CMn 14 N S) (hw : WMn N) {e v : Nat} (hv : v < 8) : jMenu_anySays (nI e) (nI v) S = some (bI (lst (fun d => e.testBit d && decide (N.wd d = v)) N.nd).isSome, S) := by
  have h8 := hw.1
  refine ex_eq.mp (for_up (F := fun n i (q : St) => jMenu_anySays_h2 n (nI e) (nI v) (nI i) q) (N := N.nd) (I := fun i q => q = S ∧ lst (fun d => e.testBit d && decide (N.wd d = v)) i = none) _ ?_ ?_ (i := 0) (s := S) (Nat.zero_le _) ⟨rfl, rfl⟩ (n := FU) (Nat.lt_of_le_of_lt (Nat.le_trans (Nat.sub_le _ _) h8) (by decide)))
  · intro n i q hi ⟨hq, hI⟩
    subst hq
    have e3 : q.1 18 i = nI (N.wd i) := (hm.2 i hi).2.2.2
    have b := (hw.2 i hi).2.2
    rw [jMenu_anySays_h2, jMenu_anySays_b2, hm.1, if_neg (nI_ge hi (by omega)), holds_ok (by omega), px_bd]
    by_cases c : e.testBit i = true
    · rw [c, bI_t, if_neg n10, px_ld (by omega) (by omega), e3]
      by_cases c2 : N.wd i = v
      · left
        rw [if_pos (by rw [c2]), px_n1]
        refine ⟨_, rfl, ?_⟩
        rw [lst_hit hI (by simp [c, c2]) hi]
        rfl
      · right
        rw [if_neg (fun z => c2 ((nI_eq (by omega) (by omega)).mp z)), z1, nI_add]
        exact ⟨_, rfl, rfl, lst_miss hI (by simp [c2])⟩
    · right
      rw [show e.testBit i = false by simpa using c, bI_f, if_pos rfl, z1, nI_add]
      exact ⟨_, rfl, rfl, lst_miss hI (by simp [c])⟩
  · intro n q ⟨hq, hI⟩
    subst hq
    rw [jMenu_anySays_h2, jMenu_anySays_b2, hm.1, if_pos (nI_le (Nat.le_refl _) (by omega)), px_n0]
    refine ⟨_, rfl, ?_⟩
    rw [hI]
    rfl
theorem rg3_of {k : Int32} (h : rg k 3) : k = 0 ∨ k = 1 ∨ k = 2 := by
  obtain ⟨j, hj, rfl⟩ := rg_of h (by omega)
  rcases (by omega : j = 0 ∨ j = 1 ∨ j = 2) with rfl | rfl | rfl
  · exact Or.inl rfl
  · exact Or.inr (Or.inl rfl)
  · exact Or.inr (Or.inr rfl)
theorem c_feast {g : Gh} {S : St} (hr : CR g S) (hw : WG g) (e k : Int32) : jSmoke_feast e k S = some (sFeast g e k, S) := by
  have h8 := hw.mn.1
  obtain ⟨E, hE, eE⟩ := mask_nI e (n := g.mn.nd) (by omega)
  have hE' : E < 256 := Nat.lt_of_lt_of_le hE (Nat.pow_le_pow_right (by decide) h8)
  unfold jSmoke_feast sFeast
  rw [hr.mn.1, eE, px_lt, nI_clamp (by omega)]
  by_cases c0 : nI E = 0
  · rw [if_pos c0, if_pos c0]
  rw [if_neg c0, if_neg c0]
  have hs : orN E.testBit g.mn.sm g.mn.nd < 8 := orN_lt (b := 3) (fun i hi => (hw.mn.2 i hi).2.1)
  by_cases q : rg k 3
  · rw [if_pos q, if_neg q.1, if_pos (by rcases rg3_of q with rfl | rfl | rfl <;> decide), smokeOfAll_ok hr.mn hw.mn, px_bd]
    by_cases k0 : k = 0
    · rw [if_pos k0, if_pos k0]
    rw [if_neg k0, if_neg k0, meaning_ok hr.mn hw.mn hs, px_bd]
    cases e : g.mn.means (orN E.testBit g.mn.sm g.mn.nd) with
    | none =>
      by_cases k1 : k = 1
      · rw [if_pos k1]; rfl
      · rw [if_neg k1, if_pos (show oI (-9) none = -9 from rfl)]; rfl
    | some v =>
      have hv := Mn.means_lt hw.mn e
      show (if k = 1 then some (nI v, S) else if nI v = -9 then _ else _) = some ((if k = 1 then nI v else _), S)
      by_cases k1 : k = 1
      · rw [if_pos k1, if_pos k1]
      rw [if_neg k1, if_neg k1, if_neg (nI_nm9 (by omega))]
      show x_bd (jMenu_anySays (nI E) (nI v) S) _ = _
      rw [anySays_ok hr.mn hw.mn hv, px_bd]
      by_cases c : (lst (fun d => E.testBit d && decide (g.mn.wd d = v)) g.mn.nd).isSome = true
      · rw [c, bI_t, if_neg n10, if_pos rfl]
      · rw [show (lst (fun d => E.testBit d && decide (g.mn.wd d = v)) g.mn.nd).isSome = false by simpa using c, bI_f, if_pos rfl, if_neg (by decide)]
  · rw [if_neg q]
    rcases rg_no q with z | z
    · rw [if_pos z]
    · rw [if_neg (show ¬ k < 0 from fun y => absurd (Int32.lt_of_lt_of_le y (Int32.le_trans (show (0 : Int32) ≤ nI 3 by decide) z)) (Int32.lt_irrefl)), if_neg (show ¬ k ≤ 2 from fun y => absurd (Int32.le_trans z y) (by decide))]
theorem m_feast {g : Gh} {M : St} (hr : MR g M) (hw : WG g) (e k : Int32) : jMod_feast e k M = some (sFeast g e k, M) := by
  have h8 := hw.mn.1
  obtain ⟨E, hE, eE⟩ := mask_nI e (n := g.mn.nd) (by omega)
  have hE' : E < 256 := Nat.lt_of_lt_of_le hE (Nat.pow_le_pow_right (by decide) h8)
  unfold jMod_feast sFeast
  rw [show x_ld (M.1 4) 2 0 = x_ld (M.1 4) 2 (nI 0) from rfl, px_ld (by omega) (by omega), hr.nd, px_lt, eE, nI_clamp (by omega)]
  by_cases c0 : nI E = 0
  · rw [if_pos c0, if_pos c0]
  rw [if_neg c0, if_neg c0]
  have hs : orN E.testBit g.mn.sm g.mn.nd < 8 := orN_lt (b := 3) (fun i hi => (hw.mn.2 i hi).2.1)
  by_cases q : rg k 3
  · rw [if_pos q, show jMod_in k 0 2 M = some (1, M) by rcases rg3_of q with rfl | rfl | rfl <;> rfl, px_bd, if_neg n10]
    refine ex_eq.mp (for_up (F := fun n i (q : St) => jMod_feast_h37 n k (nI E) (nI (orN E.testBit g.mn.sm i)) (nI (orN E.testBit (fun d => 2 ^ g.mn.wd d) i)) (nI i) q) (N := g.mn.nd) (I := fun _ q => q = M) _ ?_ ?_ (i := 0) (s := M) (Nat.zero_le _) rfl (n := FU) (Nat.lt_of_le_of_lt (Nat.le_trans (Nat.sub_le _ _) h8) (by decide)))
    · intro n i q hi hq
      subst hq
      right
      obtain ⟨-, e2, e3⟩ := hr.mn i hi
      rw [Nat.zero_add] at e2 e3
      have b := (hw.mn.2 i hi).2.2
      rw [jMod_feast_h37, jMod_feast_b37, show x_ld (q.1 4) 2 0 = x_ld (q.1 4) 2 (nI 0) from rfl, px_ld (by omega) (by omega), hr.nd, if_neg (nI_ge hi (by omega)), bit_nI (by omega)]
      refine ⟨q, ?_, rfl⟩
      simp only [orN]
      by_cases c : E.testBit i = true
      · rw [c, bI_t, if_pos rfl, px_ld (by omega) (by omega), e2]
        unfold jMod_feast_b71
        rw [px_lt, bit_nI (by omega), c, bI_t, if_pos rfl, px_ld (by omega) (by omega), e3, px_lt, shl_nI _ (by omega), nI_or, nI_or, z1, nI_add, if_pos rfl, if_pos rfl]
      · have c' : E.testBit i = false := by simpa using c
        rw [c', bI_f, if_neg (by decide)]
        unfold jMod_feast_b71
        rw [px_lt, bit_nI (by omega), c', bI_f, if_neg (by decide), px_lt, Int32.or_zero, Int32.or_zero, z1, nI_add, if_neg (by decide), if_neg (by decide)]
    · intro n q' hq
      subst hq
      rw [jMod_feast_h37, jMod_feast_b37, show x_ld (q'.1 4) 2 0 = x_ld (q'.1 4) 2 (nI 0) from rfl, px_ld (by omega) (by omega), hr.nd, if_pos (nI_le (Nat.le_refl _) (by omega)), meant_ok hr.nd hr.mn hw.mn hs, px_bd]
      refine ex_eq.mpr ?_
      by_cases k0 : k = 0
      · rw [if_pos k0, if_pos k0]
      rw [if_neg k0, if_neg k0]
      cases e : g.mn.means (orN E.testBit g.mn.sm g.mn.nd) with
      | none =>
        by_cases k1 : k = 1
        · rw [if_pos k1]; rfl
        · rw [if_neg k1, if_pos (show oI (-9) none = -9 from rfl)]; rfl
      | some v =>
        have hv := Mn.means_lt hw.mn e
        show (if k = 1 then some (nI v, q') else if nI v = -9 then _ else _) = some ((if k = 1 then nI v else _), q')
        by_cases k1 : k = 1
        · rw [if_pos k1, if_pos k1]
        rw [if_neg k1, if_neg k1, if_neg (nI_nm9 (by omega))]
        show some (1 - ((nI (orN E.testBit (fun d => 2 ^ g.mn.wd d) g.mn.nd) >>> (nI v &&& 31)) &&& 1), q') = _
        rw [bit_nI (by omega), orN_bit]
        by_cases c : (lst (fun d => E.testBit d && decide (g.mn.wd d = v)) g.mn.nd).isSome = true
        · rw [c, bI_t, if_pos rfl]; rfl
        · rw [show (lst (fun d => E.testBit d && decide (g.mn.wd d = v)) g.mn.nd).isSome = false by simpa using c, bI_f, if_neg (by decide)]; rfl
  · rw [if_neg q, show jMod_in k 0 2 M = some (0, M) from in0_f (n := 2) q (by omega), px_bd, if_pos rfl]
