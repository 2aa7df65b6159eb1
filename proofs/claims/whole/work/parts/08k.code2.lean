/-! code, second part -/
def mxN (ok : Nat → Bool) : Nat → Nat
  | 0 => 0
  | e + 1 => if ok e = true ∧ mxN ok e < pop e then pop e else mxN ok e
def lfN (p : Nat → Bool) (n : Nat) : Nat → Option Nat
  | 0 => none
  | c + 1 => if p (n - (c + 1)) = true then some (n - (c + 1)) else lfN p n c
def mdN (ok : Nat → Bool) (n : Nat) : Nat → Nat
  | 0 => 0
  | c + 1 => if ok (n - (c + 1)) = true ∧ mdN ok n c < pop (n - (c + 1)) then pop (n - (c + 1)) else mdN ok n c
theorem lf_eq {p : Nat → Bool} {n : Nat} : lfN p n n = lst p n := by
  have key : ∀ c, c ≤ n → lst p n = match lst p (n - c) with
      | some d => some d
      | none => lfN p n c := by
    intro c
    induction c with
    | zero =>
      intro _
      rw [Nat.sub_zero]
      cases lst p n <;> rfl
    | succ c ih =>
      intro hc
      rw [ih (by omega), show n - c = n - (c + 1) + 1 by omega]
      simp only [lst, lfN]
      cases lst p (n - (c + 1)) with
      | some d => rfl
      | none =>
        by_cases q : p (n - (c + 1)) = true
        · simp [q]
        · simp [q]
  rw [key n (Nat.le_refl _), Nat.sub_self]
  rfl
theorem md_eq {p : Nat → Bool} {n : Nat} : mdN p n n = mxN p n := by
  have key : ∀ c, c ≤ n → mxN p n = max (mxN p (n - c)) (mdN p n c) := by
    intro c
    induction c with
    | zero =>
      intro _
      rw [Nat.sub_zero]
      simp [mdN]
    | succ c ih =>
      intro hc
      rw [ih (by omega), show n - c = n - (c + 1) + 1 by omega]
      simp only [mxN, mdN]
      by_cases q : p (n - (c + 1)) = true
      · simp only [q, true_and]
        split <;> split <;> omega
      · simp only [q, false_and, if_false]
        rfl
  rw [key n (Nat.le_refl _), Nat.sub_self]
  simp [mxN]
theorem mxN_le {p : Nat → Bool} : ∀ {n : Nat}, mxN p n ≤ 8
  | 0 => Nat.zero_le _
  | n + 1 => by
    have := mxN_le (p := p) (n := n)
    have b : pop n ≤ 8 := popN_le 8
    simp only [mxN]
    split <;> omega
theorem mdN_le {p : Nat → Bool} {k : Nat} : ∀ {n : Nat}, mdN p k n ≤ 8
  | 0 => Nat.zero_le _
  | n + 1 => by
    have := mdN_le (p := p) (k := k) (n := n)
    have b : pop (k - (n + 1)) ≤ 8 := popN_le 8
    simp only [mdN]
    split <;> omega
theorem mxN_t {p : Nat → Bool} {n : Nat} (h : p n = true ∧ mxN p n < pop n) : mxN p (n + 1) = pop n := if_pos h
theorem mxN_f {p : Nat → Bool} {n : Nat} (h : ¬ (p n = true ∧ mxN p n < pop n)) : mxN p (n + 1) = mxN p n := if_neg h
theorem mdN_t {p : Nat → Bool} {k n : Nat} (h : p (k - (n + 1)) = true ∧ mdN p k n < pop (k - (n + 1))) : mdN p k (n + 1) = pop (k - (n + 1)) := if_pos h
theorem mdN_f {p : Nat → Bool} {k n : Nat} (h : ¬ (p (k - (n + 1)) = true ∧ mdN p k n < pop (k - (n + 1)))) : mdN p k (n + 1) = mdN p k n := if_neg h
theorem lfN_t {p : Nat → Bool} {k n : Nat} (h : p (k - (n + 1)) = true) : lfN p k (n + 1) = some (k - (n + 1)) := if_pos h
theorem lfN_f {p : Nat → Bool} {k n : Nat} (h : ¬ p (k - (n + 1)) = true) : lfN p k (n + 1) = lfN p k n := if_neg h
def sCode (g : Gh) (x m k : Int32) : Int32 :=
  if rg x 256 then if rg1 m 3 then if rg k 2 then
    if k = 0 then oI (-9) (lst (fun e => decide (sdN g.mn x.toNatClampNeg m.toNatClampNeg e g.mn.nd = some x.toNatClampNeg)) (2 ^ g.mn.nd))
    else nI (mxN (fun e => (sdN g.mn x.toNatClampNeg m.toNatClampNeg e g.mn.nd).isSome) (2 ^ g.mn.nd))
  else -1 else -1 else -1
theorem sd_pop {N : Mn} (hw : WMn N) {x m e : Nat} (he : e < 2 ^ N.nd) (hx : x < 256) {w : Nat} (h : sdN N x m e N.nd = some w) : w < 256 ∧ pop w = pop e ∧ pop e ≤ pop x ∧ (w = x ↔ pop e = pop x) := by
  obtain ⟨h1, h2, h3⟩ := sdN_ok hw (Nat.le_refl _) h
  have h4 : pop w = pop e := h3.trans (popN_hi he hw.1).symm
  refine ⟨h1, h4, h4 ▸ (sub_le h2 (k := 8)).1, fun z => by rw [← h4, z], fun z => sub_eq h1 hx h2 (h4.trans z)⟩
theorem c_code {g : Gh} {S : St} (hr : CR g S) (hw : WG g) (x m k : Int32) : jSmoke_code x m k S = some (sCode g x m k, S) := by
  have h8 := hw.mn.1
  have hN : 2 ^ g.mn.nd ≤ 256 := (show 2 ^ g.mn.nd ≤ 2 ^ 8 from Nat.pow_le_pow_right (by decide) h8)
  unfold jSmoke_code sCode
  by_cases q : rg x 256
  · rw [if_pos q, if_neg q.1, if_neg (show ¬ 256 ≤ x from fun z => Int32.lt_irrefl (Int32.lt_of_lt_of_le q.2 z))]
    obtain ⟨x, hx, rfl⟩ := rg_of q (by omega)
    by_cases q2 : rg1 m 3
    · rw [if_pos q2, if_neg q2.1, if_neg (show ¬ 3 < m from q2.2)]
      obtain ⟨m, hm1, hm2, rfl⟩ := rg1_of q2 (by omega)
      by_cases q3 : rg k 2
      · rw [if_pos q3, if_neg q3.1, if_pos (show k ≤ 1 by
            obtain ⟨j, hj, rfl⟩ := rg_of q3 (by omega)
            exact (nI_le (by omega) (by omega) : nI j ≤ nI 1)), bitCount_ok hx, px_bd, nI_clamp (by omega), nI_clamp (by omega)]
        by_cases k0 : k = 0
        · subst k0
          rw [if_pos rfl]
          refine ex_eq.mp (for_up (F := fun n i (q : Int32 × St) => jSmoke_code_h44 n (nI x) (nI m) 0 (nI (pop x)) q.1 (nI i) q.2) (N := 2 ^ g.mn.nd) (I := fun i q => q.2 = S ∧ lst (fun e => decide (sdN g.mn x m e g.mn.nd = some x)) i = none) _ ?_ ?_ (i := 0) (s := (0, S)) (Nat.zero_le _) ⟨rfl, rfl⟩ (n := FU) (Nat.lt_of_le_of_lt (Nat.le_trans (Nat.sub_le _ _) hN) (by decide)))
          · intro n i ⟨v, q⟩ hi ⟨hq, hI⟩
            have hq : q = S := hq
            subst hq
            have b1 : pop i ≤ 8 := popN_le 8
            have b2 : pop x ≤ 8 := popN_le 8
            show (∃ z, jSmoke_code_h44 (n + 1) (nI x) (nI m) 0 (nI (pop x)) v (nI i) q = some z ∧ _) ∨ ∃ s', jSmoke_code_h44 (n + 1) (nI x) (nI m) 0 (nI (pop x)) v (nI i) q = _ ∧ _
            rw [jSmoke_code_h44, jSmoke_code_b44, hr.mn.1, shl_nI _ (by omega), if_neg (nI_ge hi (by omega)), bitCount_ok (by omega), px_bd]
            by_cases c : pop x < pop i
            · right
              rw [if_pos (nI_lt c (by omega)), z1, nI_add]
              refine ⟨(v, q), rfl, rfl, lst_miss hI (decide_eq_false fun z => ?_)⟩
              have := (sd_pop hw.mn hi hx z).2.2.1
              omega
            · rw [if_neg (nI_nlt (by omega) (by omega)), tellsApart_ok hr.mn hw.mn hx (by omega), px_bd]
              cases e : sdN g.mn x m i g.mn.nd with
              | none =>
                right
                rw [if_pos (show bI (Option.isSome (none : Option Nat)) = 0 from rfl), z1, nI_add]
                exact ⟨(v, q), rfl, rfl, lst_miss hI (by simp [e])⟩
              | some w =>
                obtain ⟨-, -, -, hiff⟩ := sd_pop hw.mn hi hx e
                rw [if_neg (show ¬ bI (Option.isSome (some w)) = 0 from n10), if_pos rfl]
                by_cases c2 : pop i = pop x
                · left
                  rw [if_pos (by rw [c2])]
                  refine ⟨_, rfl, ?_⟩
                  rw [lst_hit hI (by simp [e, hiff.mpr c2]) hi]
                  rfl
                · right
                  rw [if_neg (fun z => c2 ((nI_eq (by omega) (by omega)).mp z))]
                  unfold jSmoke_code_b103
                  rw [px_lt, z1, nI_add]
                  refine ⟨(_, q), rfl, rfl, lst_miss hI ?_⟩
                  simp only [e, Option.some.injEq]
                  exact decide_eq_false (fun z => c2 (hiff.mp z))
          · intro n ⟨v, q⟩ ⟨hq, hI⟩
            have hq : q = S := hq
            subst hq
            show ∃ z, jSmoke_code_h44 (n + 1) (nI x) (nI m) 0 (nI (pop x)) v (nI (2 ^ g.mn.nd)) q = some z ∧ _
            rw [jSmoke_code_h44, jSmoke_code_b44, hr.mn.1, shl_nI _ (by omega), if_pos (nI_le (Nat.le_refl _) (by omega)), if_pos rfl]
            refine ⟨_, rfl, ?_⟩
            rw [hI]
            rfl
        · rw [if_neg k0]
          refine ex_eq.mp (for_up (F := fun n i (q : St) => jSmoke_code_h44 n (nI x) (nI m) k (nI (pop x)) (nI (mxN (fun e => (sdN g.mn x m e g.mn.nd).isSome) i)) (nI i) q) (N := 2 ^ g.mn.nd) (I := fun _ q => q = S) _ ?_ ?_ (i := 0) (s := S) (Nat.zero_le _) rfl (n := FU) (Nat.lt_of_le_of_lt (Nat.le_trans (Nat.sub_le _ _) hN) (by decide)))
          · intro n i q hi hq
            subst hq
            have b1 : pop i ≤ 8 := popN_le 8
            have b2 : pop x ≤ 8 := popN_le 8
            have b3 := mxN_le (p := fun e => (sdN g.mn x m e g.mn.nd).isSome) (n := i)
            right
            rw [jSmoke_code_h44, jSmoke_code_b44, hr.mn.1, shl_nI _ (by omega), if_neg (nI_ge hi (by omega)), bitCount_ok (by omega), px_bd]
            refine ⟨q, ?_, rfl⟩
            by_cases c : pop x < pop i
            · rw [if_pos (nI_lt c (by omega)), z1, nI_add, mxN_f]
              intro z
              obtain ⟨w, e⟩ := Option.isSome_iff_exists.mp z.1
              have := (sd_pop hw.mn hi hx e).2.2.1
              omega
            · rw [if_neg (nI_nlt (by omega) (by omega)), tellsApart_ok hr.mn hw.mn hx (by omega), px_bd]
              by_cases e : (sdN g.mn x m i g.mn.nd).isSome = true
              · rw [if_neg (by rw [e]; exact n10), if_neg k0]
                unfold jSmoke_code_b103
                rw [px_lt, z1, nI_add]
                by_cases c2 : mxN (fun e => (sdN g.mn x m e g.mn.nd).isSome) i < pop i
                · rw [if_pos (nI_lt c2 (by omega)), mxN_t ⟨e, c2⟩]
                · rw [if_neg (nI_nlt (by omega) (by omega)), mxN_f (fun z => c2 z.2)]
              · rw [if_pos (by rw [show (sdN g.mn x m i g.mn.nd).isSome = false by simpa using e]; rfl), z1, nI_add, mxN_f (fun z => e z.1)]
          · intro n q hq
            subst hq
            rw [jSmoke_code_h44, jSmoke_code_b44, hr.mn.1, shl_nI _ (by omega), if_pos (nI_le (Nat.le_refl _) (by omega)), if_neg k0]
            exact ⟨_, rfl, rfl⟩
      · rw [if_neg q3]
        rcases rg_no q3 with z | z
        · rw [if_pos z]
        · rw [if_neg (show ¬ k < 0 from fun y => absurd (Int32.lt_of_lt_of_le y (Int32.le_trans (show (0 : Int32) ≤ nI 2 by decide) z)) (Int32.lt_irrefl)), if_neg (show ¬ k ≤ 1 from fun y => absurd (Int32.le_trans z y) (by decide))]
    · rw [if_neg q2]
      rcases rg1_no q2 with z | z
      · rw [if_pos z]
      · rw [if_neg (fun y => absurd (Int32.lt_trans z y) (by decide)), if_pos (show 3 < m from z)]
  · rw [if_neg q]
    rcases rg_no q with z | z
    · rw [if_pos z]
    · rw [if_neg (show ¬ x < 0 from fun y => absurd (Int32.lt_of_lt_of_le y (Int32.le_trans (show (0 : Int32) ≤ nI 256 by decide) z)) (Int32.lt_irrefl)), if_pos (show 256 ≤ x from z)]
theorem m_code {g : Gh} {M : St} (hr : MR g M) (hw : WG g) (x m k : Int32) : jMod_code x m k M = some (sCode g x m k, M) := by
  have h8 := hw.mn.1
  have hN : 2 ^ g.mn.nd ≤ 256 := (show 2 ^ g.mn.nd ≤ 2 ^ 8 from Nat.pow_le_pow_right (by decide) h8)
  have hN0 : 0 < 2 ^ g.mn.nd := Nat.two_pow_pos _
  unfold jMod_code sCode
  by_cases q : rg x 256
  · rw [if_pos q]
    obtain ⟨x, hx, rfl⟩ := rg_of q (by omega)
    rw [show jMod_in (nI x) 0 255 M = some (1, M) from in0_t (n := 255) hx (by omega), px_bd, if_neg n10]
    by_cases q2 : rg1 m 3
    · rw [if_pos q2]
      obtain ⟨m, hm1, hm2, rfl⟩ := rg1_of q2 (by omega)
      rw [show jMod_in (nI m) 1 3 M = some (1, M) from in1_t (m := 3) hm1 hm2 (by omega), px_bd, if_neg n10]
      by_cases q3 : rg k 2
      · rw [if_pos q3, show jMod_in k 0 1 M = some (1, M) by
            obtain ⟨j, hj, rfl⟩ := rg_of q3 (by omega)
            exact in0_t (n := 1) hj (by omega), px_bd, if_neg n10, show x_ld (M.1 4) 2 0 = x_ld (M.1 4) 2 (nI 0) from rfl, px_ld (by omega) (by omega), hr.nd, shl_nI _ (by omega), px_lt, nI_clamp (by omega), nI_clamp (by omega)]
        show jMod_code_h50 FU (nI x) (nI m) k (-9) 0 (nI (2 ^ g.mn.nd) - 1) M = _
        rw [show nI (2 ^ g.mn.nd) - 1 = nI (2 ^ g.mn.nd - 0) + (-1) from Int32.sub_eq_add_neg _ _]
        refine ex_eq.mp (for_up (F := fun n i (q : St) => jMod_code_h50 n (nI x) (nI m) k (oI (-9) (lfN (fun e => decide (sdN g.mn x m e g.mn.nd = some x)) (2 ^ g.mn.nd) i)) (nI (mdN (fun e => (sdN g.mn x m e g.mn.nd).isSome) (2 ^ g.mn.nd) i)) (nI (2 ^ g.mn.nd - i) + (-1)) q) (N := 2 ^ g.mn.nd) (I := fun _ q => q = M) _ ?_ ?_ (i := 0) (s := M) (Nat.zero_le _) rfl (n := FU) (Nat.lt_of_le_of_lt (Nat.le_trans (Nat.sub_le _ _) hN) (by decide)))
        · intro n i q hi hq
          subst hq
          right
          have b1 : pop (2 ^ g.mn.nd - (i + 1)) ≤ 8 := popN_le 8
          have b3 := mdN_le (p := fun e => (sdN g.mn x m e g.mn.nd).isSome) (k := 2 ^ g.mn.nd) (n := i)
          rw [jMod_code_h50, jMod_code_b50, dn_nI hi, if_neg (nI_pos (by omega)), saidBy_ok hr.nd hr.mn hw.mn (by omega), px_bd]
          refine ⟨q, ?_, rfl⟩
          by_cases e : (sdN g.mn x m (2 ^ g.mn.nd - (i + 1)) g.mn.nd).isSome = true
          · obtain ⟨w, ew⟩ := Option.isSome_iff_exists.mp e
            obtain ⟨w1, w2, w3, -⟩ := sd_pop hw.mn (show 2 ^ g.mn.nd - (i + 1) < 2 ^ g.mn.nd by omega) hx ew
            rw [ew]
            by_cases c : w = x
            · rw [if_pos (show oI (-9) (some w) = nI x by rw [c]; rfl), lfN_t (by rw [ew, c]; simp)]
              unfold jMod_code_b78
              rw [if_neg (show ¬ oI (-9) (some w) = -9 from nI_nm9 (by omega)), bitsIn_ok, px_bd]
              by_cases c2 : mdN (fun e => (sdN g.mn x m e g.mn.nd).isSome) (2 ^ g.mn.nd) i < pop (2 ^ g.mn.nd - (i + 1))
              · rw [if_neg (nI_ge c2 (by omega)), bitsIn_ok, px_bd, mdN_t ⟨e, c2⟩]
                rfl
              · rw [if_pos (nI_le (by omega) (by omega)), mdN_f (fun z => c2 z.2)]
                rfl
            · rw [if_neg (show ¬ oI (-9) (some w) = nI x from fun z => c ((nI_eq (by omega) (by omega)).mp z)), lfN_f (by rw [ew]; simp [c])]
              unfold jMod_code_b78
              rw [if_neg (show ¬ oI (-9) (some w) = -9 from nI_nm9 (by omega)), bitsIn_ok, px_bd]
              by_cases c2 : mdN (fun e => (sdN g.mn x m e g.mn.nd).isSome) (2 ^ g.mn.nd) i < pop (2 ^ g.mn.nd - (i + 1))
              · rw [if_neg (nI_ge c2 (by omega)), bitsIn_ok, px_bd, mdN_t ⟨e, c2⟩]
              · rw [if_pos (nI_le (by omega) (by omega)), mdN_f (fun z => c2 z.2)]
          · have e' : sdN g.mn x m (2 ^ g.mn.nd - (i + 1)) g.mn.nd = none := by simpa using e
            rw [e', if_neg (show ¬ oI (-9) none = nI x from fun z => nI_nm9 (by omega) z.symm), mdN_f (fun z => e z.1), lfN_f (by rw [e']; simp)]
            unfold jMod_code_b78
            rw [if_pos (show oI (-9) none = -9 from rfl)]
        · intro n q hq
          subst hq
          rw [jMod_code_h50, jMod_code_b50, Nat.sub_self, if_pos (by decide)]
          refine ex_eq.mpr ?_
          rw [lf_eq, md_eq]
          by_cases k0 : k = 0
          · rw [if_pos k0, if_pos k0]
          · rw [if_neg k0, if_neg k0]
      · rw [if_neg q3, show jMod_in k 0 1 M = some (0, M) from in0_f (n := 1) q3 (by omega), px_bd, if_pos rfl]
    · rw [if_neg q2, show jMod_in m 1 3 M = some (0, M) from in1_f (m := 3) q2, px_bd, if_pos rfl]
  · rw [if_neg q, show jMod_in x 0 255 M = some (0, M) from in0_f (n := 255) q (by omega), px_bd, if_pos rfl]
