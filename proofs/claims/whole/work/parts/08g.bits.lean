/-! bits -/
def bt (x : Int32) (i : Nat) : Bool := x.toBitVec.getLsbD i
theorem b_ext {x y : Int32} (h : ∀ i, i < 32 → bt x i = bt y i) : x = y := Int32.toBitVec_inj.mp (BitVec.eq_of_getLsbD_eq (fun i hi => h i hi))
theorem b_and (x y : Int32) (i : Nat) : bt (x &&& y) i = (bt x i && bt y i) := by unfold bt; rw [Int32.toBitVec_and, BitVec.getLsbD_and]
theorem b_s_l : ∀ n, n < 32 → ((nI n &&& 31).toBitVec.smod 32).toNat = n := by decide +kernel
theorem b_sshr (n : Nat) (hn : n < 32) (x : Int32) {i : Nat} (hi : i < 32) : bt (x >>> (nI n &&& 31)) i = if n + i < 32 then bt x (n + i) else bt x 31 := by
  unfold bt
  rw [Int32.toBitVec_shiftRight]
  show (x.toBitVec.sshiftRight ((nI n &&& 31).toBitVec.smod 32).toNat).getLsbD i = _
  rw [b_s_l n hn, BitVec.getLsbD_sshiftRight, BitVec.msb_eq_getLsbD_last]
  simp [hi]
theorem b_nI (x i : Nat) (hi : i < 32) : bt (nI x) i = x.testBit i := by
  show (BitVec.ofNat 32 x).getLsbD i = _
  rw [BitVec.getLsbD_ofNat]
  simp [hi]
theorem nI_and (a b : Nat) : nI a &&& nI b = nI (a &&& b) := by
  apply b_ext
  intro i hi
  rw [b_and, b_nI _ _ hi, b_nI _ _ hi, b_nI _ _ hi, Nat.testBit_and]
theorem nI_or (a b : Nat) : nI a ||| nI b = nI (a ||| b) := by
  apply b_ext
  intro i hi
  rw [b_nI _ _ hi, Nat.testBit_or, ← b_nI _ _ hi, ← b_nI _ _ hi]
  unfold bt
  rw [Int32.toBitVec_or, BitVec.getLsbD_or]
theorem nI_xor (a b : Nat) : nI a ^^^ nI b = nI (a ^^^ b) := by
  apply b_ext
  intro i hi
  rw [b_nI _ _ hi, Nat.testBit_xor, ← b_nI _ _ hi, ← b_nI _ _ hi]
  unfold bt
  rw [Int32.toBitVec_xor, BitVec.getLsbD_xor]
theorem b_one : ∀ i, i < 32 → bt 1 i = decide (i = 0) := by decide +kernel
theorem bit_nI {x k : Nat} (hk : k < 32) : (nI x >>> (nI k &&& 31)) &&& 1 = bI (x.testBit k) := by
  apply b_ext
  intro i hi
  rw [b_and, b_sshr k hk _ hi, b_one i hi]
  by_cases h : i = 0
  · subst h
    rw [if_pos (by omega), b_nI _ _ (by omega), Nat.add_zero]
    cases x.testBit k <;> decide
  · have : ∀ b, bt (bI b) i = false := by
      intro b
      cases b
      · exact (by decide +kernel : ∀ i, i < 32 → bt 0 i = false) i hi
      · exact (b_one i hi).trans (by simp [h])
    rw [this]
    simp [h]
theorem shl_nI : ∀ w, w < 31 → (1 : Int32) <<< (nI w &&& 31) = nI (2 ^ w) := by decide +kernel
theorem all_nI (x : Int32) : ∃ n, n < 2 ^ 32 ∧ x = nI n := by
  refine ⟨x.toBitVec.toNat, x.toBitVec.isLt, ?_⟩
  apply Int32.toBitVec_inj.1
  show x.toBitVec = BitVec.ofNat 32 x.toBitVec.toNat
  simp
/-- a set of dishes: what stands of it -/
theorem mask_nI (x : Int32) {n : Nat} (hn : n < 31) : ∃ e, e < 2 ^ n ∧ x &&& ((1 : Int32) <<< (nI n &&& 31) - 1) = nI e := by
  obtain ⟨m, -, rfl⟩ := all_nI x
  have : 0 < 2 ^ n := Nat.two_pow_pos n
  refine ⟨m % 2 ^ n, Nat.mod_lt _ this, ?_⟩
  rw [shl_nI n hn, z1, nI_sub this, nI_and, Nat.and_two_pow_sub_one_eq_mod]
theorem neg_nI {a b : Nat} (h : a ≤ b) : nI a - nI b = -nI (b - a) := by
  have e : nI b = nI a + nI (b - a) := by rw [nI_add, Nat.add_sub_cancel' h]
  rw [e, Int32.sub_eq_add_neg, Int32.neg_add, Int32.sub_eq_add_neg, ← Int32.add_assoc, Int32.add_right_neg, Int32.zero_add]
theorem lt_sub_nI {k a b : Nat} (hk : k < 2 ^ 31) (ha : a < 2 ^ 31) (hb : b < 2 ^ 31) : nI k < nI a - nI b ↔ k < a - b := by
  rcases Nat.lt_or_ge a b with h | h
  · rw [neg_nI (by omega), Int32.lt_iff_toInt_lt, nI_toInt hk, sb_negT (by omega)]
    omega
  · rw [nI_sub h, nI_ltI hk (by omega)]
/-! reads -/
/-- how likely, in parts of 10 to the k: the bits of x below k turned about, the others not -/
def rdN (f x : Nat) : Nat → Nat
  | 0 => 1
  | k + 1 => rdN f x k * (if x.testBit k = true then f else 10 - f)
theorem rdN_le {f x : Nat} (hf : f ≤ 10) : ∀ k, rdN f x k ≤ 10 ^ k
  | 0 => Nat.le_refl _
  | k + 1 => Nat.mul_le_mul (rdN_le hf k) (by split <;> omega)
theorem thou_ok {nh : Nat} {P : Sp} {S : St} (hs : CSp 19 nh P S) (hf : P.fog ≤ 5) {s t : Nat} : jSuppers_thousandths (nI s) (nI t) S = some (nI (rdN P.fog (s ^^^ t) 3), S) := by
  refine ex_eq.mp (for_up (F := fun n i (q : Nat × St) => jSuppers_thousandths_h5 n (nI s) (nI t) (nI q.1) (nI i) q.2) (N := 3) (I := fun i q => q = (rdN P.fog (s ^^^ t) i, S)) _ ?_ ?_ (i := 0) (s := (1, S)) (Nat.zero_le _) rfl (n := FU) (by decide))
  · intro n i q hi hI
    subst hI
    right
    rw [jSuppers_thousandths_h5, jSuppers_thousandths_b5, z3, if_neg (nI_ge hi (by decide)), nI_xor, bit_nI (by omega)]
    refine ⟨(rdN P.fog (s ^^^ t) (i + 1), S), ?_, rfl⟩
    simp only [rdN]
    by_cases c : (s ^^^ t).testBit i = true
    · rw [if_neg (by rw [c]; decide), if_pos c]
      unfold jSuppers_thousandths_b27
      rw [if_neg n10, px_lt, hs.2.2.1, nI_mul, z1, nI_add]
    · rw [if_pos (by rw [show (s ^^^ t).testBit i = false by simpa using c]; rfl), if_neg c]
      unfold jSuppers_thousandths_b27
      rw [if_pos rfl, px_lt, hs.2.2.1, z10, nI_sub (by omega), nI_mul, z1, nI_add]
  · intro n q hI
    subst hI
    rw [jSuppers_thousandths_h5, jSuppers_thousandths_b5, z3, if_pos (nI_le (Nat.le_refl _) (by decide))]
    exact ⟨_, rfl, rfl⟩
theorem readAs_ok {nh : Nat} {P : Sp} {M : St} (hs : MSp 0 nh P M) (hf : P.fog ≤ 5) {s t : Nat} : jMod_readAs (nI s) (nI t) M = some (nI (rdN P.fog (s ^^^ t) 3), M) := by
  have e30 : M.1 9 30 = nI P.fog := hs.2.1
  refine ex_eq.mp (for_up (F := fun n i (q : Nat × St) => jMod_readAs_h5 n (nI s) (nI t) (nI q.1) (nI i) q.2) (N := 3) (I := fun i q => q = (rdN P.fog (s ^^^ t) i, M)) _ ?_ ?_ (i := 0) (s := (1, M)) (Nat.zero_le _) rfl (n := FU) (by decide))
  · intro n i q hi hI
    subst hI
    right
    rw [jMod_readAs_h5, jMod_readAs_b5, z3, if_neg (nI_ge hi (by decide)), nI_xor, bit_nI (by omega)]
    refine ⟨(rdN P.fog (s ^^^ t) (i + 1), M), ?_, rfl⟩
    simp only [rdN]
    by_cases c : (s ^^^ t).testBit i = true
    · rw [if_pos (by rw [c]; rfl), if_pos c, z30, px_ld (by omega) (by omega), e30, px_lt, nI_mul, z1, nI_add]
    · rw [if_neg (by rw [show (s ^^^ t).testBit i = false by simpa using c]; decide), if_neg c, z30, px_ld (by omega) (by omega), e30, px_lt, z10, nI_sub (by omega), nI_mul, z1, nI_add]
  · intro n q hI
    subst hI
    rw [jMod_readAs_h5, jMod_readAs_b5, z3, if_pos (nI_le (Nat.le_refl _) (by decide))]
    exact ⟨_, rfl, rfl⟩
def sReads (g : Gh) (s t : Int32) : Int32 := if rg s 8 then if rg t 8 then nI (rdN g.now.fog (s.toNatClampNeg ^^^ t.toNatClampNeg) 3) else -1 else -1
theorem c_reads {g : Gh} {S : St} (hr : CR g S) (hw : WG g) (s t : Int32) : jSmoke_reads s t S = some (sReads g s t, S) := by
  unfold jSmoke_reads sReads
  by_cases q : rg s 8
  · rw [if_pos q]
    obtain ⟨s, hs, rfl⟩ := rg_of q (by omega)
    rw [isSmoke_t hs, px_bd, if_neg n10]
    by_cases q2 : rg t 8
    · rw [if_pos q2]
      obtain ⟨t, ht, rfl⟩ := rg_of q2 (by omega)
      rw [isSmoke_t ht, px_bd, if_neg n10, thou_ok hr.sp hw.sp.2.2.2, px_bd, nI_clamp (by omega), nI_clamp (by omega)]
    · rw [if_neg q2, isSmoke_f q2, px_bd, if_pos rfl]
  · rw [if_neg q, isSmoke_f q, px_bd, if_pos rfl]
theorem m_reads {g : Gh} {M : St} (hr : MR g M) (hw : WG g) (s t : Int32) : jMod_reads s t M = some (sReads g s t, M) := by
  unfold jMod_reads sReads
  by_cases q : rg s 8
  · rw [if_pos q]
    obtain ⟨s, hs, rfl⟩ := rg_of q (by omega)
    rw [mSmoke_t hs, px_bd, if_neg n10]
    by_cases q2 : rg t 8
    · rw [if_pos q2]
      obtain ⟨t, ht, rfl⟩ := rg_of q2 (by omega)
      rw [mSmoke_t ht, px_bd, if_neg n10, readAs_ok hr.sp hw.sp.2.2.2, px_bd, nI_clamp (by omega), nI_clamp (by omega)]
    · rw [if_neg q2, mSmoke_f q2, px_bd, if_pos rfl]
  · rw [if_neg q, mSmoke_f q, px_bd, if_pos rfl]
/-! the least dish that .. -/
def lst (p : Nat → Bool) : Nat → Option Nat
  | 0 => none
  | n + 1 => match lst p n with
    | some d => some d
    | none => if p n = true then some n else none
theorem lst_mono {p : Nat → Bool} {m d : Nat} (h : lst p m = some d) : ∀ {n : Nat}, m ≤ n → lst p n = some d := by
  intro n hn
  induction n with
  | zero => rw [Nat.le_zero.mp hn] at h; exact h
  | succ n ih =>
    rcases Nat.lt_or_ge m (n + 1) with q | q
    · simp only [lst]
      rw [ih (by omega)]
    · rw [Nat.le_antisymm hn q] at h; exact h
theorem lst_hit {p : Nat → Bool} {i n : Nat} (h : lst p i = none) (hp : p i = true) (hn : i < n) : lst p n = some i := by
  refine lst_mono (m := i + 1) ?_ hn
  simp only [lst]
  rw [h]
  simp [hp]
theorem lst_miss {p : Nat → Bool} {i : Nat} (h : lst p i = none) (hp : p i = false) : lst p (i + 1) = none := by
  simp only [lst]
  rw [h]
  simp [hp]
theorem lst_lt {p : Nat → Bool} : ∀ {n d : Nat}, lst p n = some d → d < n ∧ p d = true
  | 0, d, h => by cases h
  | n + 1, d, h => by
    simp only [lst] at h
    cases e : lst p n with
    | some d' =>
      rw [e] at h
      cases h
      have := lst_lt e
      exact ⟨by omega, this.2⟩
    | none =>
      rw [e] at h
      by_cases q : p n = true
      · simp [q] at h; subst h; exact ⟨by omega, q⟩
      · simp [q] at h
/-- the word that a smoke means -/
def Mn.means (N : Mn) (s : Nat) : Option Nat := (lst (fun d => decide (N.sm d = s)) N.nd).map N.wd
/-- the least dish of a word -/
def Mn.says (N : Mn) (w : Nat) : Option Nat := lst (fun d => decide (N.wd d = w)) N.nd
def oI (z : Int32) : Option Nat → Int32
  | none => z
  | some w => nI w
theorem Mn.means_lt {N : Mn} (hw : WMn N) {s w : Nat} (h : N.means s = some w) : w < 8 := by
  unfold Mn.means at h
  cases e : lst (fun d => decide (N.sm d = s)) N.nd with
  | none => rw [e] at h; cases h
  | some d =>
    rw [e] at h
    cases h
    exact (hw.2 d (lst_lt e).1).2.2
theorem Mn.says_lt {N : Mn} {w d : Nat} (h : N.says w = some d) : d < N.nd ∧ N.wd d = w := ⟨(lst_lt h).1, by simpa using (lst_lt h).2⟩
theorem meaning_ok {N : Mn} {S : St} (hm : CMn 14 N S) (hw : WMn N) {s : Nat} (hs : s < 8) : jMenu_meaning (nI s) S = some (oI (-9) (N.means s), S) := by
  have h8 := hw.1
  refine ex_eq.mp (for_up (F := fun n i (q : St) => jMenu_meaning_h2 n (nI s) (nI i) q) (N := N.nd) (I := fun i q => q = S ∧ lst (fun d => decide (N.sm d = s)) i = none) _ ?_ ?_ (i := 0) (s := S) (Nat.zero_le _) ⟨rfl, rfl⟩ (n := FU) (Nat.lt_of_le_of_lt (Nat.le_trans (Nat.sub_le _ _) h8) (by decide)))
  · intro n i q hi ⟨hq, hI⟩
    subst hq
    obtain ⟨-, e1, e2, e3⟩ := hm.2 i hi
    have e2 : q.1 17 i = nI (N.sm i) := e2
    have e3 : q.1 18 i = nI (N.wd i) := e3
    have b := (hw.2 i hi).2.1
    rw [jMenu_meaning_h2, jMenu_meaning_b2, hm.1, if_neg (nI_ge hi (by omega)), px_ld (by omega) (by omega), e2]
    by_cases c : N.sm i = s
    · left
      rw [c, if_pos rfl, px_ld (by omega) (by omega), e3]
      refine ⟨_, rfl, ?_⟩
      unfold Mn.means
      rw [lst_hit hI (by simpa using c) hi]
      rfl
    · right
      rw [if_neg (fun z => c ((nI_eq (by omega) (by omega)).mp z)), z1, nI_add]
      exact ⟨_, rfl, rfl, lst_miss hI (by simpa using c)⟩
  · intro n q ⟨hq, hI⟩
    subst hq
    rw [jMenu_meaning_h2, jMenu_meaning_b2, hm.1, if_pos (nI_le (Nat.le_refl _) (by omega))]
    refine ⟨_, rfl, ?_⟩
    unfold Mn.means
    rw [hI]
    rfl
theorem meant_ok {N : Mn} {M : St} (hd : M.1 4 0 = nI N.nd) (hm : MMn 0 N M) (hw : WMn N) {s : Nat} (hs : s < 8) : jMod_meant (nI s) M = some (oI (-9) (N.means s), M) := by
  have h8 := hw.1
  refine ex_eq.mp (for_up (F := fun n i (q : St) => jMod_meant_h2 n (nI s) (nI i) q) (N := N.nd) (I := fun i q => q = M ∧ lst (fun d => decide (N.sm d = s)) i = none) _ ?_ ?_ (i := 0) (s := M) (Nat.zero_le _) ⟨rfl, rfl⟩ (n := FU) (Nat.lt_of_le_of_lt (Nat.le_trans (Nat.sub_le _ _) h8) (by decide)))
  · intro n i q hi ⟨hq, hI⟩
    subst hq
    obtain ⟨-, e2, e3⟩ := hm i hi
    rw [Nat.zero_add] at e2 e3
    have b := (hw.2 i hi).2.1
    rw [jMod_meant_h2, jMod_meant_b2, z0, px_ld (by omega) (by omega), hd, if_neg (nI_ge hi (by omega)), px_ld (by omega) (by omega), e2]
    by_cases c : N.sm i = s
    · left
      rw [c, if_pos rfl, px_ld (by omega) (by omega), e3]
      refine ⟨_, rfl, ?_⟩
      unfold Mn.means
      rw [lst_hit hI (by simpa using c) hi]
      rfl
    · right
      rw [if_neg (fun z => c ((nI_eq (by omega) (by omega)).mp z)), z1, nI_add]
      exact ⟨_, rfl, rfl, lst_miss hI (by simpa using c)⟩
  · intro n q ⟨hq, hI⟩
    subst hq
    rw [jMod_meant_h2, jMod_meant_b2, z0, px_ld (by omega) (by omega), hd, if_pos (nI_le (Nat.le_refl _) (by omega))]
    refine ⟨_, rfl, ?_⟩
    unfold Mn.means
    rw [hI]
    rfl
theorem leastSaying_ok {N : Mn} {S : St} (hm : CMn 14 N S) (hw : WMn N) {s : Nat} (hs : s < 8) : jMenu_leastSaying (nI s) S = some (oI (-1) (N.says s), S) := by
  have h8 := hw.1
  refine ex_eq.mp (for_up (F := fun n i (q : St) => jMenu_leastSaying_h2 n (nI s) (nI i) q) (N := N.nd) (I := fun i q => q = S ∧ lst (fun d => decide (N.wd d = s)) i = none) _ ?_ ?_ (i := 0) (s := S) (Nat.zero_le _) ⟨rfl, rfl⟩ (n := FU) (Nat.lt_of_le_of_lt (Nat.le_trans (Nat.sub_le _ _) h8) (by decide)))
  · intro n i q hi ⟨hq, hI⟩
    subst hq
    have e3 : q.1 18 i = nI (N.wd i) := (hm.2 i hi).2.2.2
    have b := (hw.2 i hi).2.2
    rw [jMenu_leastSaying_h2, jMenu_leastSaying_b2, hm.1, if_neg (nI_ge hi (by omega)), px_ld (by omega) (by omega), e3]
    by_cases c : N.wd i = s
    · left
      rw [c, if_pos rfl]
      refine ⟨_, rfl, ?_⟩
      unfold Mn.says
      rw [lst_hit hI (by simpa using c) hi]
      rfl
    · right
      rw [if_neg (fun z => c ((nI_eq (by omega) (by omega)).mp z)), z1, nI_add]
      exact ⟨_, rfl, rfl, lst_miss hI (by simpa using c)⟩
  · intro n q ⟨hq, hI⟩
    subst hq
    rw [jMenu_leastSaying_h2, jMenu_leastSaying_b2, hm.1, if_pos (nI_le (Nat.le_refl _) (by omega))]
    refine ⟨_, rfl, ?_⟩
    unfold Mn.says
    rw [hI]
    rfl
theorem leastOf_ok {N : Mn} {M : St} (hd : M.1 4 0 = nI N.nd) (hm : MMn 0 N M) (hw : WMn N) {s : Nat} (hs : s < 8) : jMod_leastOf (nI s) M = some (oI (-9) (N.says s), M) := by
  have h8 := hw.1
  refine ex_eq.mp (for_up (F := fun n i (q : St) => jMod_leastOf_h2 n (nI s) (nI i) q) (N := N.nd) (I := fun i q => q = M ∧ lst (fun d => decide (N.wd d = s)) i = none) _ ?_ ?_ (i := 0) (s := M) (Nat.zero_le _) ⟨rfl, rfl⟩ (n := FU) (Nat.lt_of_le_of_lt (Nat.le_trans (Nat.sub_le _ _) h8) (by decide)))
  · intro n i q hi ⟨hq, hI⟩
    subst hq
    obtain ⟨-, e2, e3⟩ := hm i hi
    rw [Nat.zero_add] at e2 e3
    have b := (hw.2 i hi).2.2
    rw [jMod_leastOf_h2, jMod_leastOf_b2, z0, px_ld (by omega) (by omega), hd, if_neg (nI_ge hi (by omega)), px_ld (by omega) (by omega), e3]
    by_cases c : N.wd i = s
    · left
      rw [c, if_pos rfl]
      refine ⟨_, rfl, ?_⟩
      unfold Mn.says
      rw [lst_hit hI (by simpa using c) hi]
      rfl
    · right
      rw [if_neg (fun z => c ((nI_eq (by omega) (by omega)).mp z)), z1, nI_add]
      exact ⟨_, rfl, rfl, lst_miss hI (by simpa using c)⟩
  · intro n q ⟨hq, hI⟩
    subst hq
    rw [jMod_leastOf_h2, jMod_leastOf_b2, z0, px_ld (by omega) (by omega), hd, if_pos (nI_le (Nat.le_refl _) (by omega))]
    refine ⟨_, rfl, ?_⟩
    unfold Mn.says
    rw [hI]
    rfl
def sMeans (g : Gh) (s : Int32) : Int32 := if rg s 8 then oI (-9) (g.mn.means s.toNatClampNeg) else -1
theorem c_means {g : Gh} {S : St} (hr : CR g S) (hw : WG g) (s : Int32) : jSmoke_means s S = some (sMeans g s, S) := by
  unfold jSmoke_means sMeans
  by_cases q : rg s 8
  · rw [if_pos q]
    obtain ⟨s, hs, rfl⟩ := rg_of q (by omega)
    rw [isSmoke_t hs, px_bd, if_neg n10, meaning_ok hr.mn hw.mn hs, px_bd, nI_clamp (by omega)]
  · rw [if_neg q, isSmoke_f q, px_bd, if_pos rfl]
theorem m_means {g : Gh} {M : St} (hr : MR g M) (hw : WG g) (s : Int32) : jMod_means s M = some (sMeans g s, M) := by
  unfold jMod_means sMeans
  by_cases q : rg s 8
  · rw [if_pos q]
    obtain ⟨s, hs, rfl⟩ := rg_of q (by omega)
    rw [mSmoke_t hs, px_bd, if_neg n10, meant_ok hr.nd hr.mn hw.mn hs, px_bd, nI_clamp (by omega)]
  · rw [if_neg q, mSmoke_f q, px_bd, if_pos rfl]
