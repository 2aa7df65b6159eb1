/-! chain -/
theorem sumN_add {f k : Nat → Nat} : ∀ {n : Nat}, sumN (fun i => f i + k i) n = sumN f n + sumN k n
  | 0 => rfl
  | n + 1 => by
    show sumN (fun i => f i + k i) n + (f n + k n) = sumN f n + f n + (sumN k n + k n)
    rw [sumN_add]
    omega
theorem sumN_zero : ∀ {n : Nat}, sumN (fun _ => 0) n = 0
  | 0 => rfl
  | n + 1 => by
    show sumN (fun _ => 0) n + 0 = 0
    rw [sumN_zero]
theorem sumN_swap {f : Nat → Nat → Nat} {n : Nat} : ∀ {m : Nat}, sumN (fun t => sumN (fun w => f t w) n) m = sumN (fun w => sumN (fun t => f t w) m) n
  | 0 => sumN_zero.symm
  | m + 1 => by
    show sumN (fun t => sumN (fun w => f t w) n) m + sumN (fun w => f m w) n = sumN (fun w => sumN (fun t => f t w) m + f m w) n
    rw [sumN_swap, sumN_add]
theorem sumN_mono {f k : Nat → Nat} : ∀ {n : Nat}, (∀ i, i < n → f i ≤ k i) → sumN f n ≤ sumN k n
  | 0, _ => Nat.le_refl _
  | n + 1, h => by
    have h1 := sumN_mono (fun i hi => h i (Nat.lt_succ_of_lt hi)) (n := n)
    have h2 := h n (Nat.lt_succ_self n)
    show sumN f n + f n ≤ sumN k n + k n
    omega
theorem sumN_mul {c : Nat} {f : Nat → Nat} : ∀ {n : Nat}, sumN (fun i => c * f i) n = c * sumN f n
  | 0 => rfl
  | n + 1 => by
    show sumN (fun i => c * f i) n + c * f n = c * (sumN f n + f n)
    rw [sumN_mul, Nat.mul_add]
theorem sumN_one {f : Nat → Nat} : ∀ {n i : Nat}, i < n → f i ≤ sumN f n
  | n + 1, i, h => by
    show f i ≤ sumN f n + f n
    rcases Nat.lt_succ_iff_lt_or_eq.mp h with r | r
    · have := sumN_one (f := f) r
      omega
    · rw [r]
      omega
/-- what the word w adds to the word j, by the smoke t -/
def trm (g : Gh) (m : Nat → Nat) (t w j : Nat) : Nat := if g.mn.means t = some j then (match g.mn.says w with
  | none => 0
  | some d => m w * rdN g.now.fog (g.mn.sm d ^^^ t) 3) else 0
def nxN (g : Gh) (m : Nat → Nat) (j : Nat) : Nat := sumN (fun t => sumN (fun w => trm g m t w j) 8) 8
def chIt (g : Gh) (w : Nat) : Nat → Nat → Nat
  | 0 => fun j => if j = w then 1 else 0
  | i + 1 => nxN g (chIt g w i)
theorem trm_le {g : Gh} (hw : WG g) {m : Nat → Nat} {t w j : Nat} : trm g m t w j ≤ 1000 * m w := by
  unfold trm
  split
  · cases g.mn.says w with
    | none => exact Nat.zero_le _
    | some d =>
      have h := rdN_le (f := g.now.fog) (x := g.mn.sm d ^^^ t) (by have := hw.sp.2.2.2; omega) 3
      show m w * rdN g.now.fog (g.mn.sm d ^^^ t) 3 ≤ 1000 * m w
      rw [Nat.mul_comm]
      exact Nat.mul_le_mul_right _ h
  · exact Nat.zero_le _
theorem nxN_le {g : Gh} (hw : WG g) {m : Nat → Nat} {j : Nat} : nxN g m j ≤ 8000 * sumN m 8 := by
  unfold nxN
  have h1 : ∀ t, sumN (fun w => trm g m t w j) 8 ≤ 1000 * sumN m 8 := fun t => by
    rw [← sumN_mul]
    exact sumN_mono (fun w _ => trm_le hw)
  have h2 := sumN_le (f := fun t => sumN (fun w => trm g m t w j) 8) (b := 1000 * sumN m 8) (n := 8) (fun t _ => h1 t)
  omega
theorem chIt_sum {g : Gh} (hw : WG g) {w : Nat} : ∀ i, sumN (chIt g w i) 8 ≤ 64000 ^ i
  | 0 => by
    simp only [chIt, sumN, Nat.pow_zero]
    repeat' split
    all_goals omega
  | i + 1 => by
    have h1 := chIt_sum hw (w := w) i
    have h2 := sumN_le (f := nxN g (chIt g w i)) (b := 8000 * sumN (chIt g w i) 8) (n := 8) (fun j _ => nxN_le hw)
    show sumN (nxN g (chIt g w i)) 8 ≤ _
    rw [Nat.pow_succ]
    omega
theorem chIt_lt {g : Gh} (hw : WG g) {w i j : Nat} (hi : i ≤ 4) : chIt g w i j < 2 ^ 63 := by
  match i, hi with
  | 0, _ =>
    simp only [chIt]
    split <;> omega
  | 1, _ =>
    have := nxN_le hw (m := chIt g w 0) (j := j)
    have h := chIt_sum hw (w := w) 0
    show nxN g (chIt g w 0) j < _
    omega
  | 2, _ =>
    have := nxN_le hw (m := chIt g w 1) (j := j)
    have h := chIt_sum hw (w := w) 1
    show nxN g (chIt g w 1) j < _
    omega
  | 3, _ =>
    have := nxN_le hw (m := chIt g w 2) (j := j)
    have h := chIt_sum hw (w := w) 2
    show nxN g (chIt g w 2) j < _
    omega
  | 4, _ =>
    have := nxN_le hw (m := chIt g w 3) (j := j)
    have h := chIt_sum hw (w := w) 3
    show nxN g (chIt g w 3) j < _
    omega
/-- only words that some dish says are meant -/
theorem chIt_says {g : Gh} {w : Nat} (h0 : ∃ d, g.mn.says w = some d) : ∀ {i j : Nat}, g.mn.says j = none → chIt g w i j = 0
  | 0, j, h => by
    simp only [chIt]
    rw [if_neg]
    intro z
    rw [z] at h
    obtain ⟨d, e⟩ := h0
    rw [e] at h
    cases h
  | i + 1, j, h => by
    show nxN g (chIt g w i) j = 0
    have hm : ∀ t, ¬ g.mn.means t = some j := fun t z => by
      unfold Mn.means at z
      cases e : lst (fun d => decide (g.mn.sm d = t)) g.mn.nd with
      | none => rw [e] at z; cases z
      | some d =>
        rw [e] at z
        have z : some (g.mn.wd d) = some j := z
        have := lst_none.mp h d (lst_lt e).1
        simp only [Option.some.injEq] at z
        simp [z] at this
    unfold nxN
    rw [show (fun t => sumN (fun w' => trm g (chIt g w i) t w' j) 8) = fun _ => 0 from funext fun t => by
      rw [show (fun w' => trm g (chIt g w i) t w' j) = fun _ => 0 from funext fun w' => if_neg (hm t)]
      exact sumN_zero]
    exact sumN_zero
def sChain (g : Gh) (w n k : Int32) : Int64 := if rg w 8 then if rg1 n 4 then if rg k 2 then
    match g.mn.says w.toNatClampNeg with
    | none => if k = 0 then 0 else 1
    | some _ => if k = 0 then lN (chIt g w.toNatClampNeg n.toNatClampNeg w.toNatClampNeg / Nat.gcd (chIt g w.toNatClampNeg n.toNatClampNeg w.toNatClampNeg) (1000 ^ n.toNatClampNeg))
      else lN (1000 ^ n.toNatClampNeg / Nat.gcd (chIt g w.toNatClampNeg n.toNatClampNeg w.toNatClampNeg) (1000 ^ n.toNatClampNeg))
  else -1 else -1 else -1
/-- longs: only the rows X change -/
def rowsL (S S' : St) (X : List Nat) : Prop := S'.1 = S.1 ∧ ∀ r, r ∉ X → S'.2 r = S.2 r
theorem rowsL.rf {S : St} {X : List Nat} : rowsL S S X := ⟨rfl, fun _ _ => rfl⟩
theorem rowsL.up {S S' : St} {X : List Nat} (h : rowsL S S' X) {k j : Nat} {v : Int64} (hk : k ∈ X) : rowsL S (upL S' k j v) X := ⟨h.1, fun r hr => (upL_o r (fun z => hr (by rw [z]; exact hk))).trans (h.2 r hr)⟩
theorem rowsL.same {S S' : St} {X : List Nat} (h : rowsL S S' X) (h0 : 0 ∉ X) : Same S S' := ⟨fun r _ => by rw [h.1], h.2 0 h0⟩
theorem rowsL.msame {S S' : St} {X : List Nat} (h : rowsL S S' X) (h0 : 0 ∉ X) : MSame S S' := ⟨fun r _ => by rw [h.1], h.2 0 h0⟩
theorem upL_at {S : St} {k j a b : Nat} {v : Int64} : (upL S k j v).2 a b = if a = k ∧ b = j then v else S.2 a b := by
  by_cases h : a = k
  · subst h
    by_cases h2 : b = j
    · subst h2; simp [upL_hit]
    · simp [upL, va_up, vp_updL, h2]
  · simp [upL, va_up, h]
theorem isWord_t {S : St} {j : Nat} (h : j < 8) : jSmoke_isWord (nI j) S = some (1, S) := by
  unfold jSmoke_isWord
  rw [if_neg (nI_pos (by omega)), if_neg (show ¬ 8 ≤ nI j from (nI_ge h (by omega) : ¬ nI 8 ≤ nI j)), px_n1]
theorem isWord_f {S : St} {x : Int32} (h : ¬ rg x 8) : jSmoke_isWord x S = some (0, S) := by
  unfold jSmoke_isWord
  rcases rg_no h with z | z
  · rw [if_pos z, px_n0]
  · by_cases c : x < 0
    · rw [if_pos c, px_n0]
    · rw [if_neg c, if_pos (show 8 ≤ x from z), px_n0]
theorem begin_ok {S : St} {w : Nat} (hw : w < 8) : ∃ S', jChain_begin (nI w) S = some S' ∧ rowsL S S' [37] ∧ ∀ j, j < 8 → S'.2 37 j = lN (if j = w then 1 else 0) := by
  refine for_up (F := fun n i (q : St) => jChain_begin_h2 n (nI w) (nI i) q) (N := 8) (I := fun i q => rowsL S q [37] ∧ ∀ j, j < i → q.2 37 j = lN (if j = w then 1 else 0)) _ ?_ ?_ (i := 0) (s := S) (Nat.zero_le _) ⟨rowsL.rf, fun j hj => by omega⟩ (n := FU) (by decide)
  · intro n i q hi ⟨hs, hI⟩
    right
    have key : ∀ v : Int64, v = lN (if i = w then 1 else 0) → ∃ s', jChain_begin_b23 (jChain_begin_h2 n) (nI w) (nI i) v (nI i) q = jChain_begin_h2 n (nI w) (nI (i + 1)) s' ∧ rowsL S s' [37] ∧ ∀ j, j < i + 1 → s'.2 37 j = lN (if j = w then 1 else 0) := fun v hv => by
      unfold jChain_begin_b23
      rw [px_gd hi (by decide), px_lt, nI_clamp (by omega), z1, nI_add]
      refine ⟨_, rfl, hs.up (by simp), fun j hj => ?_⟩
      rw [upL_at]
      by_cases c : j = i
      · rw [if_pos ⟨rfl, c⟩, c, hv]
      · rw [if_neg (fun z => c z.2), hI j (by omega)]
    rw [jChain_begin_h2, jChain_begin_b2, z8, if_neg (nI_ge hi (by decide))]
    by_cases c : i = w
    · rw [if_pos (show nI i = nI w by rw [c])]
      exact key 1 (by rw [if_pos c]; rfl)
    · rw [if_neg (fun z => c ((nI_eq (by omega) (by omega)).mp z))]
      exact key 0 (by rw [if_neg c]; rfl)
  · intro n q ⟨hs, hI⟩
    rw [jChain_begin_h2, jChain_begin_b2, z8, if_pos (nI_le (Nat.le_refl _) (by decide))]
    exact ⟨_, rfl, hs, hI⟩
theorem read_ok {g : Gh} {S : St} (hr : CR g S) (hw : WG g) {m : Nat → Nat} (hm : ∀ j, j < 8 → S.2 37 j = lN (m j)) : ∃ S', jChain_read S = some S' ∧ Same S S' ∧ ∀ j, j < 8 → S'.2 37 j = lN (nxN g m j) := by
  have h8 := hw.mn.1
  unfold jChain_read
  obtain ⟨n1, S1, e1, s1, p1⟩ := for_go (F := fun n i (q : St) => jChain_read_h2 n (nI i) q) (N := 8) (I := fun i q => rowsL S q [38] ∧ ∀ j, j < i → q.2 38 j = lN 0) (fun n i q hi ⟨hs, hI⟩ => by
    rw [jChain_read_h2, jChain_read_b2, z8, if_neg (nI_ge hi (by decide)), px_gd hi (by decide), px_lt, nI_clamp (by omega), z1, nI_add]
    refine ⟨_, rfl, hs.up (by simp), fun j hj => ?_⟩
    rw [upL_at]
    by_cases c : j = i
    · rw [if_pos ⟨rfl, c⟩]; rfl
    · rw [if_neg (fun z => c z.2), hI j (by omega)]) (i := 0) (s := S) (Nat.zero_le _) ⟨rowsL.rf, fun j hj => by omega⟩ (n := FU) (by decide)
  have e1 : jChain_read_h2 FU 0 S = jChain_read_h2 (n1 + 1) (nI 8) S1 := e1
  rw [e1, jChain_read_h2, jChain_read_b2, z8, if_pos (nI_le (Nat.le_refl _) (by decide))]
  obtain ⟨n2, S2, e2, s2, p2⟩ := for_go (F := fun n i (q : St) => jChain_read_h23 n (nI i) q) (N := 8) (I := fun i q => rowsL S q [38] ∧ ∀ j, j < 8 → q.2 38 j = lN (sumN (fun t => sumN (fun w => trm g m t w j) 8) i)) (fun n i q hi ⟨hs, hI⟩ => by
    have hr' := hr.same (hs.same (by simp))
    rw [jChain_read_h23, jChain_read_b23, z8, if_neg (nI_ge hi (by decide)), meaning_ok hr'.mn hw.mn hi, px_bd]
    cases e : g.mn.means i with
    | none =>
      rw [show jSmoke_isWord (oI (-9) none) q = some (0, q) from isWord_f (by decide), px_bd, if_pos rfl, z1, nI_add]
      refine ⟨q, rfl, hs, fun j hj => ?_⟩
      rw [hI j hj]
      show _ = lN (sumN (fun t => sumN (fun w => trm g m t w j) 8) i + sumN (fun w => trm g m i w j) 8)
      rw [show (fun w => trm g m i w j) = fun _ => 0 from funext fun w => if_neg (by rw [e]; exact fun z => by cases z), sumN_zero, Nat.add_zero]
    | some v =>
      have hv := Mn.means_lt hw.mn e
      rw [show jSmoke_isWord (oI (-9) (some v)) q = some (1, q) from isWord_t hv, px_bd, if_neg n10]
      obtain ⟨n3, S3, e3, s3, p3⟩ := for_go (F := fun n' j (r : St) => jChain_read_h50 (jChain_read_h23 n) n' (nI i) (nI v) (nI j) r) (N := 8) (I := fun w r => rowsL S r [38] ∧ ∀ j, j < 8 → r.2 38 j = lN (sumN (fun t => sumN (fun w => trm g m t w j) 8) i + sumN (fun w => trm g m i w j) w)) (fun n' w r hj ⟨hs, hI⟩ => by
        have hr' := hr.same (hs.same (by simp))
        rw [jChain_read_h50, jChain_read_b50, z8, if_neg (nI_ge hj (by decide)), leastSaying_ok hr'.mn hw.mn hj, px_bd]
        cases e4 : g.mn.says w with
        | none =>
          rw [if_pos (show oI (-1) none = -1 from rfl), z1, nI_add]
          refine ⟨r, rfl, hs, fun j hj => ?_⟩
          rw [hI j hj]
          show _ = lN (_ + (sumN (fun w => trm g m i w j) w + trm g m i w j))
          rw [show trm g m i w j = 0 by unfold trm; rw [e4]; split <;> rfl, Nat.add_zero]
        | some d =>
          have hd := Mn.says_lt e4
          have e5 : r.1 17 d = nI (g.mn.sm d) := (hr'.mn.2 d hd.1).2.2.1
          have e6 : r.2 37 w = lN (m w) := by rw [hs.2 37 (by simp)]; exact hm w hj
          have hb := rdN_le (f := g.now.fog) (x := g.mn.sm d ^^^ i) (by have := hw.sp.2.2.2; omega) 3
          rw [if_neg (show ¬ oI (-1) (some d) = -1 from nI_nm1 (by omega)), px_ld (by omega) (by omega), px_ld (by omega) (by omega)]
          show ∃ s', x_ld (r.1 17) 8 (nI d) _ = _ ∧ _
          rw [px_ld (by omega) (by omega), e5, thou_ok hr'.sp hw.sp.2.2.2, px_bd, px_gd (by omega) (by omega), px_lt, nI_clamp (by omega), nI_l (by omega), hI v hv, e6, lN_mul, lN_add, z1, nI_add]
          refine ⟨_, rfl, hs.up (by simp), fun j hj => ?_⟩
          show _ = lN (_ + (sumN (fun w => trm g m i w j) w + trm g m i w j))
          rw [upL_at]
          by_cases c : j = v
          · rw [if_pos ⟨rfl, c⟩, c, show trm g m i w v = m w * rdN g.now.fog (g.mn.sm d ^^^ i) 3 by unfold trm; rw [e4, if_pos e], Nat.add_assoc]
          · rw [if_neg (fun z => c z.2), hI j hj, show trm g m i w j = 0 from if_neg (fun z => c (by rw [e] at z; cases z; rfl)), Nat.add_zero]) (i := 0) (s := q) (Nat.zero_le _) ⟨hs, fun j hj => hI j hj⟩ (n := FU) (by decide)
      have e3 : jChain_read_h50 (jChain_read_h23 n) FU (nI i) (oI (-9) (some v)) 0 q = jChain_read_h50 (jChain_read_h23 n) (n3 + 1) (nI i) (nI v) (nI 8) S3 := e3
      rw [e3, jChain_read_h50, jChain_read_b50, z8, if_pos (nI_le (Nat.le_refl _) (by decide)), z1, nI_add]
      exact ⟨S3, rfl, s3, p3⟩) (i := 0) (s := S1) (Nat.zero_le _) ⟨s1, p1⟩ (n := FU) (by decide)
  have e2 : jChain_read_h23 FU 0 S1 = jChain_read_h23 (n2 + 1) (nI 8) S2 := e2
  show ∃ S', jChain_read_h23 FU 0 S1 = some S' ∧ _
  rw [e2, jChain_read_h23, jChain_read_b23, z8, if_pos (nI_le (Nat.le_refl _) (by decide))]
  refine for_up (F := fun n i (q : St) => jChain_read_h116 n (nI i) q) (N := 8) (I := fun i q => rowsL S q [38, 37] ∧ (∀ j, j < 8 → q.2 38 j = lN (nxN g m j)) ∧ ∀ j, j < i → q.2 37 j = lN (nxN g m j)) _ ?_ ?_ (i := 0) (s := S2) (Nat.zero_le _) ⟨⟨s2.1, fun r hr => s2.2 r (fun z => hr (by simp at z; simp [z]))⟩, p2, fun j hj => by omega⟩ (n := FU) (by decide)
  · intro n i q hi ⟨hs, h38, hI⟩
    right
    rw [jChain_read_h116, jChain_read_b116, z8, if_neg (nI_ge hi (by decide)), px_ld hi (by decide), h38 i hi, px_gd hi (by decide), px_lt, nI_clamp (by omega), z1, nI_add]
    refine ⟨_, rfl, hs.up (by simp), fun j hj => ?_, fun j hj => ?_⟩
    · rw [upL_at, if_neg (fun z => by omega)]
      exact h38 j hj
    · rw [upL_at]
      by_cases c : j = i
      · rw [if_pos ⟨rfl, c⟩, c]
      · rw [if_neg (fun z => c z.2), hI j (by omega)]
  · intro n q ⟨hs, h38, hI⟩
    rw [jChain_read_h116, jChain_read_b116, z8, if_pos (nI_le (Nat.le_refl _) (by decide))]
    exact ⟨_, rfl, hs.same (by simp), hI⟩
theorem pow_lt {n : Nat} (h : n ≤ 4) : 0 < 1000 ^ n ∧ 1000 ^ n < 2 ^ 40 := by
  match n, h with
  | 0, _ => decide
  | 1, _ => decide
  | 2, _ => decide
  | 3, _ => decide
  | 4, _ => decide
theorem c_chain {g : Gh} {S : St} (hr : CR g S) (hw : WG g) (w n k : Int32) : COk g (sChain g w n k) (jSmoke_chain w n k S) := by
  unfold jSmoke_chain sChain
  by_cases q : rg w 8
  · rw [if_pos q]
    obtain ⟨w, hw8, rfl⟩ := rg_of q (by omega)
    rw [isWord_t hw8, px_bd, if_neg n10, nI_clamp (by omega)]
    by_cases q2 : rg1 n 4
    · rw [if_pos q2, if_neg q2.1, if_neg (show ¬ 4 < n from q2.2)]
      obtain ⟨n, hn1, hn2, rfl⟩ := rg1_of q2 (by omega)
      by_cases q3 : rg k 2
      · rw [if_pos q3, if_neg q3.1, if_pos (show k ≤ 1 by
            obtain ⟨j, hj, rfl⟩ := rg_of q3 (by omega)
            exact (nI_le (by omega) (by omega) : nI j ≤ nI 1)), leastSaying_ok hr.mn hw.mn hw8, px_bd, nI_clamp (by omega)]
        cases e : g.mn.says w with
        | none =>
          rw [if_pos (show oI (-1) none = -1 from rfl), show jSmoke_leastTerms 0 1 k S = _ from leastTerms_ok (a := 0) (b := 1) (by decide) (by decide) (by decide) k S, px_bd]
          refine ⟨S, ?_, hr⟩
          dsimp only
          by_cases k0 : k = 0
          · rw [if_pos k0, if_pos k0]; rfl
          · rw [if_neg k0, if_neg k0]; rfl
        | some d =>
          have hd := Mn.says_lt e
          rw [if_neg (show ¬ oI (-1) (some d) = -1 from nI_nm1 (by have := hw.mn.1; omega))]
          obtain ⟨S1, e1, s1, p1⟩ := begin_ok (S := S) hw8
          rw [e1, px_bv]
          have key := for_up (F := fun m i (q : St) => jSmoke_chain_h63 m (nI w) (nI n) k (lN (1000 ^ i)) (nI i) q) (N := n) (I := fun i q => Same S q ∧ ∀ j, j < 8 → q.2 37 j = lN (chIt g w i j)) (fun r => r.1 = (if k = 0 then lN (chIt g w n w / Nat.gcd (chIt g w n w) (1000 ^ n)) else lN (1000 ^ n / Nat.gcd (chIt g w n w) (1000 ^ n))) ∧ Same S r.2) ?_ ?_ (i := 0) (s := S1) (Nat.zero_le _) ⟨s1.same (by simp), p1⟩ (n := FU) (Nat.lt_of_le_of_lt (Nat.le_trans (Nat.sub_le _ _) hn2) (by decide))
          · obtain ⟨⟨a, S'⟩, e, e1, e2⟩ := key
            have e1 : a = _ := e1
            exact ⟨S', e1 ▸ e, hr.same e2⟩
          · intro m i q hi ⟨hs, hI⟩
            right
            obtain ⟨S2, e2, s2, p2⟩ := read_ok (hr.same hs) hw hI
            rw [jSmoke_chain_h63, jSmoke_chain_b63, if_neg (nI_ge hi (by omega)), e2, px_bv, px_lt, z1, nI_add, show (1000 : Int64) = lN 1000 from rfl, lN_mul, ← Nat.pow_succ]
            exact ⟨S2, rfl, hs.tr s2, p2⟩
          · intro m q ⟨hs, hI⟩
            obtain ⟨p0, p1⟩ := pow_lt hn2
            rw [jSmoke_chain_h63, jSmoke_chain_b63, if_pos (nI_le (Nat.le_refl _) (by omega)), px_ld (by omega) (by omega), hI w hw8, leastTerms_ok (chIt_lt hw hn2) p1 p0, px_bd]
            exact ⟨_, rfl, rfl, hs⟩
      · rw [if_neg q3]
        rcases rg_no q3 with z | z
        · rw [if_pos z]
          exact ⟨_, rfl, hr⟩
        · rw [if_neg (show ¬ k < 0 from fun y => absurd (Int32.lt_of_lt_of_le y (Int32.le_trans (show (0 : Int32) ≤ nI 2 by decide) z)) (Int32.lt_irrefl)), if_neg (show ¬ k ≤ 1 from fun y => absurd (Int32.le_trans z y) (by decide))]
          exact ⟨_, rfl, hr⟩
    · rw [if_neg q2]
      rcases rg1_no q2 with z | z
      · rw [if_pos z]
        exact ⟨_, rfl, hr⟩
      · rw [if_neg (fun y => absurd (Int32.lt_trans z y) (by decide)), if_pos (show 4 < n from z)]
        exact ⟨_, rfl, hr⟩
  · rw [if_neg q, isWord_f q, px_bd, if_pos rfl]
    exact ⟨_, rfl, hr⟩
