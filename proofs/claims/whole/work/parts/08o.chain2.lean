/-! chain in the reference -/
theorem copy8_ok {g : Gh} {m : Nat → Nat} {M S : St} (K : Int32 → Int32 → Int32 → Int64 → Int32 → St → Option (Int64 × St)) (x1 x2 x3 : Int32) (y4 : Int64) (x6 : Int32) (hs : rowsL M S [14, 15]) (h15 : ∀ j, j < 8 → S.2 15 j = lN (nxN g m j)) : ∃ S', jMod_chain_h221 K FU x1 x2 x3 y4 x6 0 S = K x1 x2 x3 y4 (x6 + 1) S' ∧ rowsL M S' [14, 15] ∧ ∀ j, j < 8 → S'.2 14 j = lN (nxN g m j) := by
  obtain ⟨n1, S1, e1, s1, p0, p1⟩ := for_go (F := fun n i (q : St) => jMod_chain_h221 K n x1 x2 x3 y4 x6 (nI i) q) (N := 8) (I := fun i q => rowsL M q [14, 15] ∧ (∀ j, j < 8 → q.2 15 j = lN (nxN g m j)) ∧ ∀ j, j < i → q.2 14 j = lN (nxN g m j)) (fun n i q hi ⟨hs, h15, hI⟩ => by
    rw [jMod_chain_h221, jMod_chain_b221, z8, if_neg (nI_ge hi (by decide)), px_ld hi (by decide), h15 i hi, px_gd hi (by decide), px_lt, nI_clamp (by omega), z1, nI_add]
    refine ⟨_, rfl, hs.up (by simp), fun j hj => ?_, fun j hj => ?_⟩
    · rw [upL_at, if_neg (fun z => by omega)]
      exact h15 j hj
    · rw [upL_at]
      by_cases c : j = i
      · rw [if_pos ⟨rfl, c⟩, c]
      · rw [if_neg (fun z => c z.2), hI j (by omega)]) (i := 0) (s := S) (Nat.zero_le _) ⟨hs, h15, fun j hj => by omega⟩ (n := FU) (by decide)
  have e1 : jMod_chain_h221 K FU x1 x2 x3 y4 x6 0 S = jMod_chain_h221 K (n1 + 1) x1 x2 x3 y4 x6 (nI 8) S1 := e1
  rw [e1, jMod_chain_h221, jMod_chain_b221, z8, if_pos (nI_le (Nat.le_refl _) (by decide))]
  exact ⟨S1, rfl, s1, p1⟩
/-- one evening of the chain -/
theorem eve_ok {g : Gh} {M : St} (hr : MR g M) (hw : WG g) {m : Nat → Nat} (hm63 : ∀ j, j < 8 → m j < 2 ^ 63) (hsay : ∀ j, g.mn.says j = none → m j = 0) (K : Int32 → Int32 → Int32 → Int64 → Int32 → St → Option (Int64 × St)) (x1 x2 x3 : Int32) (y4 : Int64) (x6 : Int32) {S : St} (hs : rowsL M S [14, 15]) (h14 : ∀ j, j < 8 → S.2 14 j = lN (m j)) : ∃ S', jMod_chain_h102 K FU x1 x2 x3 y4 x6 0 S = K x1 x2 x3 y4 (x6 + 1) S' ∧ rowsL M S' [14, 15] ∧ ∀ j, j < 8 → S'.2 14 j = lN (nxN g m j) := by
  have h8 := hw.mn.1
  obtain ⟨n1, S1, e1, s1, p0, p1⟩ := for_go (F := fun n i (q : St) => jMod_chain_h102 K n x1 x2 x3 y4 x6 (nI i) q) (N := 8) (I := fun i q => rowsL M q [14, 15] ∧ (∀ j, j < 8 → q.2 14 j = lN (m j)) ∧ ∀ j, j < i → q.2 15 j = lN 0) (fun n i q hi ⟨hs, h14, hI⟩ => by
    rw [jMod_chain_h102, jMod_chain_b102, z8, if_neg (nI_ge hi (by decide)), px_gd hi (by decide), px_lt, nI_clamp (by omega), z1, nI_add]
    refine ⟨_, rfl, hs.up (by simp), fun j hj => ?_, fun j hj => ?_⟩
    · rw [upL_at, if_neg (fun z => by omega)]
      exact h14 j hj
    · rw [upL_at]
      by_cases c : j = i
      · rw [if_pos ⟨rfl, c⟩]; rfl
      · rw [if_neg (fun z => c z.2), hI j (by omega)]) (i := 0) (s := S) (Nat.zero_le _) ⟨hs, h14, fun j hj => by omega⟩ (n := FU) (by decide)
  have e1 : jMod_chain_h102 K FU x1 x2 x3 y4 x6 0 S = jMod_chain_h102 K (n1 + 1) x1 x2 x3 y4 x6 (nI 8) S1 := e1
  rw [e1, jMod_chain_h102, jMod_chain_b102, z8, if_pos (nI_le (Nat.le_refl _) (by decide))]
  obtain ⟨n2, S2, e2, s2, p2, p3⟩ := for_go (F := fun n i (q : St) => jMod_chain_h126 K n x1 x2 x3 y4 x6 (nI i) q) (N := 8) (I := fun i q => rowsL M q [14, 15] ∧ (∀ j, j < 8 → q.2 14 j = lN (m j)) ∧ ∀ j, j < 8 → q.2 15 j = lN (sumN (fun w => sumN (fun t => trm g m t w j) 8) i)) (fun n w q hi ⟨hs, h14, hI⟩ => by
    rw [jMod_chain_h126, jMod_chain_b126, z8, if_neg (nI_ge hi (by decide))]
    show ∃ s', jMod_chain_h136 K (jMod_chain_h126 K n) FU x1 x2 x3 y4 x6 (nI w) 0 q = _ ∧ _
    by_cases c0 : m w = 0
    · refine ⟨q, ?_, hs, h14, fun j hj => ?_⟩
      · rw [show jMod_chain_h136 K (jMod_chain_h126 K n) FU x1 x2 x3 y4 x6 (nI w) 0 q = jMod_chain_b136 K (jMod_chain_h126 K n) (jMod_chain_h136 K (jMod_chain_h126 K n) 1023) x1 x2 x3 y4 x6 (nI w) 0 q from rfl, jMod_chain_b136, if_neg (by decide), px_ld hi (by decide), h14 w hi, c0, if_pos (by decide), z1, nI_add]
      · rw [hI j hj]
        show _ = lN (sumN (fun w => sumN (fun t => trm g m t w j) 8) w + sumN (fun t => trm g m t w j) 8)
        rw [show (fun t => trm g m t w j) = fun _ => 0 from funext fun t => by
          unfold trm
          split
          · cases g.mn.says w with
            | none => rfl
            | some d => dsimp only; rw [c0, Nat.zero_mul]
          · rfl, sumN_zero, Nat.add_zero]
    · have hm0 : ¬ lg_cmp (lN (m w)) 0 ≤ 0 := fun z => by
        have := (pk_lLE (hm63 w hi) (b := 0) (by decide)).mp ((lg_cmp_le _ _).mp z)
        omega
      cases e4 : g.mn.says w with
      | none => exact absurd (hsay w e4) c0
      | some d =>
        have hd := Mn.says_lt e4
        have hb : ∀ t, rdN g.now.fog (g.mn.sm d ^^^ t) 3 ≤ 1000 := fun t => rdN_le (f := g.now.fog) (x := g.mn.sm d ^^^ t) (by have := hw.sp.2.2.2; omega) 3
        obtain ⟨n3, S3, e3, s3, q14, p3⟩ := for_go (F := fun n' t (r : St) => jMod_chain_h136 K (jMod_chain_h126 K n) n' x1 x2 x3 y4 x6 (nI w) (nI t) r) (N := 8) (I := fun t r => rowsL M r [14, 15] ∧ (∀ j, j < 8 → r.2 14 j = lN (m j)) ∧ ∀ j, j < 8 → r.2 15 j = lN (sumN (fun w => sumN (fun t => trm g m t w j) 8) w + sumN (fun t => trm g m t w j) t)) (fun n' t r ht ⟨hs, h14, hI⟩ => by
          have hr' := hr.same (hs.msame (by simp))
          have e5 := (hr'.mn d hd.1).2.1
          rw [Nat.zero_add] at e5
          rw [jMod_chain_h136, jMod_chain_b136, z8, if_neg (nI_ge ht (by decide)), px_ld hi (by decide), h14 w hi, if_neg hm0, meant_ok hr'.nd hr'.mn hw.mn ht, px_bd]
          cases e6 : g.mn.means t with
          | none =>
            rw [if_pos (show oI (-9) none = -9 from rfl), z1, nI_add]
            refine ⟨r, rfl, hs, h14, fun j hj => ?_⟩
            rw [hI j hj]
            show _ = lN (_ + (sumN (fun t => trm g m t w j) t + trm g m t w j))
            rw [show trm g m t w j = 0 from if_neg (by rw [e6]; exact fun z => by cases z), Nat.add_zero]
          | some v =>
            have hv := Mn.means_lt hw.mn e6
            have hbt := hb t
            rw [if_neg (show ¬ oI (-9) (some v) = -9 from nI_nm9 (by omega))]
            show ∃ s', x_ld (r.2 15) 8 (nI v) _ = _ ∧ _
            rw [px_ld hv (by decide), px_ld hi (by decide), leastOf_ok hr'.nd hr'.mn hw.mn hi, px_bd, e4]
            show ∃ s', x_ld (r.1 6) 16 (nI d) _ = _ ∧ _
            rw [px_ld (by omega) (by omega), e5, readAs_ok hr'.sp hw.sp.2.2.2, px_bd]
            show ∃ s', x_gd 8 (nI v) _ = _ ∧ _
            rw [px_gd hv (by decide), px_lt, nI_l (by omega), hI v hv, h14 w hi, lN_mul, lN_add, z1, nI_add]
            refine ⟨_, rfl, hs.up (by simp), fun j hj => ?_, fun j hj => ?_⟩
            · rw [upL_at, if_neg (fun z => by omega)]
              exact h14 j hj
            · show _ = lN (_ + (sumN (fun t => trm g m t w j) t + trm g m t w j))
              rw [upL_at]
              by_cases c : j = v
              · rw [if_pos ⟨rfl, c.trans (nI_clamp (by omega)).symm⟩, c, show trm g m t w v = m w * rdN g.now.fog (g.mn.sm d ^^^ t) 3 by unfold trm; rw [e4, if_pos e6], Nat.add_assoc]
              · rw [if_neg (fun z => c (z.2.trans (nI_clamp (by omega)))), hI j hj, show trm g m t w j = 0 from if_neg (fun z => c (by rw [e6] at z; cases z; rfl)), Nat.add_zero]) (i := 0) (s := q) (Nat.zero_le _) ⟨hs, h14, fun j hj => hI j hj⟩ (n := FU) (by decide)
        refine ⟨S3, ?_, s3, q14, p3⟩
        refine Eq.trans e3 ?_
        rw [jMod_chain_h136, jMod_chain_b136, z8, if_pos (nI_le (Nat.le_refl _) (by decide)), z1, nI_add]) (i := 0) (s := S1) (Nat.zero_le _) ⟨s1, p0, p1⟩ (n := FU) (by decide)
  have e2 : jMod_chain_h126 K FU x1 x2 x3 y4 x6 0 S1 = jMod_chain_h126 K (n2 + 1) x1 x2 x3 y4 x6 (nI 8) S2 := e2
  show ∃ S', jMod_chain_h126 K FU x1 x2 x3 y4 x6 0 S1 = _ ∧ _
  rw [e2, jMod_chain_h126, jMod_chain_b126, z8, if_pos (nI_le (Nat.le_refl _) (by decide))]
  exact copy8_ok K x1 x2 x3 y4 x6 s2 (fun j hj => by rw [p3 j hj, sumN_swap]; rfl)
theorem m_chain {g : Gh} {M : St} (hr : MR g M) (hw : WG g) (w n k : Int32) : MOk g (sChain g w n k) (jMod_chain w n k M) := by
  unfold jMod_chain sChain
  by_cases q : rg w 8
  · rw [if_pos q]
    obtain ⟨w, hw8, rfl⟩ := rg_of q (by omega)
    rw [show jMod_in (nI w) 0 7 M = some (1, M) from in0_t (n := 7) hw8 (by omega), px_bd, if_neg n10, nI_clamp (by omega)]
    by_cases q2 : rg1 n 4
    · rw [if_pos q2]
      obtain ⟨n, hn1, hn2, rfl⟩ := rg1_of q2 (by omega)
      rw [show jMod_in (nI n) 1 4 M = some (1, M) from in1_t (m := 4) hn1 hn2 (by omega), px_bd, if_neg n10]
      by_cases q3 : rg k 2
      · rw [if_pos q3]
        obtain ⟨k, hk, rfl⟩ := rg_of q3 (by omega)
        rw [show jMod_in (nI k) 0 1 M = some (1, M) from in0_t (n := 1) hk (by omega), px_bd, if_neg n10, leastOf_ok hr.nd hr.mn hw.mn hw8, px_bd, nI_clamp (by omega)]
        cases e : g.mn.says w with
        | none =>
          rw [if_pos (show oI (-9) none = -9 from rfl)]
          refine ⟨M, ?_, hr⟩
          dsimp only
          rcases (by omega : k = 0 ∨ k = 1) with rfl | rfl
          · rfl
          · rfl
        | some d =>
          have hd := Mn.says_lt e
          rw [if_neg (show ¬ oI (-9) (some d) = -9 from nI_nm9 (by have := hw.mn.1; omega))]
          dsimp only
          obtain ⟨n1, S1, e1, s1, p1⟩ := for_go (F := fun m i (q : St) => jMod_chain_h51 m (nI w) (nI n) (nI k) 1 (nI i) q) (N := 8) (I := fun i q => rowsL M q [14, 15] ∧ ∀ j, j < i → q.2 14 j = lN (if j = w then 1 else 0)) (fun m i q hi ⟨hs, hI⟩ => by
            have key : ∀ v : Int64, v = lN (if i = w then 1 else 0) → ∃ s', jMod_chain_b75 (jMod_chain_h51 m) (nI w) (nI n) (nI k) 1 (nI i) v (nI i) q = jMod_chain_h51 m (nI w) (nI n) (nI k) 1 (nI (i + 1)) s' ∧ rowsL M s' [14, 15] ∧ ∀ j, j < i + 1 → s'.2 14 j = lN (if j = w then 1 else 0) := fun v hv => by
              unfold jMod_chain_b75
              rw [px_gd hi (by decide), px_lt, nI_clamp (by omega), z1, nI_add]
              refine ⟨_, rfl, hs.up (by simp), fun j hj => ?_⟩
              rw [upL_at]
              by_cases c : j = i
              · rw [if_pos ⟨rfl, c⟩, c, hv]
              · rw [if_neg (fun z => c z.2), hI j (by omega)]
            rw [jMod_chain_h51, jMod_chain_b51, z8, if_neg (nI_ge hi (by decide))]
            by_cases c : i = w
            · rw [if_pos (show nI i = nI w by rw [c])]
              exact key 1 (by rw [if_pos c]; rfl)
            · rw [if_neg (fun z => c ((nI_eq (by omega) (by omega)).mp z))]
              exact key 0 (by rw [if_neg c]; rfl)) (i := 0) (s := M) (Nat.zero_le _) ⟨rowsL.rf, fun j hj => by omega⟩ (n := FU) (by decide)
          have e1 : jMod_chain_h51 FU (nI w) (nI n) (nI k) 1 0 M = jMod_chain_h51 (n1 + 1) (nI w) (nI n) (nI k) 1 (nI 8) S1 := e1
          rw [e1, jMod_chain_h51, jMod_chain_b51, z8, if_pos (nI_le (Nat.le_refl _) (by decide))]
          have key := for_up (F := fun m i (q : St) => jMod_chain_h85 m (nI w) (nI n) (nI k) (lN (1000 ^ i)) (nI i) q) (N := n) (I := fun i q => rowsL M q [14, 15] ∧ ∀ j, j < 8 → q.2 14 j = lN (chIt g w i j)) (fun r => r.1 = (if nI k = 0 then lN (chIt g w n w / Nat.gcd (chIt g w n w) (1000 ^ n)) else lN (1000 ^ n / Nat.gcd (chIt g w n w) (1000 ^ n))) ∧ MSame M r.2) ?_ ?_ (i := 0) (s := S1) (Nat.zero_le _) ⟨s1, p1⟩ (n := FU) (Nat.lt_of_le_of_lt (Nat.le_trans (Nat.sub_le _ _) hn2) (by decide))
          · obtain ⟨⟨a, S'⟩, e, e1, e2⟩ := key
            have e1 : a = _ := e1
            exact ⟨S', e1 ▸ e, hr.same e2⟩
          · intro m i q hi ⟨hs, hI⟩
            right
            rw [jMod_chain_h85, jMod_chain_b85, if_neg (nI_ge hi (by omega)), px_lt, show (1000 : Int64) = lN 1000 from rfl, lN_mul, ← Nat.pow_succ]
            obtain ⟨S2, e2, s2, p2⟩ := eve_ok hr hw (m := chIt g w i) (fun j _ => chIt_lt hw (by omega)) (fun j hj => chIt_says ⟨d, e⟩ hj) (jMod_chain_h85 m) (nI w) (nI n) (nI k) (lN (1000 ^ (i + 1))) (nI i) hs hI
            rw [z1, nI_add] at e2
            exact ⟨S2, e2, s2, p2⟩
          · intro m q ⟨hs, hI⟩
            obtain ⟨p0, p1⟩ := pow_lt hn2
            have hc := chIt_lt hw (w := w) (j := w) hn2
            obtain ⟨g1, g2⟩ := gcd_b (a := chIt g w n w) p0
            have gz : ¬ lN (Nat.gcd (chIt g w n w) (1000 ^ n)) = 0 := fun z => by
              have := (lN_z (by omega)).2.mp z
              omega
            rw [jMod_chain_h85, jMod_chain_b85, if_pos (nI_le (Nat.le_refl _) (by omega)), px_ld (by omega) (by omega), hI w hw8, common_ok hc p1, px_bd]
            by_cases k0 : nI k = 0
            · rw [if_pos k0, if_pos k0, px_ld (by omega) (by omega), hI w hw8, if_neg gz, pk_lDiv hc g1 (by omega)]
              exact ⟨_, rfl, rfl, hs.msame (by simp)⟩
            · rw [if_neg k0, if_neg k0, if_neg gz, pk_lDiv (by omega) g1 (by omega)]
              exact ⟨_, rfl, rfl, hs.msame (by simp)⟩
      · rw [if_neg q3, show jMod_in k 0 1 M = some (0, M) from in0_f (n := 1) q3 (by omega), px_bd, if_pos rfl]
        exact ⟨_, rfl, hr⟩
    · rw [if_neg q2, show jMod_in n 1 4 M = some (0, M) from in1_f (m := 4) q2, px_bd, if_pos rfl]
      exact ⟨_, rfl, hr⟩
  · rw [if_neg q, show jMod_in w 0 7 M = some (0, M) from in0_f (n := 7) q (by omega), px_bd, if_pos rfl]
    exact ⟨_, rfl, hr⟩
