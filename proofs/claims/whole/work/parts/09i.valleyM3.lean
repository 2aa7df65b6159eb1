/-! valley in the reference: what becomes of a telling -/
theorem m_valley {g : Gh} {M : St} (hr : MR g M) (hw : WG g) : MOk (sValley g).2 (sValley g).1 (jMod_valley M) := by
  obtain ⟨x, S1, e1, s1, m1⟩ := tellM (hr.mt hw)
  have hr1 := hr.sc hw s1
  unfold sValley
  rw [e1]
  unfold jMod_valley_b70
  cases e : tellT g.1 with
  | inl p =>
    rw [e] at m1
    rw [m1.1, if_neg (fault_ne m1.2)]
    exact ⟨S1, rfl, hr1⟩
  | inr q =>
    rw [e] at m1
    obtain ⟨mx, m14, d1, d2, d3, d4, d5, d6⟩ := m1
    obtain ⟨wD, wc⟩ := tell_w e
    have w6 := wD.1
    have w8 := wD.2.1.1
    rw [m14, if_pos rfl, show x_ld (S1.1 2) 2 1 = x_ld (β := Int32 × St) (S1.1 2) 2 (nI 1) from rfl, px_ld (by omega) (by omega), d1, show x_gd 2 0 = x_gd (β := Int32 × St) 2 (nI 0) from rfl, px_gd (by omega) (by omega), px_lt, show Int32.toNatClampNeg 0 = 0 from rfl, show x_ld ((upI S1 2 0 (nI q.2.nh)).1 4) 2 1 = x_ld (β := Int32 × St) ((upI S1 2 0 (nI q.2.nh)).1 4) 2 (nI 1) from rfl, px_ld (by omega) (by omega), upI_row (by omega), d2, px_gd (by omega) (by omega), px_lt]
    obtain ⟨S2, hS2⟩ : ∃ S2, S2 = upI (upI S1 2 0 (nI q.2.nh)) 4 0 (nI q.2.mn.nd) := ⟨_, rfl⟩
    rw [← hS2]
    have r2 : ∀ r, r ≠ 2 → r ≠ 4 → S2.1 r = S1.1 r := fun r a b => by rw [hS2, upI_o r b, upI_o r a]
    -- larders
    obtain ⟨n3, S3, e3, i3, j3, k3⟩ := for_go (F := fun n i (z : St) => jMod_valley_h113 n x (nI i) z) (N := 30) (I := fun i z => rowsC S2 z [9] ∧ (∀ j, 30 ≤ j → z.1 9 j = S2.1 9 j) ∧ ∀ j, j < i → z.1 9 j = S2.1 3 (30 + j)) (fun n i z hi ⟨a1, a2, a3⟩ => by
      rw [jMod_valley_h113, jMod_valley_b113, z30, if_neg (nI_ge hi (by decide)), nI_add, px_ld (by omega) (by omega), px_gd (by omega) (by omega), px_lt, nI_clamp (by omega), z1, nI_add, a1.1 3 (by decide)]
      refine ⟨_, rfl, a1.up (by decide), fun j hj => (upI_off (by omega)).trans (a2 j hj), fun j hj => ?_⟩
      rw [upI_at]
      by_cases c : j = i
      · rw [if_pos ⟨rfl, c⟩, c]
      · rw [if_neg (fun z => c z.2), a3 j (by omega)]) (i := 0) (s := S2) (Nat.zero_le _) ⟨rowsC.rf, fun _ _ => rfl, fun j hj => by omega⟩ (n := FU) (by decide)
    have e3 : jMod_valley_h113 FU x 0 S2 = jMod_valley_h113 (n3 + 1) x (nI 30) S3 := e3
    rw [e3, jMod_valley_h113, jMod_valley_b113, z30, if_pos (nI_le (Nat.le_refl _) (by decide))]
    -- needs
    obtain ⟨n4, S4, e4, i4, j4, k4⟩ := for_go (F := fun n i (z : St) => jMod_valley_h142 n x (nI i) z) (N := 40) (I := fun i z => rowsC S3 z [5] ∧ (∀ j, 40 ≤ j → z.1 5 j = S3.1 5 j) ∧ ∀ j, j < i → z.1 5 j = S3.1 5 (40 + j)) (fun n i z hi ⟨a1, a2, a3⟩ => by
      rw [jMod_valley_h142, jMod_valley_b142, z40, if_neg (nI_ge hi (by decide)), nI_add, px_ld (by omega) (by omega), px_gd (by omega) (by omega), px_lt, nI_clamp (by omega), z1, nI_add, a2 (40 + i) (by omega)]
      refine ⟨_, rfl, a1.up (by decide), fun j hj => (upI_off (by omega)).trans (a2 j hj), fun j hj => ?_⟩
      rw [upI_at]
      by_cases c : j = i
      · rw [if_pos ⟨rfl, c⟩, c]
      · rw [if_neg (fun z => c z.2), a3 j (by omega)]) (i := 0) (s := S3) (Nat.zero_le _) ⟨rowsC.rf, fun _ _ => rfl, fun j hj => by omega⟩ (n := FU) (by decide)
    have e4 : jMod_valley_h142 FU x 0 S3 = jMod_valley_h142 (n4 + 1) x (nI 40) S4 := e4
    rw [e4, jMod_valley_h142, jMod_valley_b142, z40, if_pos (nI_le (Nat.le_refl _) (by decide))]
    -- smokes and words
    obtain ⟨n5, S5, e5, i5, j5, k5⟩ := for_go (F := fun n i (z : St) => jMod_valley_h171 n x (nI i) z) (N := 8) (I := fun i z => rowsC S4 z [6, 7] ∧ (∀ j, 8 ≤ j → z.1 6 j = S4.1 6 j ∧ z.1 7 j = S4.1 7 j) ∧ ∀ j, j < i → z.1 6 j = S4.1 6 (8 + j) ∧ z.1 7 j = S4.1 7 (8 + j)) (fun n i z hi ⟨a1, a2, a3⟩ => by
      rw [jMod_valley_h171, jMod_valley_b171, z8, if_neg (nI_ge hi (by decide)), nI_add, px_ld (by omega) (by omega), px_gd (by omega) (by omega), px_lt, nI_clamp (by omega), px_ld (by omega) (by omega), px_gd (by omega) (by omega), px_lt, z1, nI_add, (a2 (8 + i) (by omega)).1, upI_row (by omega), (a2 (8 + i) (by omega)).2]
      refine ⟨_, rfl, (a1.up (by decide)).up (by decide), fun j hj => ⟨?_, ?_⟩, fun j hj => ?_⟩
      · rw [upI_row (by omega), upI_off (by omega)]; exact (a2 j hj).1
      · rw [upI_off (by omega), upI_row (by omega)]; exact (a2 j hj).2
      · by_cases c : j = i
        · subst c
          exact ⟨by rw [upI_row (by omega), upI_hit], by rw [upI_hit]⟩
        · exact ⟨by rw [upI_row (by omega), upI_off c]; exact (a3 j (by omega)).1, by rw [upI_off c, upI_row (by omega)]; exact (a3 j (by omega)).2⟩) (i := 0) (s := S4) (Nat.zero_le _) ⟨rowsC.rf, fun _ _ => ⟨rfl, rfl⟩, fun j hj => by omega⟩ (n := FU) (by decide)
    have e5 : jMod_valley_h171 FU x 0 S4 = jMod_valley_h171 (n5 + 1) x (nI 8) S5 := e5
    rw [e5, jMod_valley_h171, jMod_valley_b171, z8, if_pos (nI_le (Nat.le_refl _) (by decide))]
    have rows : ∀ r, r ≠ 2 → r ≠ 4 → r ≠ 5 → r ≠ 6 → r ≠ 7 → r ≠ 9 → S5.1 r = S1.1 r := fun r a b c d e f => by
      rw [i5.1 r (by simp; omega), i4.1 r (by simp; omega), i3.1 r (by simp; omega), r2 r a b]
    have r81 : S5.1 8 1 = nI (q.2.fog.getD 0) := by rw [rows 8 (by omega) (by omega) (by omega) (by omega) (by omega) (by omega)]; exact d3
    rw [show x_ld (S5.1 8) 2 1 = x_ld (β := Int32 × St) (S5.1 8) 2 (nI 1) from rfl, px_ld (by omega) (by omega), r81, show x_gd 219 30 = x_gd (β := Int32 × St) 219 (nI 30) from rfl, px_gd (by omega) (by omega), px_lt, show Int32.toNatClampNeg 30 = 30 from rfl, show x_gd 219 32 = x_gd (β := Int32 × St) 219 (nI 32) from rfl, px_gd (by omega) (by omega), px_lt, show Int32.toNatClampNeg 32 = 32 from rfl, show x_gd 2 0 = x_gd (β := Int32 × St) 2 (nI 0) from rfl, px_gd (by omega) (by omega), px_lt, show Int32.toNatClampNeg 0 = 0 from rfl, show x_gd 2 1 = x_gd (β := Int32 × St) 2 (nI 1) from rfl, px_gd (by omega) (by omega), px_lt, show Int32.toNatClampNeg 1 = 1 from rfl, px_lt, mx, show vp_nar .boolean 0 = 0 from rfl]
    have lot : S5.1 9 31 = g.now.lot := by
      rw [i5.1 9 (by decide), i4.1 9 (by decide), j3 31 (by omega), r2 9 (by omega) (by omega)]
      exact hr1.sp.2.2.1
    have r9 : ∀ h, h < q.2.nh → ∀ k, k < 5 → S5.1 9 (5 * h + k) = nI (q.2.L h k) := fun h hh k hk => by
      rw [i5.1 9 (by decide), i4.1 9 (by decide), k3 _ (by omega), r2 3 (by omega) (by omega), show 30 + (5 * h + k) = 5 * (6 + h) + k by omega]
      exact d5 h hh k hk
    have r5 : ∀ d, d < q.2.mn.nd → ∀ k, k < 5 → S5.1 5 (5 * d + k) = nI (q.2.mn.need d k) := fun d hd k hk => by
      rw [i5.1 5 (by decide), k4 _ (by omega), i3.1 5 (by decide), r2 5 (by omega) (by omega), show 40 + (5 * d + k) = 5 * (8 + d) + k by omega]
      exact (d6 d hd).1 k hk
    have r67 : ∀ d, d < q.2.mn.nd → S5.1 6 d = nI (q.2.mn.sm d) ∧ S5.1 7 d = nI (q.2.mn.wd d) := fun d hd => by
      obtain ⟨a, b⟩ := k5 d (by omega)
      rw [a, b, i4.1 6 (by decide), i4.1 7 (by decide), i3.1 6 (by decide), i3.1 7 (by decide), r2 6 (by omega) (by omega), r2 7 (by omega) (by omega)]
      exact (d6 d hd).2
    refine ⟨_, rfl, ?_, fun j hj => absurd hj (Nat.not_lt_zero _), ?_, fun d hd => ⟨fun k hk => ?_, ?_, ?_⟩, ?_, ⟨?_, ?_, ?_, fun h hh k hk => ?_, fun j hj => absurd hj (Nat.not_lt_zero _)⟩, ?_, ?_, ?_⟩
    · rw [upI_hit]; rfl
    · rw [upI_row (by omega), upI_row (by omega), upI_row (by omega), upI_row (by omega), upI_row (by omega), i5.1 4 (by decide), i4.1 4 (by decide), i3.1 4 (by decide), hS2, upI_hit]; rfl
    · rw [upI_row (by omega), upI_row (by omega), upI_row (by omega), upI_row (by omega), upI_row (by omega), Nat.zero_add]
      exact r5 d hd k hk
    · rw [upI_row (by omega), upI_row (by omega), upI_row (by omega), upI_row (by omega), upI_row (by omega), Nat.zero_add]
      exact (r67 d hd).1
    · rw [upI_row (by omega), upI_row (by omega), upI_row (by omega), upI_row (by omega), upI_row (by omega), Nat.zero_add]
      exact (r67 d hd).2
    · rw [upI_row (by omega), upI_row (by omega), upI_row (by omega), upI_row (by omega), upI_row (by omega), i5.1 2 (by decide), i4.1 2 (by decide), i3.1 2 (by decide), hS2, upI_row (by omega), upI_hit]; rfl
    · rw [upI_row (by omega), upI_row (by omega), upI_row (by omega), upI_hit]; rfl
    · rw [upI_row (by omega), upI_row (by omega), upI_row (by omega), upI_off (by omega), upI_hit]; rfl
    · rw [upI_row (by omega), upI_row (by omega), upI_row (by omega), upI_off (by omega), upI_off (by omega)]
      exact lot
    · have hh : h < q.2.nh := hh
      rw [upI_row (by omega), upI_row (by omega), upI_row (by omega), upI_off (by omega), upI_off (by omega), Nat.zero_add]
      exact r9 h hh k hk
    · show (upI (upI (upI (upI (upI S5 9 30 (nI (q.2.fog.getD 0))) 9 32 0) 10 0 0) 10 1 0) 0 2 0).1 10 0 = 0
      rw [upI_row (by omega), upI_off (by omega), upI_hit]
    · show (upI (upI (upI (upI (upI S5 9 30 (nI (q.2.fog.getD 0))) 9 32 0) 10 0 0) 10 1 0) 0 2 0).1 10 1 = 0
      rw [upI_row (by omega), upI_hit]
    · show S5.2 0 0 = g.tr
      rw [i5.2, i4.2, i3.2, hS2]
      show S1.2 0 0 = g.tr
      exact hr1.2.2.2.2.2.2.2.2
