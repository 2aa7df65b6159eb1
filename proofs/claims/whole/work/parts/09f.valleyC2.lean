/-! valley in the class: what becomes of a telling -/
theorem menuBecome {N : Mn} {S : St} (h : CMn 4 N S) (hw : WMn N) : ∃ S', jMenu_become S = some S' ∧ rowsC S S' [14, 15, 16, 17, 18] ∧ CMn 14 N S' := by
  have h8 := hw.1
  unfold jMenu_become
  rw [px_lt, h.1]
  obtain ⟨m1, S1, e1, i1, i2, i3⟩ := for_go (F := fun n i (q : St) => jMenu_become_h10 n (nI i) q) (N := 40) (I := fun i q => rowsC S q [14, 15] ∧ q.1 14 4 = nI N.nd ∧ ∀ j, j < i → q.1 15 j = S.1 5 j) (fun n i q hi ⟨i1, i2, i3⟩ => by
    rw [jMenu_become_h10, jMenu_become_b10, z40, if_neg (nI_ge hi (by decide)), px_ld hi (by decide), px_gd hi (by decide), px_lt, nI_clamp (by omega), z1, nI_add, i1.1 5 (by decide)]
    refine ⟨_, rfl, i1.up (by decide), (upI_row (by omega)).trans i2, fun j hj => ?_⟩
    rw [upI_at]
    by_cases c : j = i
    · rw [if_pos ⟨rfl, c⟩, c]
    · rw [if_neg (fun z => c z.2), i3 j (by omega)]) (i := 0) (s := upI S 14 4 (nI N.nd)) (Nat.zero_le _) ⟨rowsC.rf.up (by decide), upI_hit, fun j hj => by omega⟩ (n := FU) (by decide)
  have e1 : jMenu_become_h10 FU 0 (upI S 14 4 (nI N.nd)) = jMenu_become_h10 (m1 + 1) (nI 40) S1 := e1
  rw [e1, jMenu_become_h10, jMenu_become_b10, z40, if_pos (nI_le (Nat.le_refl _) (by decide))]
  have key := for_up (F := fun n i (q : St) => jMenu_become_h36 n (nI i) q) (N := 8) (I := fun i q => rowsC S q [14, 15, 16, 17, 18] ∧ q.1 14 = S1.1 14 ∧ q.1 15 = S1.1 15 ∧ ∀ j, j < i → q.1 16 j = S.1 6 j ∧ q.1 17 j = S.1 7 j ∧ q.1 18 j = S.1 8 j) (fun S' => rowsC S S' [14, 15, 16, 17, 18] ∧ S'.1 14 = S1.1 14 ∧ S'.1 15 = S1.1 15 ∧ ∀ j, j < 8 → S'.1 16 j = S.1 6 j ∧ S'.1 17 j = S.1 7 j ∧ S'.1 18 j = S.1 8 j) ?_ ?_ (i := 0) (s := S1) (Nat.zero_le _) ⟨⟨fun r hr => i1.1 r (fun z => hr (by simp at z ⊢; omega)), i1.2⟩, rfl, rfl, fun j hj => by omega⟩ (n := FU) (by decide)
  · obtain ⟨S', e, k1, k2, k3, k4⟩ := key
    refine ⟨S', e, k1, ?_, fun d hd => ?_⟩
    · rw [k2]; exact i2
    · obtain ⟨a1, a2, a3, a4⟩ := h.2 d hd
      obtain ⟨b2, b3, b4⟩ := k4 d (by omega)
      refine ⟨fun k hk => ?_, b2.trans a2, b3.trans a3, b4.trans a4⟩
      rw [show 14 + 1 = 15 from rfl, k3, i3 (d * 5 + k) (by omega)]
      exact a1 k hk
  · intro n i q hi ⟨j1, j2, j3, j4⟩
    right
    rw [jMenu_become_h36, jMenu_become_b36, z8, if_neg (nI_ge hi (by decide)), px_ld hi (by decide), px_gd hi (by decide), px_lt, nI_clamp (by omega), px_ld hi (by decide), px_gd hi (by decide), px_lt, px_ld hi (by decide), px_gd hi (by decide), px_lt, z1, nI_add]
    refine ⟨_, rfl, ((j1.up (by decide)).up (by decide)).up (by decide), ?_, ?_, fun j hj => ?_⟩
    · rw [upI_o 14 (by omega), upI_o 14 (by omega), upI_o 14 (by omega)]; exact j2
    · rw [upI_o 15 (by omega), upI_o 15 (by omega), upI_o 15 (by omega)]; exact j3
    · have r6 : q.1 6 i = S.1 6 i := by rw [j1.1 6 (by decide)]
      have r7 : q.1 7 i = S.1 7 i := by rw [j1.1 7 (by decide)]
      have r8 : q.1 8 i = S.1 8 i := by rw [j1.1 8 (by decide)]
      by_cases c : j = i
      · subst c
        refine ⟨?_, ?_, ?_⟩
        · rw [upI_row (by omega), upI_row (by omega), upI_hit]; exact r6
        · rw [upI_row (by omega), upI_hit, upI_row (by omega)]; exact r7
        · rw [upI_hit, upI_row (by omega), upI_row (by omega)]; exact r8
      · obtain ⟨b1, b2, b3⟩ := j4 j (by omega)
        refine ⟨?_, ?_, ?_⟩
        · rw [upI_row (by omega), upI_row (by omega), upI_off c]; exact b1
        · rw [upI_row (by omega), upI_off c, upI_row (by omega)]; exact b2
        · rw [upI_off c, upI_row (by omega), upI_row (by omega)]; exact b3
  · intro n q ⟨j1, j2, j3, j4⟩
    rw [jMenu_become_h36, jMenu_become_b36, z8, if_pos (nI_le (Nat.le_refl _) (by decide))]
    exact ⟨_, rfl, j1, j2, j3, j4⟩
def newG (g : Gh) (D : Df) : Gh := ((0, g.tb), D.mn, D.nh, (D.L, 0, (fun _ => 0), (fun _ => 0), D.fog.getD 0, g.now.lot), (fun _ => none), g.tr)
def sValley (g : Gh) : Int32 × Gh := match tellT g.1 with
  | .inl p => (-10 - nI p, g)
  | .inr q => (nI q.1, newG g q.2)
theorem CR.v {g : Gh} {S S' : St} (h : CR g S) (hv : vfr S S') : CR g S' := by
  obtain ⟨q1, q2, q3, q4, q5, q6, q7⟩ := h
  have r : ∀ k, 14 ≤ k → S'.1 k = S.1 k := fun k hk => hv.1 k (by omega)
  have keyS : ∀ {k : Nat} {P : Sp}, CSp k g.nh P S → 14 ≤ k → CSp k g.nh P S' := by
    intro k P hh hk
    unfold CSp at *
    rw [r k hk, r (k + 1) (by omega), r (k + 2) (by omega), r (k + 3) (by omega)]
    exact hh
  have key : ∀ {k : Nat} {o : Option Sp}, CIm k g.nh o S → 14 ≤ k → CIm k g.nh o S' := by
    intro k o h hk
    cases o with
    | none => exact (congrFun (r k hk) 7).trans h
    | some P => exact ⟨(congrFun (r k hk) 7).trans h.1, keyS h.2 hk⟩
  exact ⟨hv.2.1.trans q1, fun j hj => by rw [hv.1 2 (by omega)]; exact q2 j hj, q3.rows (fun k hk => r k (by omega)), keyS q4 (by omega), key q5 (by omega), key q6 (by omega), by rw [hv.2.2]; exact q7⟩
theorem CR.ct {g : Gh} {S : St} (h : CR g S) (hw : WG g) : CT g.1 S := ⟨h.1, hw.1, fun j hj => ⟨h.2.1 j hj, hw.2.1 j hj⟩⟩
theorem tell_w {g : Gh} {q : Nat × Df} (e : tellT g.1 = .inr q) : WD q.2 ∧ q.1 ≤ 15 := by
  obtain ⟨w1, w2⟩ := itemsT_r (t := g.1) (Nat.zero_le _) WD0 rfl e
  exact ⟨w1, by have := wtD_le w1; omega⟩
theorem c_valley {g : Gh} {S : St} (hr : CR g S) (hw : WG g) : COk (sValley g).2 (sValley g).1 (jSmoke_valley S) := by
  obtain ⟨x, S1, e1, v1, m1⟩ := readAll_ok (hr.ct hw)
  have hr1 := hr.v v1
  unfold jSmoke_valley sValley
  rw [e1, px_bd]
  cases e : tellT g.1 with
  | inl p =>
    rw [e] at m1
    rw [m1.1, if_neg (by decide), m1.2]
    exact ⟨S1, rfl, hr1⟩
  | inr q =>
    rw [e] at m1
    obtain ⟨wD, wc⟩ := tell_w e
    obtain ⟨k1, k2, k3, k4, k5, k6⟩ := m1.2
    obtain ⟨S2, e2, r2, n2⟩ := menuBecome k6 wD.2.1
    rw [m1.1, if_pos (nI_pos' (by omega)), e2, px_bv, px_lt]
    have l2 : S2.1 19 6 = g.now.lot := by rw [r2.1 19 (by decide)]; exact hr1.sp.2.2.2.1
    obtain ⟨S3, hS3⟩ : ∃ S3, S3 = upI S2 9 6 (S2.1 19 6) := ⟨_, rfl⟩
    rw [← hS3]
    have c9 : CSp 9 q.2.nh (q.2.L, 0, (fun _ => 0), (fun _ => 0), q.2.fog.getD 0, g.now.lot) S3 := by
      rw [hS3]
      refine ⟨?_, ?_, ?_, ?_, fun h hh k hk => ?_, fun j hj => absurd hj (Nat.not_lt_zero _)⟩
      · rw [upI_off (by omega), r2.1 9 (by decide)]; exact k1
      · rw [upI_off (by omega), r2.1 9 (by decide)]; exact k2
      · rw [upI_off (by omega), r2.1 9 (by decide)]; exact k3
      · rw [upI_hit]; exact l2
      · rw [upI_row (by omega), r2.1 (9 + 1) (by decide)]; exact k5 h hh k hk
    obtain ⟨S4, e4, r4, s4, -⟩ := jSuppers_become_19_9_sp S3 c9 wD.1 (Nat.zero_le _)
    rw [e4, px_bv, px_lt, px_lt, px_lt]
    refine ⟨_, rfl, ?_, fun j hj => absurd hj (Nat.not_lt_zero _), ?_, ?_, ?_, ?_, ?_⟩
    · rw [upI_hit]; rfl
    · have n3 : CMn 14 q.2.mn S4 := n2.rows (fun r hr' => by rw [r4.1 r (by simp; omega), hS3, upI_o r (by omega)])
      exact n3.rows (fun r hr' => by rw [upI_o r (by omega), upI_o r (by omega), upI_o r (by omega)])
    · show CSp 19 q.2.nh _ _
      unfold CSp at *
      rw [upI_o 19 (by omega), upI_o 19 (by omega), upI_o 19 (by omega), upI_o (19 + 1) (by omega), upI_o (19 + 1) (by omega), upI_o (19 + 1) (by omega), upI_o (19 + 2) (by omega), upI_o (19 + 2) (by omega), upI_o (19 + 2) (by omega), upI_o (19 + 3) (by omega), upI_o (19 + 3) (by omega), upI_o (19 + 3) (by omega)]
      exact s4
    · show (upI (upI (upI S4 23 7 0) 27 7 0) 1 1 0).1 23 7 = 0
      rw [upI_row (by omega), upI_row (by omega), upI_hit]
    · show (upI (upI (upI S4 23 7 0) 27 7 0) 1 1 0).1 27 7 = 0
      rw [upI_row (by omega), upI_hit]
    · show S4.2 0 9 = g.tr
      rw [r4.2, hS3]
      show S2.2 0 9 = g.tr
      rw [r2.2]
      exact hr1.2.2.2.2.2.2
theorem w_valley {g : Gh} (hw : WG g) : WG (sValley g).2 := by
  unfold sValley
  cases e : tellT g.1 with
  | inl p => exact hw
  | inr q =>
    obtain ⟨wD, wc⟩ := tell_w e
    refine ⟨Nat.zero_le _, fun j hj => absurd hj (Nat.not_lt_zero _), wD.2.1, wD.1, ⟨fun h hh k hk => wD.2.2.1 h hh k hk, Nat.zero_le _, fun j hj => absurd hj (Nat.not_lt_zero _), ?_⟩, fun i P hP => by cases hP⟩
    show q.2.fog.getD 0 ≤ 5
    cases ef : q.2.fog with
    | none => exact Nat.zero_le _
    | some v => exact wD.2.2.2 v ef
