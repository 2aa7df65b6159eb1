/-! images: the five copies of the class; the reference's copy -/
theorem jSuppers_become_23_19_l2 (S : St) : ∃ S', jSuppers_become_23_19_h60 FU 0 S = some S' ∧ rowsC S S' [25, 26] ∧ ∀ j, j < 20 → S'.1 25 j = S.1 21 j ∧ S'.1 26 j = S.1 22 j := by
  refine for_up (F := fun n i s => jSuppers_become_23_19_h60 n (nI i) s) (N := 20) (I := fun i s => rowsC S s [25, 26] ∧ ∀ j, j < i → s.1 25 j = S.1 21 j ∧ s.1 26 j = S.1 22 j) _ ?_ ?_ (i := 0) (s := S) (Nat.zero_le _) ⟨rowsC.rf, fun j h => by omega⟩ (n := FU) (by decide)
  · intro n i s hi ⟨hI, hJ⟩
    right
    rw [jSuppers_become_23_19_h60, jSuppers_become_23_19_b60, z20, if_neg (nI_ge hi (by decide)), px_ld hi (by decide), px_gd hi (by decide), px_lt, nI_clamp (by omega), px_ld hi (by decide), px_gd hi (by decide), px_lt, upI_row (by decide), hI.1 21 (by decide), hI.1 22 (by decide), z1, nI_add]
    refine ⟨_, rfl, (hI.up (by decide)).up (by decide), fun j hj => ?_⟩
    by_cases e : j = i
    · subst e
      rw [upI_row (by decide), upI_hit, upI_hit]
      exact ⟨rfl, rfl⟩
    · rw [upI_row (by decide), upI_off e, upI_off e, upI_row (by decide)]
      exact hJ j (by omega)
  · intro n s h
    rw [jSuppers_become_23_19_h60, jSuppers_become_23_19_b60, z20, if_pos (nI_le (Nat.le_refl _) (by decide))]
    exact ⟨_, rfl, h⟩
theorem jSuppers_become_23_19_l1 (S : St) : ∃ S', jSuppers_become_23_19_h34 FU 0 S = some S' ∧ rowsC S S' [24, 25, 26] ∧ (∀ j, j < 30 → S'.1 24 j = S.1 20 j) ∧ ∀ j, j < 20 → S'.1 25 j = S.1 21 j ∧ S'.1 26 j = S.1 22 j := by
  refine for_up (F := fun n i s => jSuppers_become_23_19_h34 n (nI i) s) (N := 30) (I := fun i s => rowsC S s [24] ∧ ∀ j, j < i → s.1 24 j = S.1 20 j) _ ?_ ?_ (i := 0) (s := S) (Nat.zero_le _) ⟨rowsC.rf, fun j h => by omega⟩ (n := FU) (by decide)
  · intro n i s hi ⟨hI, hJ⟩
    right
    rw [jSuppers_become_23_19_h34, jSuppers_become_23_19_b34, z30, if_neg (nI_ge hi (by decide)), px_ld hi (by decide), px_gd hi (by decide), px_lt, nI_clamp (by omega), hI.1 20 (by decide), z1, nI_add]
    refine ⟨_, rfl, hI.up (by decide), fun j hj => ?_⟩
    by_cases e : j = i
    · subst e
      rw [upI_hit]
    · rw [upI_off e]
      exact hJ j (by omega)
  · intro n s ⟨hI, hJ⟩
    rw [jSuppers_become_23_19_h34, jSuppers_become_23_19_b34, z30, if_pos (nI_le (Nat.le_refl _) (by decide))]
    obtain ⟨S', e, h1, h2⟩ := jSuppers_become_23_19_l2 s
    refine ⟨S', e, ⟨fun r hr => ?_, h1.2.trans hI.2⟩, fun j hj => ?_, fun j hj => ?_⟩
    · rw [h1.1 r (fun z => hr (by simp at z ⊢; omega)), hI.1 r (fun z => hr (by simp at z ⊢; omega))]
    · rw [h1.1 24 (by decide)]; exact hJ j hj
    · rw [(h2 j hj).1, (h2 j hj).2, hI.1 21 (by decide), hI.1 22 (by decide)]; exact ⟨rfl, rfl⟩
theorem jSuppers_become_23_19_sp (S : St) {nh : Nat} {P : Sp} (hs : CSp 19 nh P S) (hn : nh ≤ 6) (hp : P.np ≤ 20) : ∃ S', jSuppers_become_23_19 S = some S' ∧ rowsC S S' [23, 24, 25, 26] ∧ CSp 23 nh P S' ∧ S'.1 23 7 = S.1 23 7 := by
  unfold jSuppers_become_23_19
  rw [px_lt, px_lt, px_lt, px_lt, upI_row (by decide), upI_row (by decide), upI_row (by decide), upI_row (by decide), upI_row (by decide), upI_row (by decide)]
  obtain ⟨S', e, h1, h2, h3⟩ := jSuppers_become_23_19_l1 (upI (upI (upI (upI S 23 3 (S.1 19 3)) 23 4 (S.1 19 4)) 23 5 (S.1 19 5)) 23 6 (S.1 19 6))
  obtain ⟨a1, a2, a3, a4, a5, a6⟩ := hs
  have r0 : ∀ j, S'.1 23 j = (upI (upI (upI (upI S 23 3 (S.1 19 3)) 23 4 (S.1 19 4)) 23 5 (S.1 19 5)) 23 6 (S.1 19 6)).1 23 j := fun j => by rw [h1.1 23 (by decide)]
  refine ⟨S', e, ⟨fun r hr => ?_, h1.2⟩, ⟨?_, ?_, ?_, ?_, fun h hh k hk => ?_, fun j hj => ?_⟩, ?_⟩
  · rw [h1.1 r (fun z => hr (by simp at z ⊢; omega)), upI_o r (fun z => hr (by simp; omega)), upI_o r (fun z => hr (by simp; omega)), upI_o r (fun z => hr (by simp; omega)), upI_o r (fun z => hr (by simp; omega))]
  · rw [r0, upI_off (by decide), upI_off (by decide), upI_off (by decide), upI_hit]; exact a1
  · rw [r0, upI_off (by decide), upI_off (by decide), upI_hit]; exact a2
  · rw [r0, upI_off (by decide), upI_hit]; exact a3
  · rw [r0, upI_hit]; exact a4
  · show S'.1 24 (h * 5 + k) = _
    rw [h2 _ (by omega), upI_row (by decide), upI_row (by decide), upI_row (by decide), upI_row (by decide)]; exact a5 h hh k hk
  · show S'.1 25 j = _ ∧ S'.1 26 j = _
    rw [(h3 j (by omega)).1, (h3 j (by omega)).2]
    rw [upI_row (by decide), upI_row (by decide), upI_row (by decide), upI_row (by decide), upI_row (by decide), upI_row (by decide), upI_row (by decide), upI_row (by decide)]
    exact a6 j hj
  · rw [r0, upI_off (by decide), upI_off (by decide), upI_off (by decide), upI_off (by decide)]
theorem jSuppers_become_27_19_l2 (S : St) : ∃ S', jSuppers_become_27_19_h60 FU 0 S = some S' ∧ rowsC S S' [29, 30] ∧ ∀ j, j < 20 → S'.1 29 j = S.1 21 j ∧ S'.1 30 j = S.1 22 j := by
  refine for_up (F := fun n i s => jSuppers_become_27_19_h60 n (nI i) s) (N := 20) (I := fun i s => rowsC S s [29, 30] ∧ ∀ j, j < i → s.1 29 j = S.1 21 j ∧ s.1 30 j = S.1 22 j) _ ?_ ?_ (i := 0) (s := S) (Nat.zero_le _) ⟨rowsC.rf, fun j h => by omega⟩ (n := FU) (by decide)
  · intro n i s hi ⟨hI, hJ⟩
    right
    rw [jSuppers_become_27_19_h60, jSuppers_become_27_19_b60, z20, if_neg (nI_ge hi (by decide)), px_ld hi (by decide), px_gd hi (by decide), px_lt, nI_clamp (by omega), px_ld hi (by decide), px_gd hi (by decide), px_lt, upI_row (by decide), hI.1 21 (by decide), hI.1 22 (by decide), z1, nI_add]
    refine ⟨_, rfl, (hI.up (by decide)).up (by decide), fun j hj => ?_⟩
    by_cases e : j = i
    · subst e
      rw [upI_row (by decide), upI_hit, upI_hit]
      exact ⟨rfl, rfl⟩
    · rw [upI_row (by decide), upI_off e, upI_off e, upI_row (by decide)]
      exact hJ j (by omega)
  · intro n s h
    rw [jSuppers_become_27_19_h60, jSuppers_become_27_19_b60, z20, if_pos (nI_le (Nat.le_refl _) (by decide))]
    exact ⟨_, rfl, h⟩
theorem jSuppers_become_27_19_l1 (S : St) : ∃ S', jSuppers_become_27_19_h34 FU 0 S = some S' ∧ rowsC S S' [28, 29, 30] ∧ (∀ j, j < 30 → S'.1 28 j = S.1 20 j) ∧ ∀ j, j < 20 → S'.1 29 j = S.1 21 j ∧ S'.1 30 j = S.1 22 j := by
  refine for_up (F := fun n i s => jSuppers_become_27_19_h34 n (nI i) s) (N := 30) (I := fun i s => rowsC S s [28] ∧ ∀ j, j < i → s.1 28 j = S.1 20 j) _ ?_ ?_ (i := 0) (s := S) (Nat.zero_le _) ⟨rowsC.rf, fun j h => by omega⟩ (n := FU) (by decide)
  · intro n i s hi ⟨hI, hJ⟩
    right
    rw [jSuppers_become_27_19_h34, jSuppers_become_27_19_b34, z30, if_neg (nI_ge hi (by decide)), px_ld hi (by decide), px_gd hi (by decide), px_lt, nI_clamp (by omega), hI.1 20 (by decide), z1, nI_add]
    refine ⟨_, rfl, hI.up (by decide), fun j hj => ?_⟩
    by_cases e : j = i
    · subst e
      rw [upI_hit]
    · rw [upI_off e]
      exact hJ j (by omega)
  · intro n s ⟨hI, hJ⟩
    rw [jSuppers_become_27_19_h34, jSuppers_become_27_19_b34, z30, if_pos (nI_le (Nat.le_refl _) (by decide))]
    obtain ⟨S', e, h1, h2⟩ := jSuppers_become_27_19_l2 s
    refine ⟨S', e, ⟨fun r hr => ?_, h1.2.trans hI.2⟩, fun j hj => ?_, fun j hj => ?_⟩
    · rw [h1.1 r (fun z => hr (by simp at z ⊢; omega)), hI.1 r (fun z => hr (by simp at z ⊢; omega))]
    · rw [h1.1 28 (by decide)]; exact hJ j hj
    · rw [(h2 j hj).1, (h2 j hj).2, hI.1 21 (by decide), hI.1 22 (by decide)]; exact ⟨rfl, rfl⟩
theorem jSuppers_become_27_19_sp (S : St) {nh : Nat} {P : Sp} (hs : CSp 19 nh P S) (hn : nh ≤ 6) (hp : P.np ≤ 20) : ∃ S', jSuppers_become_27_19 S = some S' ∧ rowsC S S' [27, 28, 29, 30] ∧ CSp 27 nh P S' ∧ S'.1 27 7 = S.1 27 7 := by
  unfold jSuppers_become_27_19
  rw [px_lt, px_lt, px_lt, px_lt, upI_row (by decide), upI_row (by decide), upI_row (by decide), upI_row (by decide), upI_row (by decide), upI_row (by decide)]
  obtain ⟨S', e, h1, h2, h3⟩ := jSuppers_become_27_19_l1 (upI (upI (upI (upI S 27 3 (S.1 19 3)) 27 4 (S.1 19 4)) 27 5 (S.1 19 5)) 27 6 (S.1 19 6))
  obtain ⟨a1, a2, a3, a4, a5, a6⟩ := hs
  have r0 : ∀ j, S'.1 27 j = (upI (upI (upI (upI S 27 3 (S.1 19 3)) 27 4 (S.1 19 4)) 27 5 (S.1 19 5)) 27 6 (S.1 19 6)).1 27 j := fun j => by rw [h1.1 27 (by decide)]
  refine ⟨S', e, ⟨fun r hr => ?_, h1.2⟩, ⟨?_, ?_, ?_, ?_, fun h hh k hk => ?_, fun j hj => ?_⟩, ?_⟩
  · rw [h1.1 r (fun z => hr (by simp at z ⊢; omega)), upI_o r (fun z => hr (by simp; omega)), upI_o r (fun z => hr (by simp; omega)), upI_o r (fun z => hr (by simp; omega)), upI_o r (fun z => hr (by simp; omega))]
  · rw [r0, upI_off (by decide), upI_off (by decide), upI_off (by decide), upI_hit]; exact a1
  · rw [r0, upI_off (by decide), upI_off (by decide), upI_hit]; exact a2
  · rw [r0, upI_off (by decide), upI_hit]; exact a3
  · rw [r0, upI_hit]; exact a4
  · show S'.1 28 (h * 5 + k) = _
    rw [h2 _ (by omega), upI_row (by decide), upI_row (by decide), upI_row (by decide), upI_row (by decide)]; exact a5 h hh k hk
  · show S'.1 29 j = _ ∧ S'.1 30 j = _
    rw [(h3 j (by omega)).1, (h3 j (by omega)).2]
    rw [upI_row (by decide), upI_row (by decide), upI_row (by decide), upI_row (by decide), upI_row (by decide), upI_row (by decide), upI_row (by decide), upI_row (by decide)]
    exact a6 j hj
  · rw [r0, upI_off (by decide), upI_off (by decide), upI_off (by decide), upI_off (by decide)]
theorem jSuppers_become_19_23_l2 (S : St) : ∃ S', jSuppers_become_19_23_h60 FU 0 S = some S' ∧ rowsC S S' [21, 22] ∧ ∀ j, j < 20 → S'.1 21 j = S.1 25 j ∧ S'.1 22 j = S.1 26 j := by
  refine for_up (F := fun n i s => jSuppers_become_19_23_h60 n (nI i) s) (N := 20) (I := fun i s => rowsC S s [21, 22] ∧ ∀ j, j < i → s.1 21 j = S.1 25 j ∧ s.1 22 j = S.1 26 j) _ ?_ ?_ (i := 0) (s := S) (Nat.zero_le _) ⟨rowsC.rf, fun j h => by omega⟩ (n := FU) (by decide)
  · intro n i s hi ⟨hI, hJ⟩
    right
    rw [jSuppers_become_19_23_h60, jSuppers_become_19_23_b60, z20, if_neg (nI_ge hi (by decide)), px_ld hi (by decide), px_gd hi (by decide), px_lt, nI_clamp (by omega), px_ld hi (by decide), px_gd hi (by decide), px_lt, upI_row (by decide), hI.1 25 (by decide), hI.1 26 (by decide), z1, nI_add]
    refine ⟨_, rfl, (hI.up (by decide)).up (by decide), fun j hj => ?_⟩
    by_cases e : j = i
    · subst e
      rw [upI_row (by decide), upI_hit, upI_hit]
      exact ⟨rfl, rfl⟩
    · rw [upI_row (by decide), upI_off e, upI_off e, upI_row (by decide)]
      exact hJ j (by omega)
  · intro n s h
    rw [jSuppers_become_19_23_h60, jSuppers_become_19_23_b60, z20, if_pos (nI_le (Nat.le_refl _) (by decide))]
    exact ⟨_, rfl, h⟩
theorem jSuppers_become_19_23_l1 (S : St) : ∃ S', jSuppers_become_19_23_h34 FU 0 S = some S' ∧ rowsC S S' [20, 21, 22] ∧ (∀ j, j < 30 → S'.1 20 j = S.1 24 j) ∧ ∀ j, j < 20 → S'.1 21 j = S.1 25 j ∧ S'.1 22 j = S.1 26 j := by
  refine for_up (F := fun n i s => jSuppers_become_19_23_h34 n (nI i) s) (N := 30) (I := fun i s => rowsC S s [20] ∧ ∀ j, j < i → s.1 20 j = S.1 24 j) _ ?_ ?_ (i := 0) (s := S) (Nat.zero_le _) ⟨rowsC.rf, fun j h => by omega⟩ (n := FU) (by decide)
  · intro n i s hi ⟨hI, hJ⟩
    right
    rw [jSuppers_become_19_23_h34, jSuppers_become_19_23_b34, z30, if_neg (nI_ge hi (by decide)), px_ld hi (by decide), px_gd hi (by decide), px_lt, nI_clamp (by omega), hI.1 24 (by decide), z1, nI_add]
    refine ⟨_, rfl, hI.up (by decide), fun j hj => ?_⟩
    by_cases e : j = i
    · subst e
      rw [upI_hit]
    · rw [upI_off e]
      exact hJ j (by omega)
  · intro n s ⟨hI, hJ⟩
    rw [jSuppers_become_19_23_h34, jSuppers_become_19_23_b34, z30, if_pos (nI_le (Nat.le_refl _) (by decide))]
    obtain ⟨S', e, h1, h2⟩ := jSuppers_become_19_23_l2 s
    refine ⟨S', e, ⟨fun r hr => ?_, h1.2.trans hI.2⟩, fun j hj => ?_, fun j hj => ?_⟩
    · rw [h1.1 r (fun z => hr (by simp at z ⊢; omega)), hI.1 r (fun z => hr (by simp at z ⊢; omega))]
    · rw [h1.1 20 (by decide)]; exact hJ j hj
    · rw [(h2 j hj).1, (h2 j hj).2, hI.1 25 (by decide), hI.1 26 (by decide)]; exact ⟨rfl, rfl⟩
theorem jSuppers_become_19_23_sp (S : St) {nh : Nat} {P : Sp} (hs : CSp 23 nh P S) (hn : nh ≤ 6) (hp : P.np ≤ 20) : ∃ S', jSuppers_become_19_23 S = some S' ∧ rowsC S S' [19, 20, 21, 22] ∧ CSp 19 nh P S' ∧ S'.1 19 7 = S.1 19 7 := by
  unfold jSuppers_become_19_23
  rw [px_lt, px_lt, px_lt, px_lt, upI_row (by decide), upI_row (by decide), upI_row (by decide), upI_row (by decide), upI_row (by decide), upI_row (by decide)]
  obtain ⟨S', e, h1, h2, h3⟩ := jSuppers_become_19_23_l1 (upI (upI (upI (upI S 19 3 (S.1 23 3)) 19 4 (S.1 23 4)) 19 5 (S.1 23 5)) 19 6 (S.1 23 6))
  obtain ⟨a1, a2, a3, a4, a5, a6⟩ := hs
  have r0 : ∀ j, S'.1 19 j = (upI (upI (upI (upI S 19 3 (S.1 23 3)) 19 4 (S.1 23 4)) 19 5 (S.1 23 5)) 19 6 (S.1 23 6)).1 19 j := fun j => by rw [h1.1 19 (by decide)]
  refine ⟨S', e, ⟨fun r hr => ?_, h1.2⟩, ⟨?_, ?_, ?_, ?_, fun h hh k hk => ?_, fun j hj => ?_⟩, ?_⟩
  · rw [h1.1 r (fun z => hr (by simp at z ⊢; omega)), upI_o r (fun z => hr (by simp; omega)), upI_o r (fun z => hr (by simp; omega)), upI_o r (fun z => hr (by simp; omega)), upI_o r (fun z => hr (by simp; omega))]
  · rw [r0, upI_off (by decide), upI_off (by decide), upI_off (by decide), upI_hit]; exact a1
  · rw [r0, upI_off (by decide), upI_off (by decide), upI_hit]; exact a2
  · rw [r0, upI_off (by decide), upI_hit]; exact a3
  · rw [r0, upI_hit]; exact a4
  · show S'.1 20 (h * 5 + k) = _
    rw [h2 _ (by omega), upI_row (by decide), upI_row (by decide), upI_row (by decide), upI_row (by decide)]; exact a5 h hh k hk
  · show S'.1 21 j = _ ∧ S'.1 22 j = _
    rw [(h3 j (by omega)).1, (h3 j (by omega)).2]
    rw [upI_row (by decide), upI_row (by decide), upI_row (by decide), upI_row (by decide), upI_row (by decide), upI_row (by decide), upI_row (by decide), upI_row (by decide)]
    exact a6 j hj
  · rw [r0, upI_off (by decide), upI_off (by decide), upI_off (by decide), upI_off (by decide)]
theorem jSuppers_become_19_27_l2 (S : St) : ∃ S', jSuppers_become_19_27_h60 FU 0 S = some S' ∧ rowsC S S' [21, 22] ∧ ∀ j, j < 20 → S'.1 21 j = S.1 29 j ∧ S'.1 22 j = S.1 30 j := by
  refine for_up (F := fun n i s => jSuppers_become_19_27_h60 n (nI i) s) (N := 20) (I := fun i s => rowsC S s [21, 22] ∧ ∀ j, j < i → s.1 21 j = S.1 29 j ∧ s.1 22 j = S.1 30 j) _ ?_ ?_ (i := 0) (s := S) (Nat.zero_le _) ⟨rowsC.rf, fun j h => by omega⟩ (n := FU) (by decide)
  · intro n i s hi ⟨hI, hJ⟩
    right
    rw [jSuppers_become_19_27_h60, jSuppers_become_19_27_b60, z20, if_neg (nI_ge hi (by decide)), px_ld hi (by decide), px_gd hi (by decide), px_lt, nI_clamp (by omega), px_ld hi (by decide), px_gd hi (by decide), px_lt, upI_row (by decide), hI.1 29 (by decide), hI.1 30 (by decide), z1, nI_add]
    refine ⟨_, rfl, (hI.up (by decide)).up (by decide), fun j hj => ?_⟩
    by_cases e : j = i
    · subst e
      rw [upI_row (by decide), upI_hit, upI_hit]
      exact ⟨rfl, rfl⟩
    · rw [upI_row (by decide), upI_off e, upI_off e, upI_row (by decide)]
      exact hJ j (by omega)
  · intro n s h
    rw [jSuppers_become_19_27_h60, jSuppers_become_19_27_b60, z20, if_pos (nI_le (Nat.le_refl _) (by decide))]
    exact ⟨_, rfl, h⟩
theorem jSuppers_become_19_27_l1 (S : St) : ∃ S', jSuppers_become_19_27_h34 FU 0 S = some S' ∧ rowsC S S' [20, 21, 22] ∧ (∀ j, j < 30 → S'.1 20 j = S.1 28 j) ∧ ∀ j, j < 20 → S'.1 21 j = S.1 29 j ∧ S'.1 22 j = S.1 30 j := by
  refine for_up (F := fun n i s => jSuppers_become_19_27_h34 n (nI i) s) (N := 30) (I := fun i s => rowsC S s [20] ∧ ∀ j, j < i → s.1 20 j = S.1 28 j) _ ?_ ?_ (i := 0) (s := S) (Nat.zero_le _) ⟨rowsC.rf, fun j h => by omega⟩ (n := FU) (by decide)
  · intro n i s hi ⟨hI, hJ⟩
    right
    rw [jSuppers_become_19_27_h34, jSuppers_become_19_27_b34, z30, if_neg (nI_ge hi (by decide)), px_ld hi (by decide), px_gd hi (by decide), px_lt, nI_clamp (by omega), hI.1 28 (by decide), z1, nI_add]
    refine ⟨_, rfl, hI.up (by decide), fun j hj => ?_⟩
    by_cases e : j = i
    · subst e
      rw [upI_hit]
    · rw [upI_off e]
      exact hJ j (by omega)
  · intro n s ⟨hI, hJ⟩
    rw [jSuppers_become_19_27_h34, jSuppers_become_19_27_b34, z30, if_pos (nI_le (Nat.le_refl _) (by decide))]
    obtain ⟨S', e, h1, h2⟩ := jSuppers_become_19_27_l2 s
    refine ⟨S', e, ⟨fun r hr => ?_, h1.2.trans hI.2⟩, fun j hj => ?_, fun j hj => ?_⟩
    · rw [h1.1 r (fun z => hr (by simp at z ⊢; omega)), hI.1 r (fun z => hr (by simp at z ⊢; omega))]
    · rw [h1.1 20 (by decide)]; exact hJ j hj
    · rw [(h2 j hj).1, (h2 j hj).2, hI.1 29 (by decide), hI.1 30 (by decide)]; exact ⟨rfl, rfl⟩
theorem jSuppers_become_19_27_sp (S : St) {nh : Nat} {P : Sp} (hs : CSp 27 nh P S) (hn : nh ≤ 6) (hp : P.np ≤ 20) : ∃ S', jSuppers_become_19_27 S = some S' ∧ rowsC S S' [19, 20, 21, 22] ∧ CSp 19 nh P S' ∧ S'.1 19 7 = S.1 19 7 := by
  unfold jSuppers_become_19_27
  rw [px_lt, px_lt, px_lt, px_lt, upI_row (by decide), upI_row (by decide), upI_row (by decide), upI_row (by decide), upI_row (by decide), upI_row (by decide)]
  obtain ⟨S', e, h1, h2, h3⟩ := jSuppers_become_19_27_l1 (upI (upI (upI (upI S 19 3 (S.1 27 3)) 19 4 (S.1 27 4)) 19 5 (S.1 27 5)) 19 6 (S.1 27 6))
  obtain ⟨a1, a2, a3, a4, a5, a6⟩ := hs
  have r0 : ∀ j, S'.1 19 j = (upI (upI (upI (upI S 19 3 (S.1 27 3)) 19 4 (S.1 27 4)) 19 5 (S.1 27 5)) 19 6 (S.1 27 6)).1 19 j := fun j => by rw [h1.1 19 (by decide)]
  refine ⟨S', e, ⟨fun r hr => ?_, h1.2⟩, ⟨?_, ?_, ?_, ?_, fun h hh k hk => ?_, fun j hj => ?_⟩, ?_⟩
  · rw [h1.1 r (fun z => hr (by simp at z ⊢; omega)), upI_o r (fun z => hr (by simp; omega)), upI_o r (fun z => hr (by simp; omega)), upI_o r (fun z => hr (by simp; omega)), upI_o r (fun z => hr (by simp; omega))]
  · rw [r0, upI_off (by decide), upI_off (by decide), upI_off (by decide), upI_hit]; exact a1
  · rw [r0, upI_off (by decide), upI_off (by decide), upI_hit]; exact a2
  · rw [r0, upI_off (by decide), upI_hit]; exact a3
  · rw [r0, upI_hit]; exact a4
  · show S'.1 20 (h * 5 + k) = _
    rw [h2 _ (by omega), upI_row (by decide), upI_row (by decide), upI_row (by decide), upI_row (by decide)]; exact a5 h hh k hk
  · show S'.1 21 j = _ ∧ S'.1 22 j = _
    rw [(h3 j (by omega)).1, (h3 j (by omega)).2]
    rw [upI_row (by decide), upI_row (by decide), upI_row (by decide), upI_row (by decide), upI_row (by decide), upI_row (by decide), upI_row (by decide), upI_row (by decide)]
    exact a6 j hj
  · rw [r0, upI_off (by decide), upI_off (by decide), upI_off (by decide), upI_off (by decide)]
theorem jSuppers_become_19_9_l2 (S : St) : ∃ S', jSuppers_become_19_9_h60 FU 0 S = some S' ∧ rowsC S S' [21, 22] ∧ ∀ j, j < 20 → S'.1 21 j = S.1 11 j ∧ S'.1 22 j = S.1 12 j := by
  refine for_up (F := fun n i s => jSuppers_become_19_9_h60 n (nI i) s) (N := 20) (I := fun i s => rowsC S s [21, 22] ∧ ∀ j, j < i → s.1 21 j = S.1 11 j ∧ s.1 22 j = S.1 12 j) _ ?_ ?_ (i := 0) (s := S) (Nat.zero_le _) ⟨rowsC.rf, fun j h => by omega⟩ (n := FU) (by decide)
  · intro n i s hi ⟨hI, hJ⟩
    right
    rw [jSuppers_become_19_9_h60, jSuppers_become_19_9_b60, z20, if_neg (nI_ge hi (by decide)), px_ld hi (by decide), px_gd hi (by decide), px_lt, nI_clamp (by omega), px_ld hi (by decide), px_gd hi (by decide), px_lt, upI_row (by decide), hI.1 11 (by decide), hI.1 12 (by decide), z1, nI_add]
    refine ⟨_, rfl, (hI.up (by decide)).up (by decide), fun j hj => ?_⟩
    by_cases e : j = i
    · subst e
      rw [upI_row (by decide), upI_hit, upI_hit]
      exact ⟨rfl, rfl⟩
    · rw [upI_row (by decide), upI_off e, upI_off e, upI_row (by decide)]
      exact hJ j (by omega)
  · intro n s h
    rw [jSuppers_become_19_9_h60, jSuppers_become_19_9_b60, z20, if_pos (nI_le (Nat.le_refl _) (by decide))]
    exact ⟨_, rfl, h⟩
theorem jSuppers_become_19_9_l1 (S : St) : ∃ S', jSuppers_become_19_9_h34 FU 0 S = some S' ∧ rowsC S S' [20, 21, 22] ∧ (∀ j, j < 30 → S'.1 20 j = S.1 10 j) ∧ ∀ j, j < 20 → S'.1 21 j = S.1 11 j ∧ S'.1 22 j = S.1 12 j := by
  refine for_up (F := fun n i s => jSuppers_become_19_9_h34 n (nI i) s) (N := 30) (I := fun i s => rowsC S s [20] ∧ ∀ j, j < i → s.1 20 j = S.1 10 j) _ ?_ ?_ (i := 0) (s := S) (Nat.zero_le _) ⟨rowsC.rf, fun j h => by omega⟩ (n := FU) (by decide)
  · intro n i s hi ⟨hI, hJ⟩
    right
    rw [jSuppers_become_19_9_h34, jSuppers_become_19_9_b34, z30, if_neg (nI_ge hi (by decide)), px_ld hi (by decide), px_gd hi (by decide), px_lt, nI_clamp (by omega), hI.1 10 (by decide), z1, nI_add]
    refine ⟨_, rfl, hI.up (by decide), fun j hj => ?_⟩
    by_cases e : j = i
    · subst e
      rw [upI_hit]
    · rw [upI_off e]
      exact hJ j (by omega)
  · intro n s ⟨hI, hJ⟩
    rw [jSuppers_become_19_9_h34, jSuppers_become_19_9_b34, z30, if_pos (nI_le (Nat.le_refl _) (by decide))]
    obtain ⟨S', e, h1, h2⟩ := jSuppers_become_19_9_l2 s
    refine ⟨S', e, ⟨fun r hr => ?_, h1.2.trans hI.2⟩, fun j hj => ?_, fun j hj => ?_⟩
    · rw [h1.1 r (fun z => hr (by simp at z ⊢; omega)), hI.1 r (fun z => hr (by simp at z ⊢; omega))]
    · rw [h1.1 20 (by decide)]; exact hJ j hj
    · rw [(h2 j hj).1, (h2 j hj).2, hI.1 11 (by decide), hI.1 12 (by decide)]; exact ⟨rfl, rfl⟩
theorem jSuppers_become_19_9_sp (S : St) {nh : Nat} {P : Sp} (hs : CSp 9 nh P S) (hn : nh ≤ 6) (hp : P.np ≤ 20) : ∃ S', jSuppers_become_19_9 S = some S' ∧ rowsC S S' [19, 20, 21, 22] ∧ CSp 19 nh P S' ∧ S'.1 19 7 = S.1 19 7 := by
  unfold jSuppers_become_19_9
  rw [px_lt, px_lt, px_lt, px_lt, upI_row (by decide), upI_row (by decide), upI_row (by decide), upI_row (by decide), upI_row (by decide), upI_row (by decide)]
  obtain ⟨S', e, h1, h2, h3⟩ := jSuppers_become_19_9_l1 (upI (upI (upI (upI S 19 3 (S.1 9 3)) 19 4 (S.1 9 4)) 19 5 (S.1 9 5)) 19 6 (S.1 9 6))
  obtain ⟨a1, a2, a3, a4, a5, a6⟩ := hs
  have r0 : ∀ j, S'.1 19 j = (upI (upI (upI (upI S 19 3 (S.1 9 3)) 19 4 (S.1 9 4)) 19 5 (S.1 9 5)) 19 6 (S.1 9 6)).1 19 j := fun j => by rw [h1.1 19 (by decide)]
  refine ⟨S', e, ⟨fun r hr => ?_, h1.2⟩, ⟨?_, ?_, ?_, ?_, fun h hh k hk => ?_, fun j hj => ?_⟩, ?_⟩
  · rw [h1.1 r (fun z => hr (by simp at z ⊢; omega)), upI_o r (fun z => hr (by simp; omega)), upI_o r (fun z => hr (by simp; omega)), upI_o r (fun z => hr (by simp; omega)), upI_o r (fun z => hr (by simp; omega))]
  · rw [r0, upI_off (by decide), upI_off (by decide), upI_off (by decide), upI_hit]; exact a1
  · rw [r0, upI_off (by decide), upI_off (by decide), upI_hit]; exact a2
  · rw [r0, upI_off (by decide), upI_hit]; exact a3
  · rw [r0, upI_hit]; exact a4
  · show S'.1 20 (h * 5 + k) = _
    rw [h2 _ (by omega), upI_row (by decide), upI_row (by decide), upI_row (by decide), upI_row (by decide)]; exact a5 h hh k hk
  · show S'.1 21 j = _ ∧ S'.1 22 j = _
    rw [(h3 j (by omega)).1, (h3 j (by omega)).2]
    rw [upI_row (by decide), upI_row (by decide), upI_row (by decide), upI_row (by decide), upI_row (by decide), upI_row (by decide), upI_row (by decide), upI_row (by decide)]
    exact a6 j hj
  · rw [r0, upI_off (by decide), upI_off (by decide), upI_off (by decide), upI_off (by decide)]
theorem copy_ok {a b : Nat} (M : St) (ha : a + 73 ≤ 219) (hb : b + 73 ≤ 219) (hab : a + 73 ≤ b ∨ b + 73 ≤ a) : ∃ M', jMod_copy (nI a) (nI b) M = some M' ∧ rowsC M M' [9] ∧ (∀ j, j < 73 → M'.1 9 (b + j) = M.1 9 (a + j)) ∧ ∀ j, j < b ∨ b + 73 ≤ j → M'.1 9 j = M.1 9 j := by
  refine for_up (F := fun n i s => jMod_copy_h2 n (nI a) (nI b) (nI i) s) (N := 73) (I := fun i s => rowsC M s [9] ∧ (∀ j, j < i → s.1 9 (b + j) = M.1 9 (a + j)) ∧ ∀ j, j < b ∨ b + 73 ≤ j → s.1 9 j = M.1 9 j) _ ?_ ?_ (i := 0) (s := M) (Nat.zero_le _) ⟨rowsC.rf, fun j h => by omega, fun _ _ => rfl⟩ (n := FU) (by decide)
  · intro n i s hi ⟨hI, hJ, hO⟩
    right
    rw [jMod_copy_h2, jMod_copy_b2, z73, if_neg (nI_ge hi (by decide)), nI_add, px_ld (by omega) (by omega), nI_add, px_gd (by omega) (by omega), px_lt, nI_clamp (by omega), hO (a + i) (by omega), z1, nI_add]
    refine ⟨_, rfl, hI.up (by decide), fun j hj => ?_, fun j hj => ?_⟩
    · by_cases e : j = i
      · subst e; rw [upI_hit]
      · rw [upI_off (by omega)]; exact hJ j (by omega)
    · rw [upI_off (by omega)]; exact hO j hj
  · intro n s h
    rw [jMod_copy_h2, jMod_copy_b2, z73, if_pos (nI_le (Nat.le_refl _) (by decide))]
    exact ⟨_, rfl, h⟩
abbrev Gh.setImg (g : Gh) (i : Nat) (o : Option Sp) : Gh := (g.1, g.2.1, g.2.2.1, g.2.2.2.1, (fun j => if j = i then o else g.img j), g.tr)
def sKeep (g : Gh) (x : Int32) : Int32 × Gh := if rg x 2 then (nI g.now.np, g.setImg x.toNatClampNeg (some g.now)) else (-1, g)
theorem rows_at {S S' : St} {X : List Nat} (h : rowsC S S' X) {r : Nat} (hr : r ∉ X) (j : Nat) : S'.1 r j = S.1 r j := congrFun (h.1 r hr) j
theorem CSp.kept {k nh : Nat} {P : Sp} {S S' : St} (h : CSp k nh P S) (h1 : ∀ r, k ≤ r ∧ r ≤ k + 3 → S'.1 r = S.1 r) : CSp k nh P S' := by
  unfold CSp at *
  rw [h1 k (by omega), h1 (k + 1) (by omega), h1 (k + 2) (by omega), h1 (k + 3) (by omega)]
  exact h
theorem CIm.kept {k nh : Nat} {o : Option Sp} {S S' : St} (h : CIm k nh o S) (h1 : ∀ r, k ≤ r ∧ r ≤ k + 3 → S'.1 r = S.1 r) : CIm k nh o S' := by
  cases o with
  | none => exact (congrFun (h1 k (by omega)) 7).trans h
  | some P => exact ⟨(congrFun (h1 k (by omega)) 7).trans h.1, h.2.kept h1⟩
theorem c_keep {g : Gh} {S : St} (hr : CR g S) (hw : WG g) (x : Int32) : COk (sKeep g x).2 (sKeep g x).1 (jSmoke_keep x S) := by
  unfold jSmoke_keep sKeep
  obtain ⟨q1, q2, q3, q4, q5, q6, q7⟩ := hr
  by_cases q : rg x 2
  · rw [if_pos q]
    obtain ⟨j, hj, rfl⟩ := rg_of q (by omega)
    rw [if_neg (nI_pos (by omega)), z2, if_pos (nI_lt hj (by omega)), nI_clamp (by omega)]
    unfold jSmoke_imageOf
    rcases (by omega : j = 0 ∨ j = 1) with rfl | rfl
    · rw [if_pos (show nI 0 = 0 from rfl), px_bd, if_pos rfl]
      obtain ⟨S', e, h1, h2, h3⟩ := jSuppers_become_23_19_sp S q4 hw.nh hw.sp.2.1
      rw [e, px_bv, px_lt, upI_off (by decide), h2.2.1]
      refine ⟨_, rfl, ?_, fun j hj => ?_, q3.rows (fun r hr => ?_), q4.kept (fun r hr => ?_), ⟨by rw [upI_hit], ?_⟩, q6.kept (fun r hr => ?_), ?_⟩
      · rw [upI_row (by decide), rows_at h1 (by decide)]; exact q1
      · rw [upI_row (by decide), rows_at h1 (by decide)]; exact q2 j hj
      · rw [upI_o r (by omega), h1.1 r (by simp; omega)]
      · rw [upI_o r (by omega), h1.1 r (by simp; omega)]
      · obtain ⟨a1, a2, a3, a4, a5, a6⟩ := h2
        exact ⟨by rw [upI_off (by decide)]; exact a1, by rw [upI_off (by decide)]; exact a2, by rw [upI_off (by decide)]; exact a3, by rw [upI_off (by decide)]; exact a4, fun h hh k hk => by rw [upI_row (by decide)]; exact a5 h hh k hk, fun j hj => by rw [upI_row (by decide), upI_row (by decide)]; exact a6 j hj⟩
      · rw [upI_o r (by omega), h1.1 r (by simp; omega)]
      · show S'.2 0 9 = _; rw [h1.2]; exact q7
    · rw [if_neg (show ¬ nI 1 = 0 from by decide), px_bd, if_neg (by decide), if_pos rfl]
      obtain ⟨S', e, h1, h2, h3⟩ := jSuppers_become_27_19_sp S q4 hw.nh hw.sp.2.1
      rw [e, px_bv, px_lt, upI_off (by decide), h2.2.1]
      refine ⟨_, rfl, ?_, fun j hj => ?_, q3.rows (fun r hr => ?_), q4.kept (fun r hr => ?_), q5.kept (fun r hr => ?_), ⟨by rw [upI_hit], ?_⟩, ?_⟩
      · rw [upI_row (by decide), rows_at h1 (by decide)]; exact q1
      · rw [upI_row (by decide), rows_at h1 (by decide)]; exact q2 j hj
      · rw [upI_o r (by omega), h1.1 r (by simp; omega)]
      · rw [upI_o r (by omega), h1.1 r (by simp; omega)]
      · rw [upI_o r (by omega), h1.1 r (by simp; omega)]
      · obtain ⟨a1, a2, a3, a4, a5, a6⟩ := h2
        exact ⟨by rw [upI_off (by decide)]; exact a1, by rw [upI_off (by decide)]; exact a2, by rw [upI_off (by decide)]; exact a3, by rw [upI_off (by decide)]; exact a4, fun h hh k hk => by rw [upI_row (by decide)]; exact a5 h hh k hk, fun j hj => by rw [upI_row (by decide), upI_row (by decide)]; exact a6 j hj⟩
      · show S'.2 0 9 = _; rw [h1.2]; exact q7
  · rw [if_neg q]
    rcases rg_no q with z | z
    · rw [if_pos z]; exact ⟨_, rfl, q1, q2, q3, q4, q5, q6, q7⟩
    · rw [if_neg (fun q => absurd (Int32.lt_of_le_of_lt z q) (by decide)), z2, if_neg (i_nlt.mpr z)]
      exact ⟨_, rfl, q1, q2, q3, q4, q5, q6, q7⟩
theorem MSp.at {b c nh : Nat} {P : Sp} {M M' : St} (h : MSp b nh P M) (hn : nh ≤ 6) (hp : P.np ≤ 20) (e : ∀ j, j < 73 → M'.1 9 (c + j) = M.1 9 (b + j)) : MSp c nh P M' := by
  obtain ⟨a1, a2, a3, a4, a5⟩ := h
  exact ⟨by rw [e _ (by omega)]; exact a1, by rw [e _ (by omega)]; exact a2, by rw [e _ (by omega)]; exact a3, fun h hh k hk => by rw [e _ (by omega)]; exact a4 h hh k hk, fun j hj => by rw [e _ (by omega), e _ (by omega)]; exact a5 j hj⟩
theorem m_keep {g : Gh} {M : St} (hr : MR g M) (hw : WG g) (x : Int32) : MOk (sKeep g x).2 (sKeep g x).1 (jMod_keep x M) := by
  unfold jMod_keep sKeep
  obtain ⟨q1, q2, q3, q4, q5, q6, q7, q8, q9⟩ := hr
  by_cases q : rg x 2
  · rw [if_pos q]
    obtain ⟨j, hj, rfl⟩ := rg_of q (by omega)
    rw [z1, in0_t (by omega) (by omega), px_bd, if_neg (show ¬ (1 : Int32) = 0 from by decide), nI_clamp (by omega), z73, nI_add, nI_mul, z0]
    obtain ⟨M', e, h1, h2, h3⟩ := copy_ok (a := 0) (b := 73 * (1 + j)) M (by omega) (by omega) (by omega)
    have a1 : M'.1 9 32 = nI g.now.np := by rw [h3 32 (by omega)]; exact q6.1
    rw [e, px_bv, px_gd (by omega) (by omega), px_lt, z32, px_ld (by omega) (by omega), upI_row (by decide), a1]
    have hrow : ∀ r, r ≠ 9 → r ≠ 10 → (upI M' 10 j (vp_nar .boolean (nI 1))).1 r = M.1 r := fun r h9 h10 => by rw [upI_o r h10, h1.1 r (by simp; omega)]
    have hj1 : MSp (73 * (1 + j)) g.nh g.now (upI M' 10 j (vp_nar .boolean (nI 1))) := q6.at hw.nh hw.sp.2.1 (fun k hk => by rw [upI_row (by decide)]; exact h2 k hk)
    have hn : MSp 0 g.nh g.now (upI M' 10 j (vp_nar .boolean (nI 1))) := q6.at hw.nh hw.sp.2.1 (fun k hk => by rw [upI_row (by decide)]; exact h3 _ (by omega))
    have him : ∀ i, i < 2 → i ≠ j → ∀ {o : Option Sp}, (∀ P, o = some P → P.np ≤ 20) → MIm i g.nh o M → MIm i g.nh o (upI M' 10 j (vp_nar .boolean (nI 1))) := by
      intro i hi hij o ho h
      have e10 : (upI M' 10 j (vp_nar .boolean (nI 1))).1 10 i = M.1 10 i := by rw [upI_off hij, h1.1 10 (by decide)]
      cases o with
      | none => exact e10.trans h
      | some P => exact ⟨e10.trans h.1, h.2.at hw.nh (ho P rfl) (fun k hk => by rw [upI_row (by decide)]; exact h3 _ (by omega))⟩
    refine ⟨_, rfl, ?_, fun j hj => ?_, ?_, ?_, ?_, hn, ?_, ?_, ?_⟩
    · rw [hrow 0 (by decide) (by decide)]; exact q1
    · rw [hrow 1 (by decide) (by decide)]; exact q2 j hj
    · rw [hrow 4 (by decide) (by decide)]; exact q3
    · unfold MMn at *
      rw [hrow 5 (by decide) (by decide), hrow 6 (by decide) (by decide), hrow 7 (by decide) (by decide)]; exact q4
    · rw [hrow 2 (by decide) (by decide)]; exact q5
    · show MIm 0 g.nh (if 0 = j then some g.now else g.img 0) _
      by_cases e : 0 = j
      · subst e; rw [if_pos rfl]; exact ⟨by rw [upI_hit]; rfl, hj1⟩
      · rw [if_neg e]; exact him 0 (by omega) e (fun P h => (hw.2.2.2.2.2 0 P h).2.1) q7
    · show MIm 1 g.nh (if 1 = j then some g.now else g.img 1) _
      by_cases e : 1 = j
      · subst e; rw [if_pos rfl]; exact ⟨by rw [upI_hit]; rfl, hj1⟩
      · rw [if_neg e]; exact him 1 (by omega) e (fun P h => (hw.2.2.2.2.2 1 P h).2.1) q8
    · show M'.2 0 0 = _; rw [h1.2]; exact q9
  · rw [if_neg q, z1, in0_f q (by omega), px_bd, if_pos rfl]
    exact ⟨_, rfl, q1, q2, q3, q4, q5, q6, q7, q8, q9⟩
theorem w_keep {g : Gh} (hw : WG g) (x : Int32) : WG (sKeep g x).2 := by
  unfold sKeep
  by_cases q : rg x 2
  · rw [if_pos q]
    obtain ⟨a1, a2, a3, a4, a5, a6⟩ := hw
    refine ⟨a1, a2, a3, a4, a5, fun i P h => ?_⟩
    have h : (if i = x.toNatClampNeg then some g.now else g.img i) = some P := h
    by_cases e : i = x.toNatClampNeg
    · rw [if_pos e] at h; cases h; exact a5
    · rw [if_neg e] at h; exact a6 i P h
  · rw [if_neg q]; exact hw
def sBack (g : Gh) (x : Int32) : Int32 × Gh := if rg x 2 then (match g.img x.toNatClampNeg with
  | none => (-2, g)
  | some P => (nI P.np, g.setNow P)) else (-1, g)
theorem c_back {g : Gh} {S : St} (hr : CR g S) (hw : WG g) (x : Int32) : COk (sBack g x).2 (sBack g x).1 (jSmoke_back x S) := by
  unfold jSmoke_back sBack
  by_cases q : rg x 2
  · rw [if_pos q]
    obtain ⟨j, hj, rfl⟩ := rg_of q (by omega)
    rw [if_neg (nI_pos (by omega)), z2, if_pos (nI_lt hj (by omega)), nI_clamp (by omega)]
    unfold jSmoke_imageOf
    rcases (by omega : j = 0 ∨ j = 1) with rfl | rfl
    · rw [if_pos (show nI 0 = 0 from rfl), px_bd, if_pos rfl]
      have h5 := hr.2.2.2.2.1
      have h6 := hw.2.2.2.2.2 0
      cases hi : g.img 0 with
      | none =>
        rw [hi] at h5
        rw [if_pos (show S.1 23 7 = 0 from h5)]
        exact ⟨_, rfl, hr⟩
      | some P =>
        rw [hi] at h5
        obtain ⟨b1, b2, b3, b4⟩ := h6 P hi
        rw [if_neg (fun z => absurd (h5.1.symm.trans z) (by decide))]
        obtain ⟨S', e, h1, h2, h3⟩ := jSuppers_become_19_23_sp S h5.2 hw.nh b2
        rw [e, px_bv, h2.2.1]
        exact ⟨_, rfl, hr.setSp (fun r hr' => h1.1 r (by simp; omega)) (congrFun h1.2 0) h2⟩
    · rw [if_neg (show ¬ nI 1 = 0 from by decide), px_bd, if_neg (by decide), if_pos rfl]
      have h5 := hr.2.2.2.2.2.1
      have h6 := hw.2.2.2.2.2 1
      cases hi : g.img 1 with
      | none =>
        rw [hi] at h5
        rw [if_pos (show S.1 27 7 = 0 from h5)]
        exact ⟨_, rfl, hr⟩
      | some P =>
        rw [hi] at h5
        obtain ⟨b1, b2, b3, b4⟩ := h6 P hi
        rw [if_neg (fun z => absurd (h5.1.symm.trans z) (by decide))]
        obtain ⟨S', e, h1, h2, h3⟩ := jSuppers_become_19_27_sp S h5.2 hw.nh b2
        rw [e, px_bv, h2.2.1]
        exact ⟨_, rfl, hr.setSp (fun r hr' => h1.1 r (by simp; omega)) (congrFun h1.2 0) h2⟩
  · rw [if_neg q]
    rcases rg_no q with z | z
    · rw [if_pos z]; exact ⟨_, rfl, hr⟩
    · rw [if_neg (fun q => absurd (Int32.lt_of_le_of_lt z q) (by decide)), z2, if_neg (i_nlt.mpr z)]
      exact ⟨_, rfl, hr⟩
theorem m_back {g : Gh} {M : St} (hr : MR g M) (hw : WG g) (x : Int32) : MOk (sBack g x).2 (sBack g x).1 (jMod_back x M) := by
  unfold jMod_back sBack
  by_cases q : rg x 2
  · rw [if_pos q]
    obtain ⟨j, hj, rfl⟩ := rg_of q (by omega)
    rw [z1, in0_t (by omega) (by omega), px_bd, if_neg (show ¬ (1 : Int32) = 0 from by decide), nI_clamp (by omega), px_ld (by omega) (by omega)]
    have key : MIm j g.nh (g.img j) M := by
      rcases (by omega : j = 0 ∨ j = 1) with rfl | rfl
      · exact hr.2.2.2.2.2.2.1
      · exact hr.2.2.2.2.2.2.2.1
    have h6 := hw.2.2.2.2.2 j
    cases hi : g.img j with
    | none =>
      rw [hi] at key
      rw [if_pos (show M.1 10 j = 0 from key)]
      exact ⟨_, rfl, hr⟩
    | some P =>
      rw [hi] at key
      obtain ⟨b1, b2, b3, b4⟩ := h6 P hi
      rw [if_neg (fun z => absurd (key.1.symm.trans z) (by decide)), z73, nI_add, nI_mul, z0]
      obtain ⟨M', e, h1, h2, h3⟩ := copy_ok (a := 73 * (1 + j)) (b := 0) M (by omega) (by omega) (by omega)
      have hp : MSp 0 g.nh P M' := key.2.at hw.nh b2 h2
      have a1 : M'.1 9 32 = nI P.np := hp.1
      rw [e, px_bv, z32, px_ld (by omega) (by omega), a1]
      exact ⟨_, rfl, hr.setSp (fun r h9 h10 => h1.1 r (by simp; omega)) (fun k hk => h3 k (by omega)) (congrFun h1.2 0) hp⟩
  · rw [if_neg q, z1, in0_f q (by omega), px_bd, if_pos rfl]
    exact ⟨_, rfl, hr⟩
theorem w_back {g : Gh} (hw : WG g) (x : Int32) : WG (sBack g x).2 := by
  unfold sBack
  by_cases q : rg x 2
  · rw [if_pos q]
    cases hi : g.img x.toNatClampNeg with
    | none => exact hw
    | some P => exact hw.setSp (hw.2.2.2.2.2 _ P hi)
  · rw [if_neg q]; exact hw
