/-! THE LAW: from its entry -/
theorem pl {D : va_G} {cl : List vw_C} {w1 w2 : va_W} {H : Heap} (h : va_P D cl (w1 ++ w2) H) : va_P D cl w1 H := fun k x hx => h k x (by rw [List.getElem?_append_left (List.getElem?_eq_some_iff.mp hx).1]; exact hx)
theorem pr {D : va_G} {cl : List vw_C} {w1 w2 : va_W} {H : Heap} (h : va_P D cl (w1 ++ w2) H) : va_P D cl w2 H := fun k x hx => h (w1.length + k) x (by rw [List.getElem?_append_right (by omega), Nat.add_sub_cancel_left]; exact hx)
theorem at_l {w1 w2 : va_W} {k : Nat} {x : Nat × va_E} (hx : w1[k]? = some x) : (w1 ++ w2)[k]? = some x := by rw [List.getElem?_append_left (List.getElem?_eq_some_iff.mp hx).1]; exact hx
theorem at_r {w1 w2 : va_W} {k : Nat} {x : Nat × va_E} (hx : w2[k]? = some x) : (w1 ++ w2)[w1.length + k]? = some x := by rw [List.getElem?_append_right (by omega), Nat.add_sub_cancel_left]; exact hx
theorem dl {A : Nat → Prop} {w1 w2 : va_W} (h : va_D A (w1 ++ w2)) : va_D A w1 := ⟨fun i j x y hi hj e => h.1 i j x y (at_l hi) (at_l hj) e, fun k x hx => h.2 k x (at_l hx)⟩
theorem dr {A : Nat → Prop} {w1 w2 : va_W} (h : va_D A (w1 ++ w2)) : va_D A w2 := ⟨fun i j x y hi hj e => by have := h.1 _ _ x y (at_r (w1 := w1) hi) (at_r (w1 := w1) hj) e; omega, fun k x hx => h.2 _ x (at_r (w1 := w1) hx)⟩
theorem dx {A : Nat → Prop} {N1 N2 : Nat} {c1 c2 : Cf} {q1 q2 : Nat → Nat} {S1 S2 : St} (h : va_D A (wsOf N1 c1 q1 S1 ++ wsOf N2 c2 q2 S2)) : ∀ i j, i < N1 → j < N2 → q1 i ≠ q2 j := fun i j hi hj e => by
  have := h.1 i ((wsOf N1 c1 q1 S1).length + j) _ _ (at_l (wsOf_at hi)) (at_r (wsOf_at hj)) e
  rw [wsOf_len] at this
  omega
theorem an_array {args : Array Value} {s : State} {ty : FieldType} (h : (Cond.arrayClass ty).before args s = true) : ∃ cA, ArrOfT s cA ty ∧ s.vm.findClass ("[" ++ ty.toString) = some cA := by
  obtain ⟨cA, kA, comp, h1, h2, h3⟩ := Cond.arrayClass_spec (args := args) (first := s) (o := none) (s := s) (idx := []) h
  exact ⟨cA, fun n z => ⟨fun k h => (by cases h), kA, h2, comp, h3⟩, h1⟩
def tmS (i : Nat) : Term := Term.string "SmokeTalk$Text" (match i with
  | 0 => 48
  | 1 => 54
  | _ => 56)
theorem lwi {w : Cond} (i : Nat) (h : lw_tbl[i]? = some w) : w ∈ lw_tbl := List.mem_of_getElem? h
set_option maxHeartbeats 4000000 in
set_option maxRecDepth 100000 in
/-- the texts and statics that the class reads -/
theorem exC_start {s : State} {b : Nat} (hts : ∀ w ∈ lw_tbl, w.before #[Value.ref b] s = true) (hgv : (Jvm.Cond.and given_1 narrow_1).before #[Value.ref b] s = true) : ∃ aK aV : Nat → Nat, ExC aK aV (AL s) s s.heap := by
  have hs := flat_of_before _ hgv
  have hA : ∀ a : Nat, a < s.heap.size → ¬ AL s a := fun a h => Nat.not_le.mpr h
  obtain ⟨aK, aV, hV, hk⟩ := vk_Sof (s := s) (args := #[Value.ref b]) (N := 3) (tm := tmS) (len := lenS) (byt := bytS) (A := AL s)
    (fun i hi => by
      match i, hi with
      | 0, _ => decide
      | 1, _ => decide
      | 2, _ => decide)
    (fun i hi => by
      match i, hi with
      | 0, _ => exact hs _ (by decide +kernel)
      | 1, _ => exact hs _ (by decide +kernel)
      | 2, _ => exact hs _ (by decide +kernel))
    (fun i hi => by
      match i, hi with
      | 0, _ => exact hs _ (by decide +kernel)
      | 1, _ => exact hs _ (by decide +kernel)
      | 2, _ => exact hs _ (by decide +kernel))
    (fun i hi => by
      match i, hi with
      | 0, _ => exact hs _ (by decide +kernel)
      | 1, _ => exact hs _ (by decide +kernel)
      | 2, _ => exact hs _ (by decide +kernel))
    (fun i hi => by
      match i, hi with
      | 0, _ => exact hs _ (by decide +kernel)
      | 1, _ => exact hs _ (by decide +kernel)
      | 2, _ => exact hs _ (by decide +kernel))
    (fun i hi j hj => by
      match i, hi with
      | 0, _ =>
        have hj : j < 5 := hj
        match j, hj with
        | 0, _ => exact hs _ (by decide +kernel)
        | 1, _ => exact hs _ (by decide +kernel)
        | 2, _ => exact hs _ (by decide +kernel)
        | 3, _ => exact hs _ (by decide +kernel)
        | 4, _ => exact hs _ (by decide +kernel)
      | 1, _ =>
        have hj : j < 4 := hj
        match j, hj with
        | 0, _ => exact hs _ (by decide +kernel)
        | 1, _ => exact hs _ (by decide +kernel)
        | 2, _ => exact hs _ (by decide +kernel)
        | 3, _ => exact hs _ (by decide +kernel)
      | 2, _ =>
        have hj : j < 3 := hj
        match j, hj with
        | 0, _ => exact hs _ (by decide +kernel)
        | 1, _ => exact hs _ (by decide +kernel)
        | 2, _ => exact hs _ (by decide +kernel))
    (fun i j hi hj hij => by
      match i, j, hi, hj with
      | 0, 0, _, _ => exact absurd rfl hij
      | 0, 1, _, _ => exact Or.inl (hs _ (by decide +kernel))
      | 0, 2, _, _ => exact Or.inl (hs _ (by decide +kernel))
      | 1, 0, _, _ => exact Or.inr (hs _ (by decide +kernel))
      | 1, 1, _, _ => exact absurd rfl hij
      | 1, 2, _, _ => exact Or.inl (hs _ (by decide +kernel))
      | 2, 0, _, _ => exact Or.inr (hs _ (by decide +kernel))
      | 2, 1, _, _ => exact Or.inr (hs _ (by decide +kernel))
      | 2, 2, _, _ => exact absurd rfl hij) hA
  refine ⟨aK, aV, hV, ?_, ?_, ?_, ?_, ?_, ?_⟩
  · exact va_Zof (args := #[Value.ref b]) (hts _ (lwi 317 (by decide +kernel))) (hts _ (UU_in _ u46)) (va_eqt (hs (Cond.eq (Term.static "java/lang/String" "COMPACT_STRINGS" "Z") (.int 1)) (by decide +kernel))) hA
  · exact va_Zqof (args := #[Value.ref b]) (hts _ (lwi 333 (by decide +kernel))) (hts _ (UU_in _ u48)) (hs _ (by decide +kernel)) hA
  · exact vk_R.of (A := #[Value.ref b]) (hts _ (lwi 303 (by decide +kernel))) (hk 0 (by decide))
  · exact vk_R.of (A := #[Value.ref b]) (hts _ (lwi 356 (by decide +kernel))) (hk 1 (by decide))
  · exact vk_R.of (A := #[Value.ref b]) (hts _ (lwi 357 (by decide +kernel))) (hk 2 (by decide))
  · exact va_Nw.of (A := #[Value.ref b]) rfl (hts _ (lwi 560 (by decide +kernel)))
