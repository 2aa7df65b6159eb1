section
variable {p : Program} {l : Launch} {e : Env} {s : State} {m : MethodId} {args : Array Value} {below : List Frame} {meth : Method} {c : Code} {D : va_G} {q aK aV : Nat → Nat} {T : Nat → ClassId} {A : Nat → Prop}
set_option maxHeartbeats 4000000 in
theorem jMod_count_b0_ok (B : XB p s m args meth c A cX7_count 2 (some .int) RX7) {SF : St} {r : Int32}  (x1 : Int32) (S : St) {H : Heap} {locs : List Loc} {ls : Array Slot} (hf : jMod_count x1 S = some (r, SF)) (hw : Xw D 17 (cellM T q) q T ExM A s S H locs) (hl : lv_has ls 2 [(0, .ref (q 0)), (1, .int x1)]) : XG p l e ({ frames := 0, cells := 0, slots := 0, locals := 0 }) s m args below meth c D 17 (cellM T q) q T A SF (some (.int r)) H locs 0 ls [] := by
  unfold jMod_count at hf
  obtain ⟨hx, hb, hr, hml, hown, hts, hlk, hA⟩ := id B
  refine lv_iload_n hx hb dX7_count_0 rfl (lv_at hl 1 rfl) ?_
  refine lv_if_ne (tgt := 13) hx hb dX7_count_1 (by decide) (fun hc => ?_) (fun hc => ?_)
  · have hf := x_neg hc hf
    refine lv_iload_n hx hb dX7_count_13 rfl (lv_at hl 1 rfl) ?_
    refine lv_iconst (v := 1) hx hb dX7_count_14 (by decide) ?_
    refine lv_icmp_ne (tgt := 27) hx hb dX7_count_15 (by decide) (fun hc => ?_) (fun hc => ?_)
    · have hf := x_neg hc hf
      refine lv_iload_n hx hb dX7_count_27 rfl (lv_at hl 1 rfl) ?_
      refine lv_iconst (v := 2) hx hb dX7_count_28 (by decide) ?_
      refine lv_icmp_ne (tgt := 42) hx hb dX7_count_29 (by decide) (fun hc => ?_) (fun hc => ?_)
      · have hf := x_neg hc hf
        refine lv_iload_n hx hb dX7_count_42 rfl (lv_at hl 1 rfl) ?_
        refine lv_iconst (v := 3) hx hb dX7_count_43 (by decide) ?_
        refine lv_icmp_ne (tgt := 57) hx hb dX7_count_44 (by decide) (fun hc => ?_) (fun hc => ?_)
        · have hf := x_neg hc hf
          refine lv_iload_n hx hb dX7_count_57 rfl (lv_at hl 1 rfl) ?_
          refine lv_iconst (v := 4) hx hb dX7_count_58 (by decide) ?_
          refine lv_icmp_ne (tgt := 69) hx hb dX7_count_59 (by decide) (fun hc => ?_) (fun hc => ?_)
          · have hf := x_neg hc hf
            refine lv_iconst (v := (-1)) hx hb dX7_count_69 (by decide) ?_
            exact x_iret B hw hf dX7_count_70
          · have hf := x_pos hc hf
            refine lv_aload_n hx hb dX7_count_62 rfl (lv_at hl 0 rfl) ?_
            refine x_get B hw (Tb := TX7) inX7 0 (by decide) rfl rfl 2 (by decide) u692 (fun _ h => h) rfl dX7_count_63 ?_
            refine lv_goto (tgt := 70) hx hb dX7_count_66 (by decide) ?_
            exact x_iret B hw hf dX7_count_70
        · have hf := x_pos hc hf
          refine lv_aload_n hx hb dX7_count_47 rfl (lv_at hl 0 rfl) ?_
          refine x_get B hw (Tb := TX7) inX7 0 (by decide) rfl rfl 16 (by decide) u706 (fun _ h => h) rfl dX7_count_48 ?_
          refine lv_bipush (v := 30) hx hb dX7_count_51 (by decide) ?_
          refine x_iald B hw 9 (by decide) rfl dX7_count_53 hf (fun v1 hf => ?_)
          refine lv_goto (tgt := 70) hx hb dX7_count_54 (by decide) ?_
          exact x_iret B hw hf dX7_count_70
      · have hf := x_pos hc hf
        refine lv_aload_n hx hb dX7_count_32 rfl (lv_at hl 0 rfl) ?_
        refine x_get B hw (Tb := TX7) inX7 0 (by decide) rfl rfl 16 (by decide) u706 (fun _ h => h) rfl dX7_count_33 ?_
        refine lv_bipush (v := 32) hx hb dX7_count_36 (by decide) ?_
        refine x_iald B hw 9 (by decide) rfl dX7_count_38 hf (fun v2 hf => ?_)
        refine lv_goto (tgt := 70) hx hb dX7_count_39 (by decide) ?_
        exact x_iret B hw hf dX7_count_70
    · have hf := x_pos hc hf
      refine lv_aload_n hx hb dX7_count_18 rfl (lv_at hl 0 rfl) ?_
      refine x_get B hw (Tb := TX7) inX7 0 (by decide) rfl rfl 5 (by decide) u695 (fun _ h => h) rfl dX7_count_19 ?_
      refine lv_iconst (v := 0) hx hb dX7_count_22 (by decide) ?_
      refine x_iald B hw 4 (by decide) rfl dX7_count_23 hf (fun v3 hf => ?_)
      refine lv_goto (tgt := 70) hx hb dX7_count_24 (by decide) ?_
      exact x_iret B hw hf dX7_count_70
  · have hf := x_pos hc hf
    refine lv_aload_n hx hb dX7_count_4 rfl (lv_at hl 0 rfl) ?_
    refine x_get B hw (Tb := TX7) inX7 0 (by decide) rfl rfl 3 (by decide) u693 (fun _ h => h) rfl dX7_count_5 ?_
    refine lv_iconst (v := 0) hx hb dX7_count_8 (by decide) ?_
    refine x_iald B hw 2 (by decide) rfl dX7_count_9 hf (fun v4 hf => ?_)
    refine lv_goto (tgt := 70) hx hb dX7_count_10 (by decide) ?_
    exact x_iret B hw hf dX7_count_70

set_option maxHeartbeats 4000000 in
theorem jMod_count_ok {x1 : Int32} {S SF : St} {r : Int32} (hf : jMod_count x1 S = some (r, SF)) : XMet l D 17 (cellM T q) q T ExM yX7_count cX7_count 2 (some .int) ({ frames := 0, cells := 0, slots := 0, locals := 0 }) [.ref (q 0), .int x1] S (some (.int r)) SF := by
  refine x_enter (own := RX7) (by decide +kernel) rfl (Nat.le_of_ble_eq_true rfl) (fun p e s m below meth c A B ls hw hl0 => ?_)
  have hl : lv_has ls 2 [(0, .ref (q 0)), (1, .int x1)] := hl0
  exact jMod_count_b0_ok B x1 S hf hw hl

set_option maxHeartbeats 4000000 in
theorem jMod_trace_b0_ok (B : XB p s m args meth c A cX7_trace 1 (some .long) RX7) {SF : St} {r : Int64}  (S : St) {H : Heap} {locs : List Loc} {ls : Array Slot} (hf : jMod_trace S = some (r, SF)) (hw : Xw D 17 (cellM T q) q T ExM A s S H locs) (hl : lv_has ls 1 [(0, .ref (q 0))]) : XG p l e ({ frames := 0, cells := 0, slots := 0, locals := 0 }) s m args below meth c D 17 (cellM T q) q T A SF (some (.long r)) H locs 0 ls [] := by
  unfold jMod_trace at hf
  obtain ⟨hx, hb, hr, hml, hown, hts, hlk, hA⟩ := id B
  refine lv_aload_n hx hb dX7_trace_0 rfl (lv_at hl 0 rfl) ?_
  refine x_get B hw (Tb := TX7) inX7 0 (by decide) rfl rfl 0 (by decide) u690 (fun _ h => h) rfl dX7_trace_1 ?_
  exact x_lret B hw hf dX7_trace_4

set_option maxHeartbeats 4000000 in
theorem jMod_trace_ok {S SF : St} {r : Int64} (hf : jMod_trace S = some (r, SF)) : XMet l D 17 (cellM T q) q T ExM yX7_trace cX7_trace 1 (some .long) ({ frames := 0, cells := 0, slots := 0, locals := 0 }) [.ref (q 0)] S (some (.long r)) SF := by
  refine x_enter (own := RX7) (by decide +kernel) rfl (Nat.le_of_ble_eq_true rfl) (fun p e s m below meth c A B ls hw hl0 => ?_)
  have hl : lv_has ls 1 [(0, .ref (q 0))] := hl0
  exact jMod_trace_b0_ok B S hf hw hl
end
