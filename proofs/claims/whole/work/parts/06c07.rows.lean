section
variable {p : Program} {l : Launch} {e : Env} {s : State} {m : MethodId} {args : Array Value} {below : List Frame} {meth : Method} {c : Code} {D : va_G} {q aK aV : Nat → Nat} {T : Nat → ClassId} {A : Nat → Prop}
set_option maxHeartbeats 4000000 in
theorem jSuppers_become_27_19_b60_ok (B : XB p s m args meth c A cX3_become 3 none RX3) {SF : St} (K60 : Int32 → St → Option (St)) (hK60 : ∀ (x2 : Int32) (S : St) (H : Heap) (locs : List Loc) (ls : Array Slot), K60 x2 S = some SF → Xw D 40 (cellC T q) q T (ExC aK aV) A s S H locs → lv_has ls 3 [(0, .ref (q 27)), (1, .ref (q 19)), (2, .int x2)] → XG p l e ({ frames := 0, cells := 0, slots := 0, locals := 0 }) s m args below meth c D 40 (cellC T q) q T A SF none H locs 60 ls [])  (x2 : Int32) (S : St) {H : Heap} {locs : List Loc} {ls : Array Slot} (hf : jSuppers_become_27_19_b60 K60 x2 S = some SF) (hw : Xw D 40 (cellC T q) q T (ExC aK aV) A s S H locs) (hl : lv_has ls 3 [(0, .ref (q 27)), (1, .ref (q 19)), (2, .int x2)]) : XG p l e ({ frames := 0, cells := 0, slots := 0, locals := 0 }) s m args below meth c D 40 (cellC T q) q T A SF none H locs 60 ls [] := by
  unfold jSuppers_become_27_19_b60 at hf
  obtain ⟨hx, hb, hr, hml, hown, hts, hlk, hA⟩ := id B
  refine lv_iload_n hx hb dX3_become_60 rfl (lv_at hl 2 rfl) ?_
  refine lv_bipush (v := 20) hx hb dX3_become_61 (by decide) ?_
  refine lv_icmp_ge (tgt := 96) hx hb dX3_become_63 (by decide) (fun hc => ?_) (fun hc => ?_)
  · have hf := x_pos hc hf
    exact x_vret B hw hf dX3_become_96
  · have hf := x_neg hc hf
    refine lv_aload_n hx hb dX3_become_66 rfl (lv_at hl 0 rfl) ?_
    refine x_get B hw (Tb := TX3) inX3 27 (by decide) rfl rfl 1 (by decide) u134 (fun _ h => h) rfl dX3_become_67 ?_
    refine lv_iload_n hx hb dX3_become_70 rfl (lv_at hl 2 rfl) ?_
    refine lv_aload_n hx hb dX3_become_71 rfl (lv_at hl 1 rfl) ?_
    refine x_get B hw (Tb := TX3) inX3 19 (by decide) rfl rfl 1 (by decide) u134 (fun _ h => h) rfl dX3_become_72 ?_
    refine lv_iload_n hx hb dX3_become_75 rfl (lv_at hl 2 rfl) ?_
    refine x_iald B hw 21 (by decide) rfl dX3_become_76 hf (fun v5 hf => ?_)
    refine x_iast B hw 29 (by decide) (fun _ _ => rfl) dX3_become_77 hf (fun S6 H locs hw hf => ?_)
    refine lv_aload_n hx hb dX3_become_78 rfl (lv_at hl 0 rfl) ?_
    refine x_get B hw (Tb := TX3) inX3 27 (by decide) rfl rfl 2 (by decide) u136 (fun _ h => h) rfl dX3_become_79 ?_
    refine lv_iload_n hx hb dX3_become_82 rfl (lv_at hl 2 rfl) ?_
    refine lv_aload_n hx hb dX3_become_83 rfl (lv_at hl 1 rfl) ?_
    refine x_get B hw (Tb := TX3) inX3 19 (by decide) rfl rfl 2 (by decide) u136 (fun _ h => h) rfl dX3_become_84 ?_
    refine lv_iload_n hx hb dX3_become_87 rfl (lv_at hl 2 rfl) ?_
    refine x_iald B hw 22 (by decide) rfl dX3_become_88 hf (fun v7 hf => ?_)
    refine x_iast B hw 30 (by decide) (fun _ _ => rfl) dX3_become_89 hf (fun S8 H locs hw hf => ?_)
    refine lv_iinc (v := x2 + 1) (lv' := [(2, .int (x2 + 1)), (0, .ref (q 27)), (1, .ref (q 19))]) hx hb dX3_become_90 hl (k := 2) rfl xi_1 (by decide) rfl (fun ls hl => ?_)
    refine lv_goto (tgt := 60) hx hb dX3_become_93 (by decide) ?_
    exact hK60 (x2 + 1) S8 _ _ _ hf hw (lv_sub hl [1, 2, 0] rfl)

theorem jSuppers_become_27_19_h60_ok (B : XB p s m args meth c A cX3_become 3 none RX3) {SF : St} : ∀ (n : Nat) (x2 : Int32) (S : St) (H : Heap) (locs : List Loc) (ls : Array Slot), jSuppers_become_27_19_h60 n x2 S = some SF → Xw D 40 (cellC T q) q T (ExC aK aV) A s S H locs → lv_has ls 3 [(0, .ref (q 27)), (1, .ref (q 19)), (2, .int x2)] → XG p l e ({ frames := 0, cells := 0, slots := 0, locals := 0 }) s m args below meth c D 40 (cellC T q) q T A SF none H locs 60 ls [] := by
  intro n
  induction n with
  | zero =>
    intro x2 S H locs ls hf hw hl
    rw [jSuppers_become_27_19_h60] at hf
    cases hf
  | succ n ih =>
    intro x2 S H locs ls hf hw hl
    rw [jSuppers_become_27_19_h60] at hf
    exact jSuppers_become_27_19_b60_ok B (jSuppers_become_27_19_h60 n) ih x2 S hf hw hl

set_option maxHeartbeats 4000000 in
theorem jSuppers_become_27_19_b34_ok (B : XB p s m args meth c A cX3_become 3 none RX3) {SF : St} (K34 : Int32 → St → Option (St)) (hK34 : ∀ (x2 : Int32) (S : St) (H : Heap) (locs : List Loc) (ls : Array Slot), K34 x2 S = some SF → Xw D 40 (cellC T q) q T (ExC aK aV) A s S H locs → lv_has ls 3 [(0, .ref (q 27)), (1, .ref (q 19)), (2, .int x2)] → XG p l e ({ frames := 0, cells := 0, slots := 0, locals := 0 }) s m args below meth c D 40 (cellC T q) q T A SF none H locs 34 ls [])  (x2 : Int32) (S : St) {H : Heap} {locs : List Loc} {ls : Array Slot} (hf : jSuppers_become_27_19_b34 K34 x2 S = some SF) (hw : Xw D 40 (cellC T q) q T (ExC aK aV) A s S H locs) (hl : lv_has ls 3 [(0, .ref (q 27)), (1, .ref (q 19)), (2, .int x2)]) : XG p l e ({ frames := 0, cells := 0, slots := 0, locals := 0 }) s m args below meth c D 40 (cellC T q) q T A SF none H locs 34 ls [] := by
  unfold jSuppers_become_27_19_b34 at hf
  obtain ⟨hx, hb, hr, hml, hown, hts, hlk, hA⟩ := id B
  refine lv_iload_n hx hb dX3_become_34 rfl (lv_at hl 2 rfl) ?_
  refine lv_bipush (v := 30) hx hb dX3_become_35 (by decide) ?_
  refine lv_icmp_ge (tgt := 58) hx hb dX3_become_37 (by decide) (fun hc => ?_) (fun hc => ?_)
  · have hf := x_pos hc hf
    refine lv_iconst (v := 0) hx hb dX3_become_58 (by decide) ?_
    refine lv_istore_n (lv' := [(2, .int 0), (0, .ref (q 27)), (1, .ref (q 19))]) hx hb dX3_become_59 rfl hl (by decide) rfl (fun ls hl => ?_)
    exact jSuppers_become_27_19_h60_ok B FU 0 S _ _ _ hf hw (lv_sub hl [1, 2, 0] rfl)
  · have hf := x_neg hc hf
    refine lv_aload_n hx hb dX3_become_40 rfl (lv_at hl 0 rfl) ?_
    refine x_get B hw (Tb := TX3) inX3 27 (by decide) rfl rfl 0 (by decide) u133 (fun _ h => h) rfl dX3_become_41 ?_
    refine lv_iload_n hx hb dX3_become_44 rfl (lv_at hl 2 rfl) ?_
    refine lv_aload_n hx hb dX3_become_45 rfl (lv_at hl 1 rfl) ?_
    refine x_get B hw (Tb := TX3) inX3 19 (by decide) rfl rfl 0 (by decide) u133 (fun _ h => h) rfl dX3_become_46 ?_
    refine lv_iload_n hx hb dX3_become_49 rfl (lv_at hl 2 rfl) ?_
    refine x_iald B hw 20 (by decide) rfl dX3_become_50 hf (fun v9 hf => ?_)
    refine x_iast B hw 28 (by decide) (fun _ _ => rfl) dX3_become_51 hf (fun S10 H locs hw hf => ?_)
    refine lv_iinc (v := x2 + 1) (lv' := [(2, .int (x2 + 1)), (0, .ref (q 27)), (1, .ref (q 19))]) hx hb dX3_become_52 hl (k := 2) rfl xi_1 (by decide) rfl (fun ls hl => ?_)
    refine lv_goto (tgt := 34) hx hb dX3_become_55 (by decide) ?_
    exact hK34 (x2 + 1) S10 _ _ _ hf hw (lv_sub hl [1, 2, 0] rfl)

theorem jSuppers_become_27_19_h34_ok (B : XB p s m args meth c A cX3_become 3 none RX3) {SF : St} : ∀ (n : Nat) (x2 : Int32) (S : St) (H : Heap) (locs : List Loc) (ls : Array Slot), jSuppers_become_27_19_h34 n x2 S = some SF → Xw D 40 (cellC T q) q T (ExC aK aV) A s S H locs → lv_has ls 3 [(0, .ref (q 27)), (1, .ref (q 19)), (2, .int x2)] → XG p l e ({ frames := 0, cells := 0, slots := 0, locals := 0 }) s m args below meth c D 40 (cellC T q) q T A SF none H locs 34 ls [] := by
  intro n
  induction n with
  | zero =>
    intro x2 S H locs ls hf hw hl
    rw [jSuppers_become_27_19_h34] at hf
    cases hf
  | succ n ih =>
    intro x2 S H locs ls hf hw hl
    rw [jSuppers_become_27_19_h34] at hf
    exact jSuppers_become_27_19_b34_ok B (jSuppers_become_27_19_h34 n) ih x2 S hf hw hl

set_option maxHeartbeats 4000000 in
theorem jSuppers_become_27_19_b0_ok (B : XB p s m args meth c A cX3_become 3 none RX3) {SF : St}  (S : St) {H : Heap} {locs : List Loc} {ls : Array Slot} (hf : jSuppers_become_27_19 S = some SF) (hw : Xw D 40 (cellC T q) q T (ExC aK aV) A s S H locs) (hl : lv_has ls 3 [(0, .ref (q 27)), (1, .ref (q 19))]) : XG p l e ({ frames := 0, cells := 0, slots := 0, locals := 0 }) s m args below meth c D 40 (cellC T q) q T A SF none H locs 0 ls [] := by
  unfold jSuppers_become_27_19 at hf
  obtain ⟨hx, hb, hr, hml, hown, hts, hlk, hA⟩ := id B
  refine lv_aload_n hx hb dX3_become_0 rfl (lv_at hl 0 rfl) ?_
  refine lv_aload_n hx hb dX3_become_1 rfl (lv_at hl 1 rfl) ?_
  refine x_get B hw (Tb := TX3) inX3 19 (by decide) rfl rfl 3 (by decide) u138 (fun _ h => h) rfl dX3_become_2 ?_
  refine x_put B hw (Tb := TX3) inX3 tyX3 tyX3_ok nmX3 27 (by decide) rfl rfl 3 (by decide) u138 (fun _ h => h) rfl (ty := .int) (by decide +kernel) rfl rfl (Nat.le_of_ble_eq_true rfl) (S1 := upI S 27 3 (S.1 19 3)) rfl upI_o (fun _ _ => rfl) dX3_become_5 hf (fun S1 H locs hw hf => ?_)
  refine lv_aload_n hx hb dX3_become_8 rfl (lv_at hl 0 rfl) ?_
  refine lv_aload_n hx hb dX3_become_9 rfl (lv_at hl 1 rfl) ?_
  refine x_get B hw (Tb := TX3) inX3 19 (by decide) rfl rfl 4 (by decide) u141 (fun _ h => h) rfl dX3_become_10 ?_
  refine x_put B hw (Tb := TX3) inX3 tyX3 tyX3_ok nmX3 27 (by decide) rfl rfl 4 (by decide) u141 (fun _ h => h) rfl (ty := .int) (by decide +kernel) rfl rfl (Nat.le_of_ble_eq_true rfl) (S1 := upI S1 27 4 (S1.1 19 4)) rfl upI_o (fun _ _ => rfl) dX3_become_13 hf (fun S2 H locs hw hf => ?_)
  refine lv_aload_n hx hb dX3_become_16 rfl (lv_at hl 0 rfl) ?_
  refine lv_aload_n hx hb dX3_become_17 rfl (lv_at hl 1 rfl) ?_
  refine x_get B hw (Tb := TX3) inX3 19 (by decide) rfl rfl 5 (by decide) u144 (fun _ h => h) rfl dX3_become_18 ?_
  refine x_put B hw (Tb := TX3) inX3 tyX3 tyX3_ok nmX3 27 (by decide) rfl rfl 5 (by decide) u144 (fun _ h => h) rfl (ty := .int) (by decide +kernel) rfl rfl (Nat.le_of_ble_eq_true rfl) (S1 := upI S2 27 5 (S2.1 19 5)) rfl upI_o (fun _ _ => rfl) dX3_become_21 hf (fun S3 H locs hw hf => ?_)
  refine lv_aload_n hx hb dX3_become_24 rfl (lv_at hl 0 rfl) ?_
  refine lv_aload_n hx hb dX3_become_25 rfl (lv_at hl 1 rfl) ?_
  refine x_get B hw (Tb := TX3) inX3 19 (by decide) rfl rfl 6 (by decide) u147 (fun _ h => h) rfl dX3_become_26 ?_
  refine x_put B hw (Tb := TX3) inX3 tyX3 tyX3_ok nmX3 27 (by decide) rfl rfl 6 (by decide) u147 (fun _ h => h) rfl (ty := .int) (by decide +kernel) rfl rfl (Nat.le_of_ble_eq_true rfl) (S1 := upI S3 27 6 (S3.1 19 6)) rfl upI_o (fun _ _ => rfl) dX3_become_29 hf (fun S4 H locs hw hf => ?_)
  refine lv_iconst (v := 0) hx hb dX3_become_32 (by decide) ?_
  refine lv_istore_n (lv' := [(2, .int 0), (0, .ref (q 27)), (1, .ref (q 19))]) hx hb dX3_become_33 rfl hl (by decide) rfl (fun ls hl => ?_)
  exact jSuppers_become_27_19_h34_ok B FU 0 S4 _ _ _ hf hw (lv_sub hl [1, 2, 0] rfl)

set_option maxHeartbeats 4000000 in
theorem jSuppers_become_27_19_ok {S SF : St} (hf : jSuppers_become_27_19 S = some SF) : XMet l D 40 (cellC T q) q T (ExC aK aV) yX3_become cX3_become 3 none ({ frames := 0, cells := 0, slots := 0, locals := 0 }) [.ref (q 27), .ref (q 19)] S none SF := by
  refine x_enter (own := RX3) (by decide +kernel) rfl (Nat.le_of_ble_eq_true rfl) (fun p e s m below meth c A B ls hw hl0 => ?_)
  have hl : lv_has ls 3 [(0, .ref (q 27)), (1, .ref (q 19))] := hl0
  exact jSuppers_become_27_19_b0_ok B S hf hw hl

set_option maxHeartbeats 4000000 in
theorem jSmoke_keep_b0_ok (B : XB p s m args meth c A cX6_keep 3 (some .int) RX6) {SF : St} {r : Int32}  (x1 : Int32) (S : St) {H : Heap} {locs : List Loc} {ls : Array Slot} (hf : jSmoke_keep x1 S = some (r, SF)) (hw : Xw D 40 (cellC T q) q T (ExC aK aV) A s S H locs) (hl : lv_has ls 3 [(0, .ref (q 0)), (1, .int x1)]) : XG p l e ({ frames := 1, cells := 0, slots := 0, locals := 22 }) s m args below meth c D 40 (cellC T q) q T A SF (some (.int r)) H locs 0 ls [] := by
  unfold jSmoke_keep at hf
  obtain ⟨hx, hb, hr, hml, hown, hts, hlk, hA⟩ := id B
  refine lv_iload_n hx hb dX6_keep_0 rfl (lv_at hl 1 rfl) ?_
  refine lv_if_lt (tgt := 9) hx hb dX6_keep_1 (by decide) (fun hc => ?_) (fun hc => ?_)
  · have hf := x_pos hc hf
    refine lv_iconst (v := (-1)) hx hb dX6_keep_9 (by decide) ?_
    exact x_iret B hw hf dX6_keep_10
  · have hf := x_neg hc hf
    refine lv_iload_n hx hb dX6_keep_4 rfl (lv_at hl 1 rfl) ?_
    refine lv_iconst (v := 2) hx hb dX6_keep_5 (by decide) ?_
    refine lv_icmp_lt (tgt := 11) hx hb dX6_keep_6 (by decide) (fun hc => ?_) (fun hc => ?_)
    · have hf := x_pos hc hf
      refine lv_aload_n hx hb dX6_keep_11 rfl (lv_at hl 0 rfl) ?_
      refine lv_iload_n hx hb dX6_keep_12 rfl (lv_at hl 1 rfl) ?_
      obtain ⟨v2, S1, hc, hf⟩ := x_bd_some hf
      refine x_callV B ExC_ok hw 0 (by decide) rfl rfl (As := [.int x1]) (rest := []) (st1 := .ref (q v2) :: []) (jSmoke_imageOf_ok hc) u668 u670 u16 u38 u671 hdX6_imageOf rfl ⟨Nat.le_of_ble_eq_true rfl, Nat.le_of_ble_eq_true rfl⟩ ⟨rfl, rfl⟩ hl.1 (Nat.le_of_ble_eq_true rfl) dX6_keep_13 (fun H locs hw => ?_) rfl rfl
      by_cases hr23 : v2 = 23
      · replace hf := x_pos hr23 hf
        subst hr23
        refine lv_astore_n (lv' := [(2, .ref (q 23)), (0, .ref (q 0)), (1, .int x1)]) hx hb dX6_keep_16 rfl hl (by decide) rfl (fun ls hl => ?_)
        refine lv_aload_n hx hb dX6_keep_17 rfl (lv_at hl 0 rfl) ?_
        refine lv_aload_n hx hb dX6_keep_18 rfl (lv_at hl 1 rfl) ?_
        refine x_get B hw (Tb := TX6) inX6 0 (by decide) rfl rfl 3 (by decide) u233 (fun _ h => h) rfl dX6_keep_19 ?_
        obtain ⟨S3, hc, hf⟩ := x_bv_some hf
        refine x_callV B ExC_ok hw 23 (by decide) rfl rfl (As := [.ref (q 19)]) (rest := []) (st1 := []) (jSuppers_become_23_19_ok hc) u389 u390 u391 u42 u392 hdX3_become rfl ⟨Nat.le_of_ble_eq_true rfl, Nat.le_of_ble_eq_true rfl⟩ ⟨rfl, rfl⟩ hl.1 (Nat.le_of_ble_eq_true rfl) dX6_keep_22 (fun H locs hw => ?_) rfl rfl
        refine lv_aload_n hx hb dX6_keep_25 rfl (lv_at hl 0 rfl) ?_
        refine lv_iconst (v := 1) hx hb dX6_keep_26 (by decide) ?_
        refine x_put B hw (Tb := TX3) inX3 tyX3 tyX3_ok nmX3 23 (by decide) rfl rfl 7 (by decide) u150 (fun _ h => h) rfl (ty := .boolean) (by decide +kernel) rfl rfl (Nat.le_of_ble_eq_true rfl) (S1 := upI S3 23 7 1) rfl upI_o (fun _ _ => rfl) dX6_keep_27 hf (fun S4 H locs hw hf => ?_)
        refine lv_aload_n hx hb dX6_keep_30 rfl (lv_at hl 0 rfl) ?_
        refine x_get B hw (Tb := TX3) inX3 23 (by decide) rfl rfl 4 (by decide) u143 (fun _ h => h) rfl dX6_keep_31 ?_
        exact x_iret B hw hf dX6_keep_34
      replace hf := x_neg hr23 hf
      by_cases hr27 : v2 = 27
      · replace hf := x_pos hr27 hf
        subst hr27
        refine lv_astore_n (lv' := [(2, .ref (q 27)), (0, .ref (q 0)), (1, .int x1)]) hx hb dX6_keep_16 rfl hl (by decide) rfl (fun ls hl => ?_)
        refine lv_aload_n hx hb dX6_keep_17 rfl (lv_at hl 0 rfl) ?_
        refine lv_aload_n hx hb dX6_keep_18 rfl (lv_at hl 1 rfl) ?_
        refine x_get B hw (Tb := TX6) inX6 0 (by decide) rfl rfl 3 (by decide) u233 (fun _ h => h) rfl dX6_keep_19 ?_
        obtain ⟨S5, hc, hf⟩ := x_bv_some hf
        refine x_callV B ExC_ok hw 27 (by decide) rfl rfl (As := [.ref (q 19)]) (rest := []) (st1 := []) (jSuppers_become_27_19_ok hc) u389 u390 u391 u42 u392 hdX3_become rfl ⟨Nat.le_of_ble_eq_true rfl, Nat.le_of_ble_eq_true rfl⟩ ⟨rfl, rfl⟩ hl.1 (Nat.le_of_ble_eq_true rfl) dX6_keep_22 (fun H locs hw => ?_) rfl rfl
        refine lv_aload_n hx hb dX6_keep_25 rfl (lv_at hl 0 rfl) ?_
        refine lv_iconst (v := 1) hx hb dX6_keep_26 (by decide) ?_
        refine x_put B hw (Tb := TX3) inX3 tyX3 tyX3_ok nmX3 27 (by decide) rfl rfl 7 (by decide) u150 (fun _ h => h) rfl (ty := .boolean) (by decide +kernel) rfl rfl (Nat.le_of_ble_eq_true rfl) (S1 := upI S5 27 7 1) rfl upI_o (fun _ _ => rfl) dX6_keep_27 hf (fun S6 H locs hw hf => ?_)
        refine lv_aload_n hx hb dX6_keep_30 rfl (lv_at hl 0 rfl) ?_
        refine x_get B hw (Tb := TX3) inX3 27 (by decide) rfl rfl 4 (by decide) u143 (fun _ h => h) rfl dX6_keep_31 ?_
        exact x_iret B hw hf dX6_keep_34
      replace hf := x_neg hr27 hf
      cases hf
    · have hf := x_neg hc hf
      refine lv_iconst (v := (-1)) hx hb dX6_keep_9 (by decide) ?_
      exact x_iret B hw hf dX6_keep_10

set_option maxHeartbeats 4000000 in
theorem jSmoke_keep_ok {x1 : Int32} {S SF : St} {r : Int32} (hf : jSmoke_keep x1 S = some (r, SF)) : XMet l D 40 (cellC T q) q T (ExC aK aV) yX6_keep cX6_keep 3 (some .int) ({ frames := 1, cells := 0, slots := 0, locals := 22 }) [.ref (q 0), .int x1] S (some (.int r)) SF := by
  refine x_enter (own := RX6) (by decide +kernel) rfl (Nat.le_of_ble_eq_true rfl) (fun p e s m below meth c A B ls hw hl0 => ?_)
  have hl : lv_has ls 3 [(0, .ref (q 0)), (1, .int x1)] := hl0
  exact jSmoke_keep_b0_ok B x1 S hf hw hl

set_option maxHeartbeats 4000000 in
theorem jSuppers_become_19_23_b60_ok (B : XB p s m args meth c A cX3_become 3 none RX3) {SF : St} (K60 : Int32 → St → Option (St)) (hK60 : ∀ (x2 : Int32) (S : St) (H : Heap) (locs : List Loc) (ls : Array Slot), K60 x2 S = some SF → Xw D 40 (cellC T q) q T (ExC aK aV) A s S H locs → lv_has ls 3 [(0, .ref (q 19)), (1, .ref (q 23)), (2, .int x2)] → XG p l e ({ frames := 0, cells := 0, slots := 0, locals := 0 }) s m args below meth c D 40 (cellC T q) q T A SF none H locs 60 ls [])  (x2 : Int32) (S : St) {H : Heap} {locs : List Loc} {ls : Array Slot} (hf : jSuppers_become_19_23_b60 K60 x2 S = some SF) (hw : Xw D 40 (cellC T q) q T (ExC aK aV) A s S H locs) (hl : lv_has ls 3 [(0, .ref (q 19)), (1, .ref (q 23)), (2, .int x2)]) : XG p l e ({ frames := 0, cells := 0, slots := 0, locals := 0 }) s m args below meth c D 40 (cellC T q) q T A SF none H locs 60 ls [] := by
  unfold jSuppers_become_19_23_b60 at hf
  obtain ⟨hx, hb, hr, hml, hown, hts, hlk, hA⟩ := id B
  refine lv_iload_n hx hb dX3_become_60 rfl (lv_at hl 2 rfl) ?_
  refine lv_bipush (v := 20) hx hb dX3_become_61 (by decide) ?_
  refine lv_icmp_ge (tgt := 96) hx hb dX3_become_63 (by decide) (fun hc => ?_) (fun hc => ?_)
  · have hf := x_pos hc hf
    exact x_vret B hw hf dX3_become_96
  · have hf := x_neg hc hf
    refine lv_aload_n hx hb dX3_become_66 rfl (lv_at hl 0 rfl) ?_
    refine x_get B hw (Tb := TX3) inX3 19 (by decide) rfl rfl 1 (by decide) u134 (fun _ h => h) rfl dX3_become_67 ?_
    refine lv_iload_n hx hb dX3_become_70 rfl (lv_at hl 2 rfl) ?_
    refine lv_aload_n hx hb dX3_become_71 rfl (lv_at hl 1 rfl) ?_
    refine x_get B hw (Tb := TX3) inX3 23 (by decide) rfl rfl 1 (by decide) u134 (fun _ h => h) rfl dX3_become_72 ?_
    refine lv_iload_n hx hb dX3_become_75 rfl (lv_at hl 2 rfl) ?_
    refine x_iald B hw 25 (by decide) rfl dX3_become_76 hf (fun v5 hf => ?_)
    refine x_iast B hw 21 (by decide) (fun _ _ => rfl) dX3_become_77 hf (fun S6 H locs hw hf => ?_)
    refine lv_aload_n hx hb dX3_become_78 rfl (lv_at hl 0 rfl) ?_
    refine x_get B hw (Tb := TX3) inX3 19 (by decide) rfl rfl 2 (by decide) u136 (fun _ h => h) rfl dX3_become_79 ?_
    refine lv_iload_n hx hb dX3_become_82 rfl (lv_at hl 2 rfl) ?_
    refine lv_aload_n hx hb dX3_become_83 rfl (lv_at hl 1 rfl) ?_
    refine x_get B hw (Tb := TX3) inX3 23 (by decide) rfl rfl 2 (by decide) u136 (fun _ h => h) rfl dX3_become_84 ?_
    refine lv_iload_n hx hb dX3_become_87 rfl (lv_at hl 2 rfl) ?_
    refine x_iald B hw 26 (by decide) rfl dX3_become_88 hf (fun v7 hf => ?_)
    refine x_iast B hw 22 (by decide) (fun _ _ => rfl) dX3_become_89 hf (fun S8 H locs hw hf => ?_)
    refine lv_iinc (v := x2 + 1) (lv' := [(2, .int (x2 + 1)), (0, .ref (q 19)), (1, .ref (q 23))]) hx hb dX3_become_90 hl (k := 2) rfl xi_1 (by decide) rfl (fun ls hl => ?_)
    refine lv_goto (tgt := 60) hx hb dX3_become_93 (by decide) ?_
    exact hK60 (x2 + 1) S8 _ _ _ hf hw (lv_sub hl [1, 2, 0] rfl)

theorem jSuppers_become_19_23_h60_ok (B : XB p s m args meth c A cX3_become 3 none RX3) {SF : St} : ∀ (n : Nat) (x2 : Int32) (S : St) (H : Heap) (locs : List Loc) (ls : Array Slot), jSuppers_become_19_23_h60 n x2 S = some SF → Xw D 40 (cellC T q) q T (ExC aK aV) A s S H locs → lv_has ls 3 [(0, .ref (q 19)), (1, .ref (q 23)), (2, .int x2)] → XG p l e ({ frames := 0, cells := 0, slots := 0, locals := 0 }) s m args below meth c D 40 (cellC T q) q T A SF none H locs 60 ls [] := by
  intro n
  induction n with
  | zero =>
    intro x2 S H locs ls hf hw hl
    rw [jSuppers_become_19_23_h60] at hf
    cases hf
  | succ n ih =>
    intro x2 S H locs ls hf hw hl
    rw [jSuppers_become_19_23_h60] at hf
    exact jSuppers_become_19_23_b60_ok B (jSuppers_become_19_23_h60 n) ih x2 S hf hw hl

set_option maxHeartbeats 4000000 in
theorem jSuppers_become_19_23_b34_ok (B : XB p s m args meth c A cX3_become 3 none RX3) {SF : St} (K34 : Int32 → St → Option (St)) (hK34 : ∀ (x2 : Int32) (S : St) (H : Heap) (locs : List Loc) (ls : Array Slot), K34 x2 S = some SF → Xw D 40 (cellC T q) q T (ExC aK aV) A s S H locs → lv_has ls 3 [(0, .ref (q 19)), (1, .ref (q 23)), (2, .int x2)] → XG p l e ({ frames := 0, cells := 0, slots := 0, locals := 0 }) s m args below meth c D 40 (cellC T q) q T A SF none H locs 34 ls [])  (x2 : Int32) (S : St) {H : Heap} {locs : List Loc} {ls : Array Slot} (hf : jSuppers_become_19_23_b34 K34 x2 S = some SF) (hw : Xw D 40 (cellC T q) q T (ExC aK aV) A s S H locs) (hl : lv_has ls 3 [(0, .ref (q 19)), (1, .ref (q 23)), (2, .int x2)]) : XG p l e ({ frames := 0, cells := 0, slots := 0, locals := 0 }) s m args below meth c D 40 (cellC T q) q T A SF none H locs 34 ls [] := by
  unfold jSuppers_become_19_23_b34 at hf
  obtain ⟨hx, hb, hr, hml, hown, hts, hlk, hA⟩ := id B
  refine lv_iload_n hx hb dX3_become_34 rfl (lv_at hl 2 rfl) ?_
  refine lv_bipush (v := 30) hx hb dX3_become_35 (by decide) ?_
  refine lv_icmp_ge (tgt := 58) hx hb dX3_become_37 (by decide) (fun hc => ?_) (fun hc => ?_)
  · have hf := x_pos hc hf
    refine lv_iconst (v := 0) hx hb dX3_become_58 (by decide) ?_
    refine lv_istore_n (lv' := [(2, .int 0), (0, .ref (q 19)), (1, .ref (q 23))]) hx hb dX3_become_59 rfl hl (by decide) rfl (fun ls hl => ?_)
    exact jSuppers_become_19_23_h60_ok B FU 0 S _ _ _ hf hw (lv_sub hl [1, 2, 0] rfl)
  · have hf := x_neg hc hf
    refine lv_aload_n hx hb dX3_become_40 rfl (lv_at hl 0 rfl) ?_
    refine x_get B hw (Tb := TX3) inX3 19 (by decide) rfl rfl 0 (by decide) u133 (fun _ h => h) rfl dX3_become_41 ?_
    refine lv_iload_n hx hb dX3_become_44 rfl (lv_at hl 2 rfl) ?_
    refine lv_aload_n hx hb dX3_become_45 rfl (lv_at hl 1 rfl) ?_
    refine x_get B hw (Tb := TX3) inX3 23 (by decide) rfl rfl 0 (by decide) u133 (fun _ h => h) rfl dX3_become_46 ?_
    refine lv_iload_n hx hb dX3_become_49 rfl (lv_at hl 2 rfl) ?_
    refine x_iald B hw 24 (by decide) rfl dX3_become_50 hf (fun v9 hf => ?_)
    refine x_iast B hw 20 (by decide) (fun _ _ => rfl) dX3_become_51 hf (fun S10 H locs hw hf => ?_)
    refine lv_iinc (v := x2 + 1) (lv' := [(2, .int (x2 + 1)), (0, .ref (q 19)), (1, .ref (q 23))]) hx hb dX3_become_52 hl (k := 2) rfl xi_1 (by decide) rfl (fun ls hl => ?_)
    refine lv_goto (tgt := 34) hx hb dX3_become_55 (by decide) ?_
    exact hK34 (x2 + 1) S10 _ _ _ hf hw (lv_sub hl [1, 2, 0] rfl)

theorem jSuppers_become_19_23_h34_ok (B : XB p s m args meth c A cX3_become 3 none RX3) {SF : St} : ∀ (n : Nat) (x2 : Int32) (S : St) (H : Heap) (locs : List Loc) (ls : Array Slot), jSuppers_become_19_23_h34 n x2 S = some SF → Xw D 40 (cellC T q) q T (ExC aK aV) A s S H locs → lv_has ls 3 [(0, .ref (q 19)), (1, .ref (q 23)), (2, .int x2)] → XG p l e ({ frames := 0, cells := 0, slots := 0, locals := 0 }) s m args below meth c D 40 (cellC T q) q T A SF none H locs 34 ls [] := by
  intro n
  induction n with
  | zero =>
    intro x2 S H locs ls hf hw hl
    rw [jSuppers_become_19_23_h34] at hf
    cases hf
  | succ n ih =>
    intro x2 S H locs ls hf hw hl
    rw [jSuppers_become_19_23_h34] at hf
    exact jSuppers_become_19_23_b34_ok B (jSuppers_become_19_23_h34 n) ih x2 S hf hw hl

set_option maxHeartbeats 4000000 in
theorem jSuppers_become_19_23_b0_ok (B : XB p s m args meth c A cX3_become 3 none RX3) {SF : St}  (S : St) {H : Heap} {locs : List Loc} {ls : Array Slot} (hf : jSuppers_become_19_23 S = some SF) (hw : Xw D 40 (cellC T q) q T (ExC aK aV) A s S H locs) (hl : lv_has ls 3 [(0, .ref (q 19)), (1, .ref (q 23))]) : XG p l e ({ frames := 0, cells := 0, slots := 0, locals := 0 }) s m args below meth c D 40 (cellC T q) q T A SF none H locs 0 ls [] := by
  unfold jSuppers_become_19_23 at hf
  obtain ⟨hx, hb, hr, hml, hown, hts, hlk, hA⟩ := id B
  refine lv_aload_n hx hb dX3_become_0 rfl (lv_at hl 0 rfl) ?_
  refine lv_aload_n hx hb dX3_become_1 rfl (lv_at hl 1 rfl) ?_
  refine x_get B hw (Tb := TX3) inX3 23 (by decide) rfl rfl 3 (by decide) u138 (fun _ h => h) rfl dX3_become_2 ?_
  refine x_put B hw (Tb := TX3) inX3 tyX3 tyX3_ok nmX3 19 (by decide) rfl rfl 3 (by decide) u138 (fun _ h => h) rfl (ty := .int) (by decide +kernel) rfl rfl (Nat.le_of_ble_eq_true rfl) (S1 := upI S 19 3 (S.1 23 3)) rfl upI_o (fun _ _ => rfl) dX3_become_5 hf (fun S1 H locs hw hf => ?_)
  refine lv_aload_n hx hb dX3_become_8 rfl (lv_at hl 0 rfl) ?_
  refine lv_aload_n hx hb dX3_become_9 rfl (lv_at hl 1 rfl) ?_
  refine x_get B hw (Tb := TX3) inX3 23 (by decide) rfl rfl 4 (by decide) u141 (fun _ h => h) rfl dX3_become_10 ?_
  refine x_put B hw (Tb := TX3) inX3 tyX3 tyX3_ok nmX3 19 (by decide) rfl rfl 4 (by decide) u141 (fun _ h => h) rfl (ty := .int) (by decide +kernel) rfl rfl (Nat.le_of_ble_eq_true rfl) (S1 := upI S1 19 4 (S1.1 23 4)) rfl upI_o (fun _ _ => rfl) dX3_become_13 hf (fun S2 H locs hw hf => ?_)
  refine lv_aload_n hx hb dX3_become_16 rfl (lv_at hl 0 rfl) ?_
  refine lv_aload_n hx hb dX3_become_17 rfl (lv_at hl 1 rfl) ?_
  refine x_get B hw (Tb := TX3) inX3 23 (by decide) rfl rfl 5 (by decide) u144 (fun _ h => h) rfl dX3_become_18 ?_
  refine x_put B hw (Tb := TX3) inX3 tyX3 tyX3_ok nmX3 19 (by decide) rfl rfl 5 (by decide) u144 (fun _ h => h) rfl (ty := .int) (by decide +kernel) rfl rfl (Nat.le_of_ble_eq_true rfl) (S1 := upI S2 19 5 (S2.1 23 5)) rfl upI_o (fun _ _ => rfl) dX3_become_21 hf (fun S3 H locs hw hf => ?_)
  refine lv_aload_n hx hb dX3_become_24 rfl (lv_at hl 0 rfl) ?_
  refine lv_aload_n hx hb dX3_become_25 rfl (lv_at hl 1 rfl) ?_
  refine x_get B hw (Tb := TX3) inX3 23 (by decide) rfl rfl 6 (by decide) u147 (fun _ h => h) rfl dX3_become_26 ?_
  refine x_put B hw (Tb := TX3) inX3 tyX3 tyX3_ok nmX3 19 (by decide) rfl rfl 6 (by decide) u147 (fun _ h => h) rfl (ty := .int) (by decide +kernel) rfl rfl (Nat.le_of_ble_eq_true rfl) (S1 := upI S3 19 6 (S3.1 23 6)) rfl upI_o (fun _ _ => rfl) dX3_become_29 hf (fun S4 H locs hw hf => ?_)
  refine lv_iconst (v := 0) hx hb dX3_become_32 (by decide) ?_
  refine lv_istore_n (lv' := [(2, .int 0), (0, .ref (q 19)), (1, .ref (q 23))]) hx hb dX3_become_33 rfl hl (by decide) rfl (fun ls hl => ?_)
  exact jSuppers_become_19_23_h34_ok B FU 0 S4 _ _ _ hf hw (lv_sub hl [1, 2, 0] rfl)

set_option maxHeartbeats 4000000 in
theorem jSuppers_become_19_23_ok {S SF : St} (hf : jSuppers_become_19_23 S = some SF) : XMet l D 40 (cellC T q) q T (ExC aK aV) yX3_become cX3_become 3 none ({ frames := 0, cells := 0, slots := 0, locals := 0 }) [.ref (q 19), .ref (q 23)] S none SF := by
  refine x_enter (own := RX3) (by decide +kernel) rfl (Nat.le_of_ble_eq_true rfl) (fun p e s m below meth c A B ls hw hl0 => ?_)
  have hl : lv_has ls 3 [(0, .ref (q 19)), (1, .ref (q 23))] := hl0
  exact jSuppers_become_19_23_b0_ok B S hf hw hl

set_option maxHeartbeats 4000000 in
theorem jSuppers_become_19_27_b60_ok (B : XB p s m args meth c A cX3_become 3 none RX3) {SF : St} (K60 : Int32 → St → Option (St)) (hK60 : ∀ (x2 : Int32) (S : St) (H : Heap) (locs : List Loc) (ls : Array Slot), K60 x2 S = some SF → Xw D 40 (cellC T q) q T (ExC aK aV) A s S H locs → lv_has ls 3 [(0, .ref (q 19)), (1, .ref (q 27)), (2, .int x2)] → XG p l e ({ frames := 0, cells := 0, slots := 0, locals := 0 }) s m args below meth c D 40 (cellC T q) q T A SF none H locs 60 ls [])  (x2 : Int32) (S : St) {H : Heap} {locs : List Loc} {ls : Array Slot} (hf : jSuppers_become_19_27_b60 K60 x2 S = some SF) (hw : Xw D 40 (cellC T q) q T (ExC aK aV) A s S H locs) (hl : lv_has ls 3 [(0, .ref (q 19)), (1, .ref (q 27)), (2, .int x2)]) : XG p l e ({ frames := 0, cells := 0, slots := 0, locals := 0 }) s m args below meth c D 40 (cellC T q) q T A SF none H locs 60 ls [] := by
  unfold jSuppers_become_19_27_b60 at hf
  obtain ⟨hx, hb, hr, hml, hown, hts, hlk, hA⟩ := id B
  refine lv_iload_n hx hb dX3_become_60 rfl (lv_at hl 2 rfl) ?_
  refine lv_bipush (v := 20) hx hb dX3_become_61 (by decide) ?_
  refine lv_icmp_ge (tgt := 96) hx hb dX3_become_63 (by decide) (fun hc => ?_) (fun hc => ?_)
  · have hf := x_pos hc hf
    exact x_vret B hw hf dX3_become_96
  · have hf := x_neg hc hf
    refine lv_aload_n hx hb dX3_become_66 rfl (lv_at hl 0 rfl) ?_
    refine x_get B hw (Tb := TX3) inX3 19 (by decide) rfl rfl 1 (by decide) u134 (fun _ h => h) rfl dX3_become_67 ?_
    refine lv_iload_n hx hb dX3_become_70 rfl (lv_at hl 2 rfl) ?_
    refine lv_aload_n hx hb dX3_become_71 rfl (lv_at hl 1 rfl) ?_
    refine x_get B hw (Tb := TX3) inX3 27 (by decide) rfl rfl 1 (by decide) u134 (fun _ h => h) rfl dX3_become_72 ?_
    refine lv_iload_n hx hb dX3_become_75 rfl (lv_at hl 2 rfl) ?_
    refine x_iald B hw 29 (by decide) rfl dX3_become_76 hf (fun v5 hf => ?_)
    refine x_iast B hw 21 (by decide) (fun _ _ => rfl) dX3_become_77 hf (fun S6 H locs hw hf => ?_)
    refine lv_aload_n hx hb dX3_become_78 rfl (lv_at hl 0 rfl) ?_
    refine x_get B hw (Tb := TX3) inX3 19 (by decide) rfl rfl 2 (by decide) u136 (fun _ h => h) rfl dX3_become_79 ?_
    refine lv_iload_n hx hb dX3_become_82 rfl (lv_at hl 2 rfl) ?_
    refine lv_aload_n hx hb dX3_become_83 rfl (lv_at hl 1 rfl) ?_
    refine x_get B hw (Tb := TX3) inX3 27 (by decide) rfl rfl 2 (by decide) u136 (fun _ h => h) rfl dX3_become_84 ?_
    refine lv_iload_n hx hb dX3_become_87 rfl (lv_at hl 2 rfl) ?_
    refine x_iald B hw 30 (by decide) rfl dX3_become_88 hf (fun v7 hf => ?_)
    refine x_iast B hw 22 (by decide) (fun _ _ => rfl) dX3_become_89 hf (fun S8 H locs hw hf => ?_)
    refine lv_iinc (v := x2 + 1) (lv' := [(2, .int (x2 + 1)), (0, .ref (q 19)), (1, .ref (q 27))]) hx hb dX3_become_90 hl (k := 2) rfl xi_1 (by decide) rfl (fun ls hl => ?_)
    refine lv_goto (tgt := 60) hx hb dX3_become_93 (by decide) ?_
    exact hK60 (x2 + 1) S8 _ _ _ hf hw (lv_sub hl [1, 2, 0] rfl)

theorem jSuppers_become_19_27_h60_ok (B : XB p s m args meth c A cX3_become 3 none RX3) {SF : St} : ∀ (n : Nat) (x2 : Int32) (S : St) (H : Heap) (locs : List Loc) (ls : Array Slot), jSuppers_become_19_27_h60 n x2 S = some SF → Xw D 40 (cellC T q) q T (ExC aK aV) A s S H locs → lv_has ls 3 [(0, .ref (q 19)), (1, .ref (q 27)), (2, .int x2)] → XG p l e ({ frames := 0, cells := 0, slots := 0, locals := 0 }) s m args below meth c D 40 (cellC T q) q T A SF none H locs 60 ls [] := by
  intro n
  induction n with
  | zero =>
    intro x2 S H locs ls hf hw hl
    rw [jSuppers_become_19_27_h60] at hf
    cases hf
  | succ n ih =>
    intro x2 S H locs ls hf hw hl
    rw [jSuppers_become_19_27_h60] at hf
    exact jSuppers_become_19_27_b60_ok B (jSuppers_become_19_27_h60 n) ih x2 S hf hw hl

set_option maxHeartbeats 4000000 in
theorem jSuppers_become_19_27_b34_ok (B : XB p s m args meth c A cX3_become 3 none RX3) {SF : St} (K34 : Int32 → St → Option (St)) (hK34 : ∀ (x2 : Int32) (S : St) (H : Heap) (locs : List Loc) (ls : Array Slot), K34 x2 S = some SF → Xw D 40 (cellC T q) q T (ExC aK aV) A s S H locs → lv_has ls 3 [(0, .ref (q 19)), (1, .ref (q 27)), (2, .int x2)] → XG p l e ({ frames := 0, cells := 0, slots := 0, locals := 0 }) s m args below meth c D 40 (cellC T q) q T A SF none H locs 34 ls [])  (x2 : Int32) (S : St) {H : Heap} {locs : List Loc} {ls : Array Slot} (hf : jSuppers_become_19_27_b34 K34 x2 S = some SF) (hw : Xw D 40 (cellC T q) q T (ExC aK aV) A s S H locs) (hl : lv_has ls 3 [(0, .ref (q 19)), (1, .ref (q 27)), (2, .int x2)]) : XG p l e ({ frames := 0, cells := 0, slots := 0, locals := 0 }) s m args below meth c D 40 (cellC T q) q T A SF none H locs 34 ls [] := by
  unfold jSuppers_become_19_27_b34 at hf
  obtain ⟨hx, hb, hr, hml, hown, hts, hlk, hA⟩ := id B
  refine lv_iload_n hx hb dX3_become_34 rfl (lv_at hl 2 rfl) ?_
  refine lv_bipush (v := 30) hx hb dX3_become_35 (by decide) ?_
  refine lv_icmp_ge (tgt := 58) hx hb dX3_become_37 (by decide) (fun hc => ?_) (fun hc => ?_)
  · have hf := x_pos hc hf
    refine lv_iconst (v := 0) hx hb dX3_become_58 (by decide) ?_
    refine lv_istore_n (lv' := [(2, .int 0), (0, .ref (q 19)), (1, .ref (q 27))]) hx hb dX3_become_59 rfl hl (by decide) rfl (fun ls hl => ?_)
    exact jSuppers_become_19_27_h60_ok B FU 0 S _ _ _ hf hw (lv_sub hl [1, 2, 0] rfl)
  · have hf := x_neg hc hf
    refine lv_aload_n hx hb dX3_become_40 rfl (lv_at hl 0 rfl) ?_
    refine x_get B hw (Tb := TX3) inX3 19 (by decide) rfl rfl 0 (by decide) u133 (fun _ h => h) rfl dX3_become_41 ?_
    refine lv_iload_n hx hb dX3_become_44 rfl (lv_at hl 2 rfl) ?_
    refine lv_aload_n hx hb dX3_become_45 rfl (lv_at hl 1 rfl) ?_
    refine x_get B hw (Tb := TX3) inX3 27 (by decide) rfl rfl 0 (by decide) u133 (fun _ h => h) rfl dX3_become_46 ?_
    refine lv_iload_n hx hb dX3_become_49 rfl (lv_at hl 2 rfl) ?_
    refine x_iald B hw 28 (by decide) rfl dX3_become_50 hf (fun v9 hf => ?_)
    refine x_iast B hw 20 (by decide) (fun _ _ => rfl) dX3_become_51 hf (fun S10 H locs hw hf => ?_)
    refine lv_iinc (v := x2 + 1) (lv' := [(2, .int (x2 + 1)), (0, .ref (q 19)), (1, .ref (q 27))]) hx hb dX3_become_52 hl (k := 2) rfl xi_1 (by decide) rfl (fun ls hl => ?_)
    refine lv_goto (tgt := 34) hx hb dX3_become_55 (by decide) ?_
    exact hK34 (x2 + 1) S10 _ _ _ hf hw (lv_sub hl [1, 2, 0] rfl)

theorem jSuppers_become_19_27_h34_ok (B : XB p s m args meth c A cX3_become 3 none RX3) {SF : St} : ∀ (n : Nat) (x2 : Int32) (S : St) (H : Heap) (locs : List Loc) (ls : Array Slot), jSuppers_become_19_27_h34 n x2 S = some SF → Xw D 40 (cellC T q) q T (ExC aK aV) A s S H locs → lv_has ls 3 [(0, .ref (q 19)), (1, .ref (q 27)), (2, .int x2)] → XG p l e ({ frames := 0, cells := 0, slots := 0, locals := 0 }) s m args below meth c D 40 (cellC T q) q T A SF none H locs 34 ls [] := by
  intro n
  induction n with
  | zero =>
    intro x2 S H locs ls hf hw hl
    rw [jSuppers_become_19_27_h34] at hf
    cases hf
  | succ n ih =>
    intro x2 S H locs ls hf hw hl
    rw [jSuppers_become_19_27_h34] at hf
    exact jSuppers_become_19_27_b34_ok B (jSuppers_become_19_27_h34 n) ih x2 S hf hw hl

set_option maxHeartbeats 4000000 in
theorem jSuppers_become_19_27_b0_ok (B : XB p s m args meth c A cX3_become 3 none RX3) {SF : St}  (S : St) {H : Heap} {locs : List Loc} {ls : Array Slot} (hf : jSuppers_become_19_27 S = some SF) (hw : Xw D 40 (cellC T q) q T (ExC aK aV) A s S H locs) (hl : lv_has ls 3 [(0, .ref (q 19)), (1, .ref (q 27))]) : XG p l e ({ frames := 0, cells := 0, slots := 0, locals := 0 }) s m args below meth c D 40 (cellC T q) q T A SF none H locs 0 ls [] := by
  unfold jSuppers_become_19_27 at hf
  obtain ⟨hx, hb, hr, hml, hown, hts, hlk, hA⟩ := id B
  refine lv_aload_n hx hb dX3_become_0 rfl (lv_at hl 0 rfl) ?_
  refine lv_aload_n hx hb dX3_become_1 rfl (lv_at hl 1 rfl) ?_
  refine x_get B hw (Tb := TX3) inX3 27 (by decide) rfl rfl 3 (by decide) u138 (fun _ h => h) rfl dX3_become_2 ?_
  refine x_put B hw (Tb := TX3) inX3 tyX3 tyX3_ok nmX3 19 (by decide) rfl rfl 3 (by decide) u138 (fun _ h => h) rfl (ty := .int) (by decide +kernel) rfl rfl (Nat.le_of_ble_eq_true rfl) (S1 := upI S 19 3 (S.1 27 3)) rfl upI_o (fun _ _ => rfl) dX3_become_5 hf (fun S1 H locs hw hf => ?_)
  refine lv_aload_n hx hb dX3_become_8 rfl (lv_at hl 0 rfl) ?_
  refine lv_aload_n hx hb dX3_become_9 rfl (lv_at hl 1 rfl) ?_
  refine x_get B hw (Tb := TX3) inX3 27 (by decide) rfl rfl 4 (by decide) u141 (fun _ h => h) rfl dX3_become_10 ?_
  refine x_put B hw (Tb := TX3) inX3 tyX3 tyX3_ok nmX3 19 (by decide) rfl rfl 4 (by decide) u141 (fun _ h => h) rfl (ty := .int) (by decide +kernel) rfl rfl (Nat.le_of_ble_eq_true rfl) (S1 := upI S1 19 4 (S1.1 27 4)) rfl upI_o (fun _ _ => rfl) dX3_become_13 hf (fun S2 H locs hw hf => ?_)
  refine lv_aload_n hx hb dX3_become_16 rfl (lv_at hl 0 rfl) ?_
  refine lv_aload_n hx hb dX3_become_17 rfl (lv_at hl 1 rfl) ?_
  refine x_get B hw (Tb := TX3) inX3 27 (by decide) rfl rfl 5 (by decide) u144 (fun _ h => h) rfl dX3_become_18 ?_
  refine x_put B hw (Tb := TX3) inX3 tyX3 tyX3_ok nmX3 19 (by decide) rfl rfl 5 (by decide) u144 (fun _ h => h) rfl (ty := .int) (by decide +kernel) rfl rfl (Nat.le_of_ble_eq_true rfl) (S1 := upI S2 19 5 (S2.1 27 5)) rfl upI_o (fun _ _ => rfl) dX3_become_21 hf (fun S3 H locs hw hf => ?_)
  refine lv_aload_n hx hb dX3_become_24 rfl (lv_at hl 0 rfl) ?_
  refine lv_aload_n hx hb dX3_become_25 rfl (lv_at hl 1 rfl) ?_
  refine x_get B hw (Tb := TX3) inX3 27 (by decide) rfl rfl 6 (by decide) u147 (fun _ h => h) rfl dX3_become_26 ?_
  refine x_put B hw (Tb := TX3) inX3 tyX3 tyX3_ok nmX3 19 (by decide) rfl rfl 6 (by decide) u147 (fun _ h => h) rfl (ty := .int) (by decide +kernel) rfl rfl (Nat.le_of_ble_eq_true rfl) (S1 := upI S3 19 6 (S3.1 27 6)) rfl upI_o (fun _ _ => rfl) dX3_become_29 hf (fun S4 H locs hw hf => ?_)
  refine lv_iconst (v := 0) hx hb dX3_become_32 (by decide) ?_
  refine lv_istore_n (lv' := [(2, .int 0), (0, .ref (q 19)), (1, .ref (q 27))]) hx hb dX3_become_33 rfl hl (by decide) rfl (fun ls hl => ?_)
  exact jSuppers_become_19_27_h34_ok B FU 0 S4 _ _ _ hf hw (lv_sub hl [1, 2, 0] rfl)

set_option maxHeartbeats 4000000 in
theorem jSuppers_become_19_27_ok {S SF : St} (hf : jSuppers_become_19_27 S = some SF) : XMet l D 40 (cellC T q) q T (ExC aK aV) yX3_become cX3_become 3 none ({ frames := 0, cells := 0, slots := 0, locals := 0 }) [.ref (q 19), .ref (q 27)] S none SF := by
  refine x_enter (own := RX3) (by decide +kernel) rfl (Nat.le_of_ble_eq_true rfl) (fun p e s m below meth c A B ls hw hl0 => ?_)
  have hl : lv_has ls 3 [(0, .ref (q 19)), (1, .ref (q 27))] := hl0
  exact jSuppers_become_19_27_b0_ok B S hf hw hl

set_option maxHeartbeats 4000000 in
theorem jSmoke_back_b0_ok (B : XB p s m args meth c A cX6_back 3 (some .int) RX6) {SF : St} {r : Int32}  (x1 : Int32) (S : St) {H : Heap} {locs : List Loc} {ls : Array Slot} (hf : jSmoke_back x1 S = some (r, SF)) (hw : Xw D 40 (cellC T q) q T (ExC aK aV) A s S H locs) (hl : lv_has ls 3 [(0, .ref (q 0)), (1, .int x1)]) : XG p l e ({ frames := 1, cells := 0, slots := 0, locals := 22 }) s m args below meth c D 40 (cellC T q) q T A SF (some (.int r)) H locs 0 ls [] := by
  unfold jSmoke_back at hf
  obtain ⟨hx, hb, hr, hml, hown, hts, hlk, hA⟩ := id B
  refine lv_iload_n hx hb dX6_back_0 rfl (lv_at hl 1 rfl) ?_
  refine lv_if_lt (tgt := 9) hx hb dX6_back_1 (by decide) (fun hc => ?_) (fun hc => ?_)
  · have hf := x_pos hc hf
    refine lv_iconst (v := (-1)) hx hb dX6_back_9 (by decide) ?_
    exact x_iret B hw hf dX6_back_10
  · have hf := x_neg hc hf
    refine lv_iload_n hx hb dX6_back_4 rfl (lv_at hl 1 rfl) ?_
    refine lv_iconst (v := 2) hx hb dX6_back_5 (by decide) ?_
    refine lv_icmp_lt (tgt := 11) hx hb dX6_back_6 (by decide) (fun hc => ?_) (fun hc => ?_)
    · have hf := x_pos hc hf
      refine lv_aload_n hx hb dX6_back_11 rfl (lv_at hl 0 rfl) ?_
      refine lv_iload_n hx hb dX6_back_12 rfl (lv_at hl 1 rfl) ?_
      obtain ⟨v2, S1, hc, hf⟩ := x_bd_some hf
      refine x_callV B ExC_ok hw 0 (by decide) rfl rfl (As := [.int x1]) (rest := []) (st1 := .ref (q v2) :: []) (jSmoke_imageOf_ok hc) u668 u670 u16 u38 u671 hdX6_imageOf rfl ⟨Nat.le_of_ble_eq_true rfl, Nat.le_of_ble_eq_true rfl⟩ ⟨rfl, rfl⟩ hl.1 (Nat.le_of_ble_eq_true rfl) dX6_back_13 (fun H locs hw => ?_) rfl rfl
      by_cases hr23 : v2 = 23
      · replace hf := x_pos hr23 hf
        subst hr23
        refine lv_astore_n (lv' := [(2, .ref (q 23)), (0, .ref (q 0)), (1, .int x1)]) hx hb dX6_back_16 rfl hl (by decide) rfl (fun ls hl => ?_)
        refine lv_aload_n hx hb dX6_back_17 rfl (lv_at hl 0 rfl) ?_
        refine x_get B hw (Tb := TX3) inX3 23 (by decide) rfl rfl 7 (by decide) u150 (fun _ h => h) rfl dX6_back_18 ?_
        refine lv_if_ne (tgt := 27) hx hb dX6_back_21 (by decide) (fun hc => ?_) (fun hc => ?_)
        · have hf := x_neg hc hf
          refine lv_aload_n hx hb dX6_back_27 rfl (lv_at hl 1 rfl) ?_
          refine x_get B hw (Tb := TX6) inX6 0 (by decide) rfl rfl 3 (by decide) u233 (fun _ h => h) rfl dX6_back_28 ?_
          refine lv_aload_n hx hb dX6_back_31 rfl (lv_at hl 0 rfl) ?_
          obtain ⟨S3, hc, hf⟩ := x_bv_some hf
          refine x_callV B ExC_ok hw 19 (by decide) rfl rfl (As := [.ref (q 23)]) (rest := []) (st1 := []) (jSuppers_become_19_23_ok hc) u389 u390 u391 u42 u392 hdX3_become rfl ⟨Nat.le_of_ble_eq_true rfl, Nat.le_of_ble_eq_true rfl⟩ ⟨rfl, rfl⟩ hl.1 (Nat.le_of_ble_eq_true rfl) dX6_back_32 (fun H locs hw => ?_) rfl rfl
          refine lv_aload_n hx hb dX6_back_35 rfl (lv_at hl 1 rfl) ?_
          refine x_get B hw (Tb := TX6) inX6 0 (by decide) rfl rfl 3 (by decide) u233 (fun _ h => h) rfl dX6_back_36 ?_
          refine x_get B hw (Tb := TX3) inX3 19 (by decide) rfl rfl 4 (by decide) u143 (fun _ h => h) rfl dX6_back_39 ?_
          exact x_iret B hw hf dX6_back_42
        · have hf := x_pos hc hf
          refine lv_bipush (v := (-2)) hx hb dX6_back_24 (by decide) ?_
          exact x_iret B hw hf dX6_back_26
      replace hf := x_neg hr23 hf
      by_cases hr27 : v2 = 27
      · replace hf := x_pos hr27 hf
        subst hr27
        refine lv_astore_n (lv' := [(2, .ref (q 27)), (0, .ref (q 0)), (1, .int x1)]) hx hb dX6_back_16 rfl hl (by decide) rfl (fun ls hl => ?_)
        refine lv_aload_n hx hb dX6_back_17 rfl (lv_at hl 0 rfl) ?_
        refine x_get B hw (Tb := TX3) inX3 27 (by decide) rfl rfl 7 (by decide) u150 (fun _ h => h) rfl dX6_back_18 ?_
        refine lv_if_ne (tgt := 27) hx hb dX6_back_21 (by decide) (fun hc => ?_) (fun hc => ?_)
        · have hf := x_neg hc hf
          refine lv_aload_n hx hb dX6_back_27 rfl (lv_at hl 1 rfl) ?_
          refine x_get B hw (Tb := TX6) inX6 0 (by decide) rfl rfl 3 (by decide) u233 (fun _ h => h) rfl dX6_back_28 ?_
          refine lv_aload_n hx hb dX6_back_31 rfl (lv_at hl 0 rfl) ?_
          obtain ⟨S4, hc, hf⟩ := x_bv_some hf
          refine x_callV B ExC_ok hw 19 (by decide) rfl rfl (As := [.ref (q 27)]) (rest := []) (st1 := []) (jSuppers_become_19_27_ok hc) u389 u390 u391 u42 u392 hdX3_become rfl ⟨Nat.le_of_ble_eq_true rfl, Nat.le_of_ble_eq_true rfl⟩ ⟨rfl, rfl⟩ hl.1 (Nat.le_of_ble_eq_true rfl) dX6_back_32 (fun H locs hw => ?_) rfl rfl
          refine lv_aload_n hx hb dX6_back_35 rfl (lv_at hl 1 rfl) ?_
          refine x_get B hw (Tb := TX6) inX6 0 (by decide) rfl rfl 3 (by decide) u233 (fun _ h => h) rfl dX6_back_36 ?_
          refine x_get B hw (Tb := TX3) inX3 19 (by decide) rfl rfl 4 (by decide) u143 (fun _ h => h) rfl dX6_back_39 ?_
          exact x_iret B hw hf dX6_back_42
        · have hf := x_pos hc hf
          refine lv_bipush (v := (-2)) hx hb dX6_back_24 (by decide) ?_
          exact x_iret B hw hf dX6_back_26
      replace hf := x_neg hr27 hf
      cases hf
    · have hf := x_neg hc hf
      refine lv_iconst (v := (-1)) hx hb dX6_back_9 (by decide) ?_
      exact x_iret B hw hf dX6_back_10

set_option maxHeartbeats 4000000 in
theorem jSmoke_back_ok {x1 : Int32} {S SF : St} {r : Int32} (hf : jSmoke_back x1 S = some (r, SF)) : XMet l D 40 (cellC T q) q T (ExC aK aV) yX6_back cX6_back 3 (some .int) ({ frames := 1, cells := 0, slots := 0, locals := 22 }) [.ref (q 0), .int x1] S (some (.int r)) SF := by
  refine x_enter (own := RX6) (by decide +kernel) rfl (Nat.le_of_ble_eq_true rfl) (fun p e s m below meth c A B ls hw hl0 => ?_)
  have hl : lv_has ls 3 [(0, .ref (q 0)), (1, .int x1)] := hl0
  exact jSmoke_back_b0_ok B x1 S hf hw hl

set_option maxHeartbeats 4000000 in
theorem jSmoke_count_b0_ok (B : XB p s m args meth c A cX6_count 2 (some .int) RX6) {SF : St} {r : Int32}  (x1 : Int32) (S : St) {H : Heap} {locs : List Loc} {ls : Array Slot} (hf : jSmoke_count x1 S = some (r, SF)) (hw : Xw D 40 (cellC T q) q T (ExC aK aV) A s S H locs) (hl : lv_has ls 2 [(0, .ref (q 0)), (1, .int x1)]) : XG p l e ({ frames := 0, cells := 0, slots := 0, locals := 0 }) s m args below meth c D 40 (cellC T q) q T A SF (some (.int r)) H locs 0 ls [] := by
  unfold jSmoke_count at hf
  obtain ⟨hx, hb, hr, hml, hown, hts, hlk, hA⟩ := id B
  refine lv_iload_n hx hb dX6_count_0 rfl (lv_at hl 1 rfl) ?_
  by_cases hc0 : x1 = 0
  · have hf := x_pos hc0 hf
    refine lv_tableIn (off := 35) (tgt := 36) hx hb dX6_count_1 (by rw [hc0]; decide) (by rw [hc0]; decide) (by rw [hc0]; decide) (by decide) ?_
    refine lv_aload_n hx hb dX6_count_36 rfl (lv_at hl 0 rfl) ?_
    refine x_get B hw (Tb := TX6) inX6 0 (by decide) rfl rfl 3 (by decide) u233 (fun _ h => h) rfl dX6_count_37 ?_
    refine x_get B hw (Tb := TX3) inX3 19 (by decide) rfl rfl 3 (by decide) u140 (fun _ h => h) rfl dX6_count_40 ?_
    exact x_iret B hw hf dX6_count_43
  have hf := x_neg hc0 hf
  by_cases hc1 : x1 = 1
  · have hf := x_pos hc1 hf
    refine lv_tableIn (off := 43) (tgt := 44) hx hb dX6_count_1 (by rw [hc1]; decide) (by rw [hc1]; decide) (by rw [hc1]; decide) (by decide) ?_
    refine lv_aload_n hx hb dX6_count_44 rfl (lv_at hl 0 rfl) ?_
    refine x_get B hw (Tb := TX6) inX6 0 (by decide) rfl rfl 2 (by decide) u232 (fun _ h => h) rfl dX6_count_45 ?_
    refine x_get B hw (Tb := TX1) inX1 14 (by decide) rfl rfl 4 (by decide) u115 (fun _ h => h) rfl dX6_count_48 ?_
    exact x_iret B hw hf dX6_count_51
  have hf := x_neg hc1 hf
  by_cases hc2 : x1 = 2
  · have hf := x_pos hc2 hf
    refine lv_tableIn (off := 51) (tgt := 52) hx hb dX6_count_1 (by rw [hc2]; decide) (by rw [hc2]; decide) (by rw [hc2]; decide) (by decide) ?_
    refine lv_aload_n hx hb dX6_count_52 rfl (lv_at hl 0 rfl) ?_
    refine x_get B hw (Tb := TX6) inX6 0 (by decide) rfl rfl 3 (by decide) u233 (fun _ h => h) rfl dX6_count_53 ?_
    refine x_get B hw (Tb := TX3) inX3 19 (by decide) rfl rfl 4 (by decide) u143 (fun _ h => h) rfl dX6_count_56 ?_
    exact x_iret B hw hf dX6_count_59
  have hf := x_neg hc2 hf
  by_cases hc3 : x1 = 3
  · have hf := x_pos hc3 hf
    refine lv_tableIn (off := 59) (tgt := 60) hx hb dX6_count_1 (by rw [hc3]; decide) (by rw [hc3]; decide) (by rw [hc3]; decide) (by decide) ?_
    refine lv_aload_n hx hb dX6_count_60 rfl (lv_at hl 0 rfl) ?_
    refine x_get B hw (Tb := TX6) inX6 0 (by decide) rfl rfl 3 (by decide) u233 (fun _ h => h) rfl dX6_count_61 ?_
    refine x_get B hw (Tb := TX3) inX3 19 (by decide) rfl rfl 5 (by decide) u146 (fun _ h => h) rfl dX6_count_64 ?_
    exact x_iret B hw hf dX6_count_67
  have hf := x_neg hc3 hf
  by_cases hc4 : x1 = 4
  · have hf := x_pos hc4 hf
    refine lv_tableIn (off := 67) (tgt := 68) hx hb dX6_count_1 (by rw [hc4]; decide) (by rw [hc4]; decide) (by rw [hc4]; decide) (by decide) ?_
    refine lv_aload_n hx hb dX6_count_68 rfl (lv_at hl 0 rfl) ?_
    refine x_get B hw (Tb := TX6) inX6 0 (by decide) rfl rfl 0 (by decide) u230 (fun _ h => h) rfl dX6_count_69 ?_
    refine x_get B hw (Tb := TX5) inX5 1 (by decide) rfl rfl 1 (by decide) u68 (fun _ h => h) rfl dX6_count_72 ?_
    exact x_iret B hw hf dX6_count_75
  have hf := x_neg hc4 hf
  have hd0 : ¬ Int32.toInt x1 = 0 := x_ne hc0 (by decide)
  have hd1 : ¬ Int32.toInt x1 = 1 := x_ne hc1 (by decide)
  have hd2 : ¬ Int32.toInt x1 = 2 := x_ne hc2 (by decide)
  have hd3 : ¬ Int32.toInt x1 = 3 := x_ne hc3 (by decide)
  have hd4 : ¬ Int32.toInt x1 = 4 := x_ne hc4 (by decide)
  refine lv_tableOut (tgt := 76) hx hb dX6_count_1 (by omega) (by decide) ?_
  refine lv_iconst (v := (-1)) hx hb dX6_count_76 (by decide) ?_
  exact x_iret B hw hf dX6_count_77

set_option maxHeartbeats 4000000 in
theorem jSmoke_count_ok {x1 : Int32} {S SF : St} {r : Int32} (hf : jSmoke_count x1 S = some (r, SF)) : XMet l D 40 (cellC T q) q T (ExC aK aV) yX6_count cX6_count 2 (some .int) ({ frames := 0, cells := 0, slots := 0, locals := 0 }) [.ref (q 0), .int x1] S (some (.int r)) SF := by
  refine x_enter (own := RX6) (by decide +kernel) rfl (Nat.le_of_ble_eq_true rfl) (fun p e s m below meth c A B ls hw hl0 => ?_)
  have hl : lv_has ls 2 [(0, .ref (q 0)), (1, .int x1)] := hl0
  exact jSmoke_count_b0_ok B x1 S hf hw hl

set_option maxHeartbeats 4000000 in
theorem jSmoke_trace_b0_ok (B : XB p s m args meth c A cX6_trace 1 (some .long) RX6) {SF : St} {r : Int64}  (S : St) {H : Heap} {locs : List Loc} {ls : Array Slot} (hf : jSmoke_trace S = some (r, SF)) (hw : Xw D 40 (cellC T q) q T (ExC aK aV) A s S H locs) (hl : lv_has ls 1 [(0, .ref (q 0))]) : XG p l e ({ frames := 0, cells := 0, slots := 0, locals := 0 }) s m args below meth c D 40 (cellC T q) q T A SF (some (.long r)) H locs 0 ls [] := by
  unfold jSmoke_trace at hf
  obtain ⟨hx, hb, hr, hml, hown, hts, hlk, hA⟩ := id B
  refine lv_aload_n hx hb dX6_trace_0 rfl (lv_at hl 0 rfl) ?_
  refine x_get B hw (Tb := TX6) inX6 0 (by decide) rfl rfl 9 (by decide) u239 (fun _ h => h) rfl dX6_trace_1 ?_
  exact x_lret B hw hf dX6_trace_4

set_option maxHeartbeats 4000000 in
theorem jSmoke_trace_ok {S SF : St} {r : Int64} (hf : jSmoke_trace S = some (r, SF)) : XMet l D 40 (cellC T q) q T (ExC aK aV) yX6_trace cX6_trace 1 (some .long) ({ frames := 0, cells := 0, slots := 0, locals := 0 }) [.ref (q 0)] S (some (.long r)) SF := by
  refine x_enter (own := RX6) (by decide +kernel) rfl (Nat.le_of_ble_eq_true rfl) (fun p e s m below meth c A B ls hw hl0 => ?_)
  have hl : lv_has ls 1 [(0, .ref (q 0))] := hl0
  exact jSmoke_trace_b0_ok B S hf hw hl
end
