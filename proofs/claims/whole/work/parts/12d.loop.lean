/-! THE LAW: its loop -/
set_option maxHeartbeats 4000000 in
set_option maxRecDepth 100000 in
theorem law_loop {p : Program} {l : Launch} {e : Env} {s : State} {m : MethodId} {below : List Frame} {meth : Method} {c : Code} {cells slots : Nat} {D : va_G} {T : Nat → ClassId} {q q' : Nat → Nat} {aK aV : Nat → Nat} {b L : Nat} {xs : Nat → Int32} (C : LC p s m meth c b L xs D T q q' aK aV) (hcs : cells ≤ room_1.cells ∧ slots ≤ room_1.slots) :
    ∀ (k n : Nat) (g : Gh) (S M : St) (H : Heap) (locs : List Loc) (ls : Array Slot), L < n + k → n < 1000 → CR g S → MR g M → WG g → LWS s D T q q' S M H locs → lv_has ls 4 (LV b q q' n) → W p l e room_1 s m #[Value.ref b] below meth c H locs cells slots (lw_Z below #[Value.ref b] s) (F0 m 18 ls []) := by
  obtain ⟨⟨hx, hb, hret, hml, hown, hts, hlocks, hA⟩, hX, hbl, hL, -⟩ := id C
  have hbA : ¬ AL s b := Nat.not_le.mpr hbl
  intro k
  induction k with
  | zero =>
    intro n g S M H locs ls hk hn9 hr hm hw W0 hl
    refine lv_iload_n hx hb dL_law_18 rfl (lv_at hl 3 rfl) ?_
    refine lv_aload_n hx hb dL_law_19 rfl (lv_at hl 0 rfl) ?_
    refine va_slen hx hb hX hbl hbA W0.2.2.2.2 dL_law_20 ?_
    refine lv_bipush (v := 6) hx hb dL_law_21 (by decide) ?_
    refine lv_isub hx hb dL_law_23 ?_
    refine lv_icmp_gt (tgt := 1042) hx hb dL_law_24 (by decide) (fun hc => ?_) (fun hc => ?_)
    · refine lv_iconst (v := 1) hx hb dL_law_1042 (by decide) ?_
      refine va_forget (fun x hx => W0.2.2.2.2.2.2 x hx) ?_
      refine W.widen (k := 600000) (n := 7302250) hcs.1 hcs.2 ?_
      exact lw_ret hx hb hret hlocks dL_law_1043
    · exfalso
      apply hc
      apply Int32.lt_iff_toInt_lt.mpr
      have e1 : (nI L - nI 6).toInt = (L : Int) - 6 := pk_sub_toInt (by omega) (by omega)
      have e2 := nI_toInt (n := n) (by omega)
      show (nI L - nI 6).toInt < (nI n).toInt
      omega
  | succ k ih =>
    intro n g S M H locs ls hk hn9 hr hm hw W0 hl
    refine lv_iload_n hx hb dL_law_18 rfl (lv_at hl 3 rfl) ?_
    refine lv_aload_n hx hb dL_law_19 rfl (lv_at hl 0 rfl) ?_
    refine va_slen hx hb hX hbl hbA W0.2.2.2.2 dL_law_20 ?_
    refine lv_bipush (v := 6) hx hb dL_law_21 (by decide) ?_
    refine lv_isub hx hb dL_law_23 ?_
    refine lv_icmp_gt (tgt := 1042) hx hb dL_law_24 (by decide) (fun hc => ?_) (fun hc => ?_)
    · refine lv_iconst (v := 1) hx hb dL_law_1042 (by decide) ?_
      refine va_forget (fun x hx => W0.2.2.2.2.2.2 x hx) ?_
      refine W.widen (k := 600000) (n := 7302250) hcs.1 hcs.2 ?_
      exact lw_ret hx hb hret hlocks dL_law_1043
    have hn : n + 6 ≤ L := by
      rcases Nat.lt_or_ge L (n + 6) with z | z
      · exfalso
        apply hc
        apply Int32.lt_iff_toInt_lt.mpr
        have e1 : (nI L - nI 6).toInt = (L : Int) - 6 := pk_sub_toInt (by omega) (by omega)
        have e2 := nI_toInt (n := n) (by omega)
        show (nI L - nI 6).toInt < (nI n).toInt
        omega
      · exact z
    have K : ∀ (g' : Gh) (S' M' : St) (H' : Heap) (locs' : List Loc), CR g' S' → MR g' M' → WG g' → LWS s D T q q' S' M' H' locs' → W p l e room_1 s m #[Value.ref b] below meth c H' locs' cells slots (lw_Z below #[Value.ref b] s) (F0 m 1036 ls []) := fun g' S' M' H' locs' h1 h2 h3 W1 => by
      refine lv_iinc (v := nI (n + 6)) (lv' := [(3, .int (nI (n + 6))), (0, .ref b), (1, .ref (q 0)), (2, .ref (q' 0))]) hx hb dL_law_1036 hl (k := 3) rfl (xi_6.trans (nI_add n 6)) (by decide) rfl (fun ls hl => ?_)
      refine lv_goto (tgt := 18) hx hb dL_law_1039 (by decide) ?_
      exact ih (n + 6) g' S' M' H' locs' ls (by omega) (by omega) h1 h2 h3 W1 (lv_sub hl [1, 2, 3, 0] rfl)
    have hin : vp_in (nI n) L := vp_in_nI (by omega) (by omega)
    refine lv_aload_n hx hb dL_law_27 rfl (lv_at hl 0 rfl) ?_
    refine lv_iload_n hx hb dL_law_28 rfl (lv_at hl 3 rfl) ?_
    refine va_sld hx hb hX hbl hbA W0.2.2.2.2 hin dL_law_29 ?_
    refine lv_bipush (v := 31) hx hb dL_law_30 (by decide) ?_
    refine lv_iand hx hb dL_law_32 ?_
    obtain ⟨j, hj, ej⟩ := pk_andE (xs (nI n).toNatClampNeg) (m := 31) 5 (by decide)
    rw [ej]
    have hj : j < 32 := hj
    clear ej
    match j, hj with
    | 0, _ => exact lv_tableIn (off := 127) (tgt := 160) hx hb dL_law_33 (by decide) (by decide) (by decide +kernel) (by decide) (law_type C W0 hr hm hw hn hl hcs K)
    | 1, _ => exact lv_tableIn (off := 190) (tgt := 223) hx hb dL_law_33 (by decide) (by decide) (by decide +kernel) (by decide) (law_clear C W0 hr hm hw hn hl hcs K)
    | 2, _ => exact lv_tableIn (off := 203) (tgt := 236) hx hb dL_law_33 (by decide) (by decide) (by decide +kernel) (by decide) (law_valley C W0 hr hm hw hn hl hcs K)
    | 3, _ => exact lv_tableIn (off := 216) (tgt := 249) hx hb dL_law_33 (by decide) (by decide) (by decide +kernel) (by decide) (law_house C W0 hr hm hw hn hl hcs K)
    | 4, _ => exact lv_tableIn (off := 249) (tgt := 282) hx hb dL_law_33 (by decide) (by decide) (by decide +kernel) (by decide) (law_dish C W0 hr hm hw hn hl hcs K)
    | 5, _ => exact lv_tableIn (off := 282) (tgt := 315) hx hb dL_law_33 (by decide) (by decide) (by decide +kernel) (by decide) (law_cook C W0 hr hm hw hn hl hcs K)
    | 6, _ => exact lv_tableIn (off := 315) (tgt := 348) hx hb dL_law_33 (by decide) (by decide) (by decide +kernel) (by decide) (law_undo C W0 hr hm hw hn hl hcs K)
    | 7, _ => exact lv_tableIn (off := 328) (tgt := 361) hx hb dL_law_33 (by decide) (by decide) (by decide +kernel) (by decide) (law_gives C W0 hr hm hw hn hl hcs K)
    | 8, _ => exact lv_tableIn (off := 381) (tgt := 414) hx hb dL_law_33 (by decide) (by decide) (by decide +kernel) (by decide) (law_burns C W0 hr hm hw hn hl hcs K)
    | 9, _ => exact lv_tableIn (off := 404) (tgt := 437) hx hb dL_law_33 (by decide) (by decide) (by decide +kernel) (by decide) (law_plume C W0 hr hm hw hn hl hcs K)
    | 10, _ => exact lv_tableIn (off := 437) (tgt := 470) hx hb dL_law_33 (by decide) (by decide) (by decide +kernel) (by decide) (law_fog C W0 hr hm hw hn hl hcs K)
    | 11, _ => exact lv_tableIn (off := 460) (tgt := 493) hx hb dL_law_33 (by decide) (by decide) (by decide +kernel) (by decide) (law_says C W0 hr hm hw hn hl hcs K)
    | 12, _ => exact lv_tableIn (off := 523) (tgt := 556) hx hb dL_law_33 (by decide) (by decide) (by decide +kernel) (by decide) (law_nearest C W0 hr hm hw hn hl hcs K)
    | 13, _ => exact lv_tableIn (off := 576) (tgt := 609) hx hb dL_law_33 (by decide) (by decide) (by decide +kernel) (by decide) (law_reads C W0 hr hm hw hn hl hcs K)
    | 14, _ => exact lv_tableIn (off := 609) (tgt := 642) hx hb dL_law_33 (by decide) (by decide) (by decide +kernel) (by decide) (law_means C W0 hr hm hw hn hl hcs K)
    | 15, _ => exact lv_tableIn (off := 632) (tgt := 665) hx hb dL_law_33 (by decide) (by decide) (by decide +kernel) (by decide) (law_chain C W0 hr hm hw hn hl hcs K)
    | 16, _ => exact lv_tableIn (off := 676) (tgt := 709) hx hb dL_law_33 (by decide) (by decide) (by decide +kernel) (by decide) (law_who C W0 hr hm hw hn hl hcs K)
    | 17, _ => exact lv_tableIn (off := 719) (tgt := 752) hx hb dL_law_33 (by decide) (by decide) (by decide +kernel) (by decide) (law_days C W0 hr hm hw hn hl hcs K)
    | 18, _ => exact lv_tableIn (off := 742) (tgt := 775) hx hb dL_law_33 (by decide) (by decide) (by decide +kernel) (by decide) (law_code C W0 hr hm hw hn hl hcs K)
    | 19, _ => exact lv_tableIn (off := 785) (tgt := 818) hx hb dL_law_33 (by decide) (by decide) (by decide +kernel) (by decide) (law_feast C W0 hr hm hw hn hl hcs K)
    | 20, _ => exact lv_tableIn (off := 818) (tgt := 851) hx hb dL_law_33 (by decide) (by decide) (by decide +kernel) (by decide) (law_silent C W0 hr hm hw hn hl hcs K)
    | 21, _ => exact lv_tableIn (off := 841) (tgt := 874) hx hb dL_law_33 (by decide) (by decide) (by decide +kernel) (by decide) (law_drawn C W0 hr hm hw hn hl hcs K)
    | 22, _ => exact lv_tableIn (off := 864) (tgt := 897) hx hb dL_law_33 (by decide) (by decide) (by decide +kernel) (by decide) (law_lot C W0 hr hm hw hn hl hcs K)
    | 23, _ => exact lv_tableIn (off := 887) (tgt := 920) hx hb dL_law_33 (by decide) (by decide) (by decide +kernel) (by decide) (law_mark C W0 hr hm hw hn hl hcs K)
    | 24, _ => exact lv_tableIn (off := 920) (tgt := 953) hx hb dL_law_33 (by decide) (by decide) (by decide +kernel) (by decide) (law_keep C W0 hr hm hw hn hl hcs K)
    | 25, _ => exact lv_tableIn (off := 943) (tgt := 976) hx hb dL_law_33 (by decide) (by decide) (by decide +kernel) (by decide) (law_back C W0 hr hm hw hn hl hcs K)
    | 26, _ => exact lv_tableIn (off := 966) (tgt := 999) hx hb dL_law_33 (by decide) (by decide) (by decide +kernel) (by decide) (law_count C W0 hr hm hw hn hl hcs K)
    | 27, _ => exact lv_tableIn (off := 989) (tgt := 1022) hx hb dL_law_33 (by decide) (by decide) (by decide +kernel) (by decide) (law_trace C W0 hr hm hw hn hl hcs K)
    | 28, _ => exact lv_tableOut (tgt := 1036) hx hb dL_law_33 (by decide) (by decide) (K g S M H locs hr hm hw W0)
    | 29, _ => exact lv_tableOut (tgt := 1036) hx hb dL_law_33 (by decide) (by decide) (K g S M H locs hr hm hw W0)
    | 30, _ => exact lv_tableOut (tgt := 1036) hx hb dL_law_33 (by decide) (by decide) (K g S M H locs hr hm hw W0)
    | 31, _ => exact lv_tableOut (tgt := 1036) hx hb dL_law_33 (by decide) (by decide) (K g S M H locs hr hm hw W0)
    | j + 32, hj => exact absurd hj (by omega)
