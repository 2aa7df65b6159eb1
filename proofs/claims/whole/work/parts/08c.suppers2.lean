/-! undo, burns, gives -/
def undoL (N : Mn) (P : Sp) (h d : Nat) : Nat → Nat := fun k => if P.L h k + N.need d k ≤ 9 then P.L h k + N.need d k else 9
def undoSp (N : Mn) (P : Sp) (h d i : Nat) : Sp := (mixL P.L h (undoL N P h d) i, P.np - 1, P.ph, P.pd, P.fog, P.lot)
def sUndo (g : Gh) : Int32 × Gh := if g.now.np = 0 then (-2, g) else (nI (g.now.np - 1), g.setNow (undoSp g.mn g.now (g.now.ph (g.now.np - 1)) (g.now.pd (g.now.np - 1)) 5))
theorem CMn.rows {N : Mn} {S S' : St} (h : CMn 14 N S) (h1 : ∀ r, 14 ≤ r ∧ r ≤ 18 → S'.1 r = S.1 r) : CMn 14 N S' := by
  unfold CMn at *
  rw [h1 14 (by omega), h1 (14 + 1) (by omega), h1 (14 + 2) (by omega), h1 (14 + 3) (by omega), h1 (14 + 4) (by omega)]
  exact h
theorem c_undo {g : Gh} {S : St} (hr : CR g S) (hw : WG g) : COk (sUndo g).2 (sUndo g).1 (jSmoke_undo S) := by
  have h6 := hw.nh
  have h8 := hw.mn.1
  have hnp := hw.sp.2.1
  unfold jSmoke_undo sUndo
  rw [hr.sp.2.1, z0, z1]
  by_cases h0 : g.now.np = 0
  · rw [if_pos h0, if_neg (nI_nlt (by omega) (by omega))]
    exact ⟨_, rfl, hr⟩
  · rw [if_neg h0, if_pos (nI_lt (by omega) (by omega)), nI_sub (by omega)]
    have hp := hr.sp.2.2.2.2.2 (g.now.np - 1) (by omega)
    obtain ⟨hh, hd⟩ := hw.sp.2.2.1 (g.now.np - 1) (by omega)
    generalize g.now.ph (g.now.np - 1) = h at hh hp ⊢
    generalize g.now.pd (g.now.np - 1) = d at hd hp ⊢
    have p1 : S.1 21 (g.now.np - 1) = nI h := hp.1
    have p2 : S.1 22 (g.now.np - 1) = nI d := hp.2
    have hb := hw.sp.1 h hh
    have hb2 := (hw.mn.2 d hd).1
    rw [px_lt, upI_hit, px_ld (by omega) (by omega), upI_row (by decide), p1, px_ld (by omega) (by omega), upI_row (by decide), p2]
    have key := for_up (F := fun n i s => jSmoke_undo_h60 n (nI h) (nI d) (nI i) s) (N := 5) (I := fun i s => rowsC S s [19, 20] ∧ CSp 19 g.nh (undoSp g.mn g.now h d i) s) (fun r => r.1 = nI (g.now.np - 1) ∧ CR (g.setNow (undoSp g.mn g.now h d 5)) r.2) ?_ ?_ (i := 0) (s := upI S 19 4 (nI (g.now.np - 1))) (Nat.zero_le _) ⟨rowsC.rf.up (by decide), ?_⟩ (n := FU) (by decide)
    · obtain ⟨⟨r, S'⟩, e, h1, h2⟩ := key
      dsimp only at h1 h2
      subst h1
      exact ⟨S', e, h2⟩
    · intro n i s hi ⟨hI, hJ⟩
      right
      have hm : CMn 14 g.mn s := hr.mn.rows (fun r hr' => hI.1 r (by simp; omega))
      have e : s.1 20 (h * 5 + i) = nI (mixL g.now.L h (undoL g.mn g.now h d) i h i) := hJ.2.2.2.2.1 h hh i hi
      rw [mixL_ge] at e
      have e2 := stock_ok hJ hw.nh hh hi
      rw [show (undoSp g.mn g.now h d i).L h i = mixL g.now.L h (undoL g.mn g.now h d) i h i from rfl, mixL_ge] at e2
      have b1 := hb i hi
      have b2 := hb2 i hi
      have ev : (if nI (g.mn.need d i) < nI (9 - g.now.L h i) then nI (g.mn.need d i) else nI (9 - g.now.L h i)) = nI (undoL g.mn g.now h d i - g.now.L h i) := by
        unfold undoL
        by_cases c : g.mn.need d i < 9 - g.now.L h i
        · rw [if_pos (nI_lt c (by omega)), if_pos (by omega), Nat.add_sub_cancel_left]
        · rw [if_neg (nI_nlt (by omega) (by omega))]
          congr 1
          split <;> omega
      have e3 : g.now.L h i ≤ undoL g.mn g.now h d i := by unfold undoL; split <;> omega
      rw [jSmoke_undo_h60, jSmoke_undo_b60, z5, if_neg (nI_ge hi (by decide)), e2, px_bd, px_lt, need_ok hm hw.mn hd hi, px_bd, z9, nI_sub b1, ev, change_ok (by omega) hi, px_bv, e, nI_add, Nat.add_sub_cancel' e3, z1, nI_add]
      refine ⟨_, rfl, hI.up (by decide), hJ.larder hi (fun h' k' _ _ => ?_)⟩
      exact mixL_step
    · intro n s ⟨hI, hJ⟩
      have a2 : s.1 19 4 = nI (g.now.np - 1) := hJ.2.1
      rw [jSmoke_undo_h60, jSmoke_undo_b60, z5, if_pos (nI_le (Nat.le_refl _) (by decide)), a2]
      exact ⟨_, rfl, rfl, hr.setSp (fun r hr' => hI.1 r (by simp; omega)) (congrFun hI.2 0) hJ⟩
    · obtain ⟨a1, a2, a3, a4, a5, a6⟩ := hr.sp
      refine ⟨by rw [upI_off (by decide)]; exact a1, by rw [upI_hit]; rfl, by rw [upI_off (by decide)]; exact a3, by rw [upI_off (by decide)]; exact a4, fun h' hh' k hk => ?_, fun j hj => ?_⟩
      · rw [upI_row (by decide)]
        show _ = nI (mixL g.now.L h (undoL g.mn g.now h d) 0 h' k)
        rw [mixL_0]
        exact a5 h' hh' k hk
      · have hj : j < g.now.np - 1 := hj
        rw [upI_row (by decide), upI_row (by decide)]
        exact a6 j (by omega)
theorem m_undo {g : Gh} {M : St} (hr : MR g M) (hw : WG g) : MOk (sUndo g).2 (sUndo g).1 (jMod_undo M) := by
  have h6 := hw.nh
  have h8 := hw.mn.1
  have hnp := hw.sp.2.1
  have a1 : M.1 9 32 = nI g.now.np := hr.sp.1
  unfold jMod_undo sUndo
  rw [z32, px_ld (by omega) (by omega), a1]
  by_cases h0 : g.now.np = 0
  · rw [if_pos h0, h0, ← z0, if_pos rfl]
    exact ⟨_, rfl, hr⟩
  · rw [if_neg h0, if_neg (nI_ne0 (by omega) (by omega)), px_ld (by omega) (by omega), a1, px_gd (by omega) (by omega), px_lt, nI_clamp (by omega), z1, nI_sub (by omega)]
    have hp := hr.sp.2.2.2.2 (g.now.np - 1) (by omega)
    obtain ⟨hh, hd⟩ := hw.sp.2.2.1 (g.now.np - 1) (by omega)
    rw [Nat.zero_add, Nat.zero_add] at hp
    generalize hph : g.now.ph (g.now.np - 1) = h at hh hp ⊢
    generalize hpd : g.now.pd (g.now.np - 1) = d at hd hp ⊢
    have hb := hw.sp.1 h hh
    have hb2 := (hw.mn.2 d hd).1
    rw [px_ld (by omega) (by omega), upI_hit, z33, z2, nI_mul, nI_add, px_ld (by omega) (by omega), upI_off (by omega), hp.1, px_ld (by omega) (by omega), upI_hit, nI_mul, nI_add, nI_add, px_ld (by omega) (by omega), upI_off (by omega), hp.2]
    have key := for_up (F := fun n i s => jMod_undo_h64 n (nI h) (nI d) (nI i) s) (N := 5) (I := fun i s => rowsC M s [9] ∧ hi9 M s ∧ MSp 0 g.nh (undoSp g.mn g.now h d i) s) (fun r => r.1 = nI (g.now.np - 1) ∧ MR (g.setNow (undoSp g.mn g.now h d 5)) r.2) ?_ ?_ (i := 0) (s := upI M 9 32 (nI (g.now.np - 1))) (Nat.zero_le _) ⟨rowsC.rf.up (by decide), hi9.rf.up (by omega), ?_⟩ (n := FU) (by decide)
    · obtain ⟨⟨r, S'⟩, e, h1, h2⟩ := key
      dsimp only at h1 h2
      subst h1
      exact ⟨S', e, h2⟩
    · intro n i s hi ⟨hI, hQ, hJ⟩
      right
      have e : s.1 9 (0 + (5 * h + i)) = nI (mixL g.now.L h (undoL g.mn g.now h d) i h i) := hJ.2.2.2.1 h hh i hi
      rw [mixL_ge, Nat.zero_add] at e
      have e2 := (hr.mn d hd).1 i hi
      rw [Nat.zero_add] at e2
      have b1 := hb i hi
      have b2 := hb2 i hi
      have fin : ∀ v, v = undoL g.mn g.now h d i → jMod_undo_b115 (jMod_undo_h64 n) (nI h) (nI d) (nI i) (nI v) (nI (5 * h + i)) s = jMod_undo_h64 n (nI h) (nI d) (nI (i + 1)) (upI s 9 (5 * h + i) (nI (undoL g.mn g.now h d i))) := by
        intro v hv
        unfold jMod_undo_b115
        rw [px_gd (by omega) (by omega), px_lt, nI_clamp (by omega), hv, z1, nI_add]
      rw [jMod_undo_h64, jMod_undo_b64, z5, if_neg (nI_ge hi (by decide)), nI_mul, nI_add, px_ld (by omega) (by omega), e, nI_mul, nI_add, px_ld (by omega) (by omega), hI.1 5 (by decide), e2, px_lt, nI_add, z9]
      refine ⟨upI s 9 (5 * h + i) (nI (undoL g.mn g.now h d i)), ?_, hI.up (by decide), hQ.up (by omega), hJ.larder hw.nh hh hi (fun h' k' _ _ => mixL_step)⟩
      by_cases c : g.now.L h i + g.mn.need d i ≤ 9
      · rw [if_pos (nI_le c (by omega)), fin _ (by unfold undoL; rw [if_pos c])]
      · rw [if_neg (nI_ge (by omega) (by omega)), fin _ (by unfold undoL; rw [if_neg c])]
    · intro n s ⟨hI, hQ, hJ⟩
      have a2 : s.1 9 32 = nI (g.now.np - 1) := hJ.1
      rw [jMod_undo_h64, jMod_undo_b64, z5, if_pos (nI_le (Nat.le_refl _) (by decide)), z32, px_ld (by omega) (by omega), a2]
      exact ⟨_, rfl, rfl, hr.setSp (fun r h1 h2 => hI.1 r (by simp; omega)) hQ (congrFun hI.2 0) hJ⟩
    · obtain ⟨a1, a2, a3, a4, a5⟩ := hr.sp
      refine ⟨by rw [upI_hit]; rfl, by rw [upI_off (by decide)]; exact a2, by rw [upI_off (by decide)]; exact a3, fun h' hh' k hk => ?_, fun j hj => ?_⟩
      · have := a4 h' hh' k hk
        rw [Nat.zero_add] at this ⊢
        rw [upI_off (by omega)]
        show _ = nI (mixL g.now.L h (undoL g.mn g.now h d) 0 h' k)
        rw [mixL_0]
        exact this
      · have hj : j < g.now.np - 1 := hj
        have := a5 j (by omega)
        rw [Nat.zero_add, Nat.zero_add] at this ⊢
        rw [upI_off (by omega), upI_off (by omega)]
        exact this
theorem w_undo {g : Gh} (hw : WG g) : WG (sUndo g).2 := by
  unfold sUndo
  by_cases h0 : g.now.np = 0
  · rw [if_pos h0]; exact hw
  · rw [if_neg h0]
    obtain ⟨b1, b2, b3, b4⟩ := hw.sp
    obtain ⟨hh, hd⟩ := b3 (g.now.np - 1) (by omega)
    refine hw.setSp ⟨fun h' hh' k hk' => mixL_le (f := undoL g.mn g.now _ _) (b1 h' hh' k hk') (fun _ => by unfold undoL; split <;> omega), (by show g.now.np - 1 ≤ 20; omega), fun j hj' => ?_, b4⟩
    have hj' : j < g.now.np - 1 := hj'
    exact b3 j (by omega)
/-! burns -/
def burnSp (P : Sp) (h i : Nat) : Sp := (mixL P.L h (fun _ => 0) i, P.2)
def sBurns (g : Gh) (h : Int32) : Int32 × Gh := if rg h g.nh then (nI (sumN (g.now.L h.toNatClampNeg) 5), g.setNow (burnSp g.now h.toNatClampNeg 5)) else (-1, g)
theorem c_burns {g : Gh} {S : St} (hr : CR g S) (hw : WG g) (h : Int32) : COk (sBurns g h).2 (sBurns g h).1 (jSmoke_burns h S) := by
  have h6 := hw.nh
  unfold jSmoke_burns sBurns
  by_cases hh : rg h g.nh
  · rw [if_pos hh]
    obtain ⟨h, hj, rfl⟩ := rg_of hh (by omega)
    rw [hasHouse_t hr.sp hw.nh hj, px_bd, if_neg n10, nI_clamp (by omega), allStock_ok hr.sp hw.nh hj, px_bd]
    have key := for_up (F := fun n i s => jSmoke_burns_h24 n (nI h) (nI (sumN (g.now.L h) 5)) (nI i) s) (N := 5) (I := fun i s => rowsC S s [20] ∧ CSp 19 g.nh (burnSp g.now h i) s) (fun r => r.1 = nI (sumN (g.now.L h) 5) ∧ CR (g.setNow (burnSp g.now h 5)) r.2) ?_ ?_ (i := 0) (s := S) (Nat.zero_le _) ⟨rowsC.rf, by unfold burnSp; rw [mixL_0]; exact hr.sp⟩ (n := FU) (by decide)
    · obtain ⟨⟨r, S'⟩, e, h1, h2⟩ := key
      dsimp only at h1 h2
      subst h1
      exact ⟨S', e, h2⟩
    · intro n i s hi ⟨hI, hJ⟩
      right
      have e : s.1 20 (h * 5 + i) = nI (mixL g.now.L h (fun _ => 0) i h i) := hJ.2.2.2.2.1 h hj i hi
      rw [mixL_ge] at e
      have e2 := stock_ok hJ hw.nh hj hi
      rw [show (burnSp g.now h i).L h i = mixL g.now.L h (fun _ => 0) i h i from rfl, mixL_ge] at e2
      rw [jSmoke_burns_h24, jSmoke_burns_b24, z5, if_neg (nI_ge hi (by decide)), e2, px_bd, change_ok (by omega) hi, px_bv, e, nI_addneg (Nat.le_refl _), Nat.sub_self, z1, nI_add]
      exact ⟨_, rfl, hI.up (by decide), hJ.larder hi (fun h' k' _ _ => mixL_step)⟩
    · intro n s ⟨hI, hJ⟩
      rw [jSmoke_burns_h24, jSmoke_burns_b24, z5, if_pos (nI_le (Nat.le_refl _) (by decide))]
      exact ⟨_, rfl, rfl, hr.setSp (fun r hr' => hI.1 r (by simp; omega)) (congrFun hI.2 0) hJ⟩
  · rw [if_neg hh, hasHouse_f hr.sp hh, px_bd, if_pos rfl]
    exact ⟨_, rfl, hr⟩
theorem m_burns {g : Gh} {M : St} (hr : MR g M) (hw : WG g) (h : Int32) : MOk (sBurns g h).2 (sBurns g h).1 (jMod_burns h M) := by
  have h6 := hw.nh
  unfold jMod_burns sBurns
  by_cases hh : rg h g.nh
  · rw [if_pos hh]
    obtain ⟨h, hj, rfl⟩ := rg_of hh (by omega)
    rw [isHouse_t hr hw hj, px_bd, if_neg n10, nI_clamp (by omega), storeOf_ok hr hw hj, px_bd]
    have key := for_up (F := fun n i s => jMod_burns_h18 n (nI h) (nI (sumN (g.now.L h) 5)) (nI i) s) (N := 5) (I := fun i s => rowsC M s [9] ∧ hi9 M s ∧ MSp 0 g.nh (burnSp g.now h i) s) (fun r => r.1 = nI (sumN (g.now.L h) 5) ∧ MR (g.setNow (burnSp g.now h 5)) r.2) ?_ ?_ (i := 0) (s := M) (Nat.zero_le _) ⟨rowsC.rf, hi9.rf, by unfold burnSp; rw [mixL_0]; exact hr.sp⟩ (n := FU) (by decide)
    · obtain ⟨⟨r, S'⟩, e, h1, h2⟩ := key
      dsimp only at h1 h2
      subst h1
      exact ⟨S', e, h2⟩
    · intro n i s hi ⟨hI, hQ, hJ⟩
      right
      rw [jMod_burns_h18, jMod_burns_b18, z5, if_neg (nI_ge hi (by decide)), nI_mul, nI_add, px_gd (by omega) (by omega), px_lt, nI_clamp (by omega), z1, nI_add]
      exact ⟨_, rfl, hI.up (by decide), hQ.up (by omega), hJ.larder (v := 0) hw.nh hj hi (fun h' k' _ _ => mixL_step)⟩
    · intro n s ⟨hI, hQ, hJ⟩
      rw [jMod_burns_h18, jMod_burns_b18, z5, if_pos (nI_le (Nat.le_refl _) (by decide))]
      exact ⟨_, rfl, rfl, hr.setSp (fun r h1 h2 => hI.1 r (by simp; omega)) hQ (congrFun hI.2 0) hJ⟩
  · rw [if_neg hh, isHouse_f hr hw hh, px_bd, if_pos rfl]
    exact ⟨_, rfl, hr⟩
theorem w_burns {g : Gh} (hw : WG g) (h : Int32) : WG (sBurns g h).2 := by
  unfold sBurns
  by_cases hh : rg h g.nh
  · rw [if_pos hh]
    obtain ⟨b1, b2, b3, b4⟩ := hw.sp
    exact hw.setSp ⟨fun h' hh' k hk' => mixL_le (f := fun _ => 0) (b1 h' hh' k hk') (fun _ => Nat.zero_le _), b2, b3, b4⟩
  · rw [if_neg hh]; exact hw
