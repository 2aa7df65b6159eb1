/-! fog, clear, lot, count, trace, dish, drawn -/
abbrev Sp.setFog (P : Sp) (f : Nat) : Sp := (P.1, P.2.1, P.2.2.1, P.2.2.2.1, f, P.2.2.2.2.2)
abbrev Sp.setLot (P : Sp) (v : Int32) : Sp := (P.1, P.2.1, P.2.2.1, P.2.2.2.1, P.2.2.2.2.1, v)
theorem CSp.fogged {nh : Nat} {P : Sp} {S : St} (hs : CSp 19 nh P S) (f : Nat) : CSp 19 nh (P.setFog f) (upI S 19 5 (nI f)) := by
  obtain ⟨a1, a2, a3, a4, a5, a6⟩ := hs
  exact ⟨by rw [upI_off (by decide)]; exact a1, by rw [upI_off (by decide)]; exact a2, by rw [upI_hit], by rw [upI_off (by decide)]; exact a4, fun h' hh' k hk => by rw [upI_row (by decide)]; exact a5 h' hh' k hk, fun j hj => by rw [upI_row (by decide), upI_row (by decide)]; exact a6 j hj⟩
theorem CSp.lotted {nh : Nat} {P : Sp} {S : St} (hs : CSp 19 nh P S) (v : Int32) : CSp 19 nh (P.setLot v) (upI S 19 6 v) := by
  obtain ⟨a1, a2, a3, a4, a5, a6⟩ := hs
  exact ⟨by rw [upI_off (by decide)]; exact a1, by rw [upI_off (by decide)]; exact a2, by rw [upI_off (by decide)]; exact a3, by rw [upI_hit], fun h' hh' k hk => by rw [upI_row (by decide)]; exact a5 h' hh' k hk, fun j hj => by rw [upI_row (by decide), upI_row (by decide)]; exact a6 j hj⟩
theorem MSp.fogged {nh : Nat} {P : Sp} {S : St} (hs : MSp 0 nh P S) (hn : nh ≤ 6) (f : Nat) : MSp 0 nh (P.setFog f) (upI S 9 30 (nI f)) := by
  obtain ⟨a1, a2, a3, a4, a5⟩ := hs
  exact ⟨by rw [upI_off (by decide)]; exact a1, by rw [Nat.zero_add, upI_hit], by rw [upI_off (by decide)]; exact a3, fun h' hh' k hk => by rw [upI_off (by omega)]; exact a4 h' hh' k hk, fun j hj => by rw [upI_off (by omega), upI_off (by omega)]; exact a5 j hj⟩
theorem MSp.lotted {nh : Nat} {P : Sp} {S : St} (hs : MSp 0 nh P S) (hn : nh ≤ 6) (v : Int32) : MSp 0 nh (P.setLot v) (upI S 9 31 v) := by
  obtain ⟨a1, a2, a3, a4, a5⟩ := hs
  exact ⟨by rw [upI_off (by decide)]; exact a1, by rw [upI_off (by decide)]; exact a2, by rw [Nat.zero_add, upI_hit], fun h' hh' k hk => by rw [upI_off (by omega)]; exact a4 h' hh' k hk, fun j hj => by rw [upI_off (by omega), upI_off (by omega)]; exact a5 j hj⟩
def sFog (g : Gh) (f : Int32) : Int32 × Gh := if rg f 6 then (nI g.now.fog, g.setNow (g.now.setFog f.toNatClampNeg)) else (-1, g)
theorem c_fog {g : Gh} {S : St} (hr : CR g S) (f : Int32) : COk (sFog g f).2 (sFog g f).1 (jSmoke_fog f S) := by
  unfold jSmoke_fog sFog
  by_cases q : rg f 6
  · rw [if_pos q]
    obtain ⟨f, hf, rfl⟩ := rg_of q (by omega)
    rw [if_neg (nI_pos (by omega)), z5, if_pos (nI_le (by omega) (by omega)), px_lt, px_lt, hr.sp.2.2.1, nI_clamp (by omega)]
    exact ⟨_, rfl, hr.setSp (fun r hr' => upI_o r (by omega)) rfl (hr.sp.fogged f)⟩
  · rw [if_neg q]
    rcases rg_no q with z | z
    · rw [if_pos z]; exact ⟨_, rfl, hr⟩
    · rw [if_neg (fun q => absurd (Int32.lt_of_le_of_lt z q) (by decide)), if_neg (i_nle.mpr (Int32.lt_of_lt_of_le (by decide) z))]
      exact ⟨_, rfl, hr⟩
theorem m_fog {g : Gh} {M : St} (hr : MR g M) (hw : WG g) (f : Int32) : MOk (sFog g f).2 (sFog g f).1 (jMod_fog f M) := by
  unfold jMod_fog sFog
  have a2 : M.1 9 30 = nI g.now.fog := hr.sp.2.1
  by_cases q : rg f 6
  · rw [if_pos q]
    obtain ⟨f, hf, rfl⟩ := rg_of q (by omega)
    rw [z5, in0_t (by omega) (by omega), px_bd, if_neg n10, z30, px_ld (by omega) (by omega), a2, px_gd (by omega) (by omega), px_lt, nI_clamp (by omega), nI_clamp (by omega)]
    exact ⟨_, rfl, hr.setSp (fun r h1 h2 => upI_o r h2) (hi9.rf.up (by omega)) rfl (hr.sp.fogged hw.nh f)⟩
  · rw [if_neg q, z5, in0_f q (by omega), px_bd, if_pos rfl]
    exact ⟨_, rfl, hr⟩
theorem w_fog {g : Gh} (hw : WG g) (f : Int32) : WG (sFog g f).2 := by
  unfold sFog
  by_cases q : rg f 6
  · rw [if_pos q]
    obtain ⟨f, hf, rfl⟩ := rg_of q (by omega)
    obtain ⟨b1, b2, b3, b4⟩ := hw.sp
    exact hw.setSp ⟨b1, b2, b3, by rw [nI_clamp (by omega)]; show f ≤ 5; omega⟩
  · rw [if_neg q]; exact hw
/-! lot -/
def sLot (g : Gh) (v : Int32) : Int32 × Gh := (g.now.lot, g.setNow (g.now.setLot v))
theorem c_lot {g : Gh} {S : St} (hr : CR g S) (v : Int32) : COk (sLot g v).2 (sLot g v).1 (jSmoke_lot v S) := by
  unfold jSmoke_lot sLot
  rw [px_lt, px_lt, hr.sp.2.2.2.1]
  exact ⟨_, rfl, hr.setSp (fun r hr' => upI_o r (by omega)) rfl (hr.sp.lotted v)⟩
theorem m_lot {g : Gh} {M : St} (hr : MR g M) (hw : WG g) (v : Int32) : MOk (sLot g v).2 (sLot g v).1 (jMod_lot v M) := by
  unfold jMod_lot sLot
  have a2 : M.1 9 31 = g.now.lot := hr.sp.2.2.1
  rw [z31, px_ld (by omega) (by omega), a2, px_gd (by omega) (by omega), px_lt, nI_clamp (by omega)]
  exact ⟨_, rfl, hr.setSp (fun r h1 h2 => upI_o r h2) (hi9.rf.up (by omega)) rfl (hr.sp.lotted hw.nh v)⟩
theorem w_lot {g : Gh} (hw : WG g) (v : Int32) : WG (sLot g v).2 := hw.setSp hw.sp
/-! count, trace -/
def sCount (g : Gh) (w : Int32) : Int32 := if w = 0 then nI g.nh else if w = 1 then nI g.mn.nd else if w = 2 then nI g.now.np else if w = 3 then nI g.now.fog else if w = 4 then nI g.tl else -1
theorem c_count {g : Gh} {S : St} (hr : CR g S) (w : Int32) : jSmoke_count w S = some (sCount g w, S) := by
  unfold jSmoke_count sCount
  rw [hr.sp.1, hr.mn.1, hr.sp.2.1, hr.sp.2.2.1, hr.1]
  (repeat' split) <;> rfl
theorem m_count {g : Gh} {M : St} (hr : MR g M) (w : Int32) : jMod_count w M = some (sCount g w, M) := by
  have a1 : M.1 9 32 = nI g.now.np := hr.sp.1
  have a2 : M.1 9 30 = nI g.now.fog := hr.sp.2.1
  unfold jMod_count sCount
  rw [show x_ld (M.1 2) 2 0 (fun v4 => some (v4, M)) = some (nI g.nh, M) from by rw [z0, px_ld (by omega) (by omega), hr.nh],
    show x_ld (M.1 4) 2 0 (fun v4 => some (v4, M)) = some (nI g.mn.nd, M) from by rw [z0, px_ld (by omega) (by omega), hr.nd],
    show x_ld (M.1 9) 219 32 (fun v4 => some (v4, M)) = some (nI g.now.np, M) from by rw [z32, px_ld (by omega) (by omega), a1],
    show x_ld (M.1 9) 219 30 (fun v4 => some (v4, M)) = some (nI g.now.fog, M) from by rw [z30, px_ld (by omega) (by omega), a2], hr.1]
  (repeat' split) <;> rfl
theorem c_trace {g : Gh} {S : St} (hr : CR g S) : jSmoke_trace S = some (g.tr, S) := by
  unfold jSmoke_trace
  rw [hr.2.2.2.2.2.2]
theorem m_trace {g : Gh} {M : St} (hr : MR g M) : jMod_trace M = some (g.tr, M) := by
  unfold jMod_trace
  rw [hr.2.2.2.2.2.2.2.2]
/-! clear -/
abbrev Gh.setTx (g : Gh) (n : Nat) (f : Nat → Nat) : Gh := ((n, f), g.2)
def sClear (g : Gh) : Int32 × Gh := (nI g.tl, g.setTx 0 g.tb)
theorem CR.setTx {g : Gh} {S S' : St} (h : CR g S) {n : Nat} {f : Nat → Nat} (h1 : ∀ r, 14 ≤ r ∧ r ≤ 30 → S'.1 r = S.1 r) (h2 : S'.2 0 = S.2 0) (h3 : S'.1 1 1 = nI n) (h4 : ∀ j, j < n → S'.1 2 j = nI (f j)) : CR (g.setTx n f) S' := by
  obtain ⟨q1, q2, q3, q4, q5, q6, q7⟩ := h
  have keyS : ∀ {k : Nat} {P : Sp}, CSp k g.nh P S → 14 ≤ k ∧ k + 3 ≤ 30 → CSp k g.nh P S' := by
    intro k P hh hk
    unfold CSp at *
    rw [h1 k (by omega), h1 (k + 1) (by omega), h1 (k + 2) (by omega), h1 (k + 3) (by omega)]
    exact hh
  have key : ∀ {k : Nat} {o : Option Sp}, CIm k g.nh o S → 23 ≤ k ∧ k + 3 ≤ 30 → CIm k g.nh o S' := by
    intro k o h hk
    cases o with
    | none => exact (congrFun (h1 k (by omega)) 7).trans h
    | some P => exact ⟨(congrFun (h1 k (by omega)) 7).trans h.1, keyS h.2 (by omega)⟩
  exact ⟨h3, h4, q3.rows (fun r hr => h1 r (by omega)), keyS q4 (by omega), key q5 (by omega), key q6 (by omega), by rw [h2]; exact q7⟩
theorem MR.setTx {g : Gh} {S S' : St} (h : MR g S) {n : Nat} {f : Nat → Nat} (h1 : ∀ r, 2 ≤ r ∧ r ≤ 10 → S'.1 r = S.1 r) (h2 : S'.2 0 = S.2 0) (h3 : S'.1 0 2 = nI n) (h4 : ∀ j, j < n → S'.1 1 j &&& 255 = nI (f j)) : MR (g.setTx n f) S' := by
  obtain ⟨q1, q2, q3, q4, q5, q6, q7, q8, q9⟩ := h
  have keyS : ∀ {b : Nat} {P : Sp}, MSp b g.nh P S → MSp b g.nh P S' := by
    intro b P hh
    unfold MSp at *
    rw [h1 9 (by omega)]
    exact hh
  have key : ∀ {i : Nat} {o : Option Sp}, MIm i g.nh o S → MIm i g.nh o S' := by
    intro i o h
    cases o with
    | none => exact (congrFun (h1 10 (by omega)) i).trans h
    | some P => exact ⟨(congrFun (h1 10 (by omega)) i).trans h.1, keyS h.2⟩
  refine ⟨h3, h4, by rw [h1 4 (by omega)]; exact q3, ?_, by rw [h1 2 (by omega)]; exact q5, keyS q6, key q7, key q8, by rw [h2]; exact q9⟩
  unfold MMn at *
  rw [h1 5 (by omega), h1 6 (by omega), h1 7 (by omega)]
  exact q4
theorem c_clear {g : Gh} {S : St} (hr : CR g S) : COk (sClear g).2 (sClear g).1 (jSmoke_clear S) := by
  unfold jSmoke_clear sClear
  rw [px_lt, px_lt, hr.1]
  exact ⟨_, rfl, hr.setTx (fun r hr' => upI_o r (by omega)) rfl (by rw [upI_hit]; rfl) (fun j hj => by omega)⟩
theorem m_clear {g : Gh} {M : St} (hr : MR g M) : MOk (sClear g).2 (sClear g).1 (jMod_clear M) := by
  unfold jMod_clear sClear
  rw [px_lt, px_lt, hr.1]
  exact ⟨_, rfl, hr.setTx (fun r hr' => upI_o r (by omega)) rfl (by rw [upI_hit]; rfl) (fun j hj => by omega)⟩
theorem w_clear {g : Gh} (hw : WG g) : WG (sClear g).2 := ⟨Nat.zero_le _, fun j hj => absurd hj (Nat.not_lt_zero _), hw.2.2⟩
/-! dish -/
def sDish (g : Gh) (d w : Int32) : Int32 := if rg d g.mn.nd then if rg w 8 then if w = 5 then nI (g.mn.sm d.toNatClampNeg) else if w = 6 then nI (g.mn.wd d.toNatClampNeg) else if w = 7 then nI (g.mn.units d.toNatClampNeg) else nI (g.mn.need d.toNatClampNeg w.toNatClampNeg) else -1 else -1
theorem c_dish {g : Gh} {S : St} (hr : CR g S) (hw : WG g) (d w : Int32) : jSmoke_dish d w S = some (sDish g d w, S) := by
  have h8 := hw.mn.1
  unfold jSmoke_dish sDish
  by_cases qd : rg d g.mn.nd
  · rw [if_pos qd]
    obtain ⟨d, hd, rfl⟩ := rg_of qd (by omega)
    obtain ⟨e0, e1, e2, e3⟩ := hr.mn.2 d hd
    have e1 : S.1 16 d = nI (g.mn.units d) := e1
    have e2 : S.1 17 d = nI (g.mn.sm d) := e2
    have e3 : S.1 18 d = nI (g.mn.wd d) := e3
    rw [lists_t hr.mn hw.mn hd, px_bd, if_neg n10, nI_clamp (by omega), px_ld (by omega) (by omega), px_ld (by omega) (by omega), px_ld (by omega) (by omega), e1, e2, e3]
    by_cases qw : rg w 8
    · rw [if_pos qw]
      obtain ⟨w, hx, rfl⟩ := rg_of qw (by omega)
      rw [if_pos (nI_pos' (by omega)), z5, z6, z7, nI_clamp (by omega)]
      by_cases h5 : 5 ≤ w
      · rw [if_pos (nI_le h5 (by omega))]
        rcases (by omega : w = 5 ∨ w = 6 ∨ w = 7) with rfl | rfl | rfl
        · rw [if_pos rfl, if_pos rfl]
        · rw [if_neg (by decide), if_pos rfl, if_neg (by decide), if_pos rfl]
        · rw [if_neg (by decide), if_neg (by decide), if_pos rfl, if_neg (by decide), if_neg (by decide), if_pos rfl]
      · rw [if_neg (nI_ge (by omega) (by omega)), if_neg (fun z => absurd ((nI_eq (by omega) (by omega)).mp z) (by omega)), if_neg (fun z => absurd ((nI_eq (by omega) (by omega)).mp z) (by omega)), if_neg (fun z => absurd ((nI_eq (by omega) (by omega)).mp z) (by omega)), need_ok hr.mn hw.mn hd (by omega), px_bd]
    · rw [if_neg qw]
      rcases rg_no qw with z | z
      · rw [if_neg (i_nle.mpr z)]
      · have k5 : ¬ w = 5 := fun e => absurd (e ▸ z) (by decide)
        have k6 : ¬ w = 6 := fun e => absurd (e ▸ z) (by decide)
        have k7 : ¬ w = 7 := fun e => absurd (e ▸ z) (by decide)
        rw [if_pos (Int32.le_trans (by decide) z), if_pos (Int32.le_trans (by decide) z), if_neg k5, if_neg k6, if_neg k7]
  · rw [if_neg qd, lists_f hr.mn qd, px_bd, if_pos rfl]
theorem m_dish {g : Gh} {M : St} (hr : MR g M) (hw : WG g) (d w : Int32) : jMod_dish d w M = some (sDish g d w, M) := by
  have h8 := hw.mn.1
  unfold jMod_dish sDish
  by_cases qd : rg d g.mn.nd
  · rw [if_pos qd]
    obtain ⟨d, hd, rfl⟩ := rg_of qd (by omega)
    obtain ⟨e0, e1, e2⟩ := hr.mn d hd
    rw [Nat.zero_add] at e0 e1 e2
    rw [isDish_t hr hw hd, px_bd, if_neg n10, nI_clamp (by omega), z7]
    by_cases qw : rg w 8
    · rw [if_pos qw]
      obtain ⟨w, hx, rfl⟩ := rg_of qw (by omega)
      rw [in0_t (by omega) (by omega), px_bd, if_neg n10, z5, z6, nI_clamp (by omega)]
      by_cases h5 : 5 ≤ w
      · rw [if_pos (nI_le h5 (by omega))]
        rcases (by omega : w = 5 ∨ w = 6 ∨ w = 7) with rfl | rfl | rfl
        · rw [if_pos rfl, if_pos rfl, px_ld (by omega) (by omega), e1]
        · rw [if_neg (by decide), if_pos rfl, if_neg (by decide), if_pos rfl, px_ld (by omega) (by omega), e2]
        · rw [if_neg (by decide), if_neg (by decide), if_neg (by decide), if_neg (by decide), if_pos rfl, unitsOf_ok hr.mn hw.mn hd, px_bd]
      · rw [if_neg (nI_ge (by omega) (by omega)), if_neg (fun z => absurd ((nI_eq (by omega) (by omega)).mp z) (by omega)), if_neg (fun z => absurd ((nI_eq (by omega) (by omega)).mp z) (by omega)), if_neg (fun z => absurd ((nI_eq (by omega) (by omega)).mp z) (by omega)), nI_mul, nI_add, px_ld (by omega) (by omega), e0 w (by omega)]
    · rw [if_neg qw, in0_f qw (by omega), px_bd, if_pos rfl]
  · rw [if_neg qd, isDish_f hr hw qd, px_bd, if_pos rfl]
/-! drawn -/
def drawOf (v : Int32) : Int32 := x_ush v 16 - x_ush v 16 / 10 * 10
def drawN (fog : Nat) (q : Int32 × Int32) : Nat → Int32 × Int32
  | 0 => q
  | k + 1 => (if nI fog ≤ drawOf ((drawN fog q k).2 * 1103515245 + 12345) then (drawN fog q k).1 else (drawN fog q k).1 ^^^ (1 <<< (nI k &&& 31)), (drawN fog q k).2 * 1103515245 + 12345)
def sDrawn (g : Gh) (x : Int32) : Int32 × Gh := if rg x 8 then ((drawN g.now.fog (x, g.now.lot) 3).1, g.setNow (g.now.setLot (drawN g.now.fog (x, g.now.lot) 3).2)) else (-1, g)
theorem isSmoke_t {S : St} {j : Nat} (h : j < 8) : jSmoke_isSmoke (nI j) S = some (1, S) := by
  unfold jSmoke_isSmoke
  rw [if_neg (nI_pos (by omega)), z8, if_neg (nI_ge h (by omega)), px_n1]
theorem isSmoke_f {S : St} {x : Int32} (h : ¬ rg x 8) : jSmoke_isSmoke x S = some (0, S) := by
  unfold jSmoke_isSmoke
  rcases rg_no h with z | z
  · rw [if_pos z, px_n0]
  · rw [z8, if_pos z, px_n0]; split <;> rfl
theorem mSmoke_t {S : St} {j : Nat} (h : j < 8) : jMod_isSmoke (nI j) S = some (1, S) := by
  unfold jMod_isSmoke
  rw [z7, in0_t (by omega) (by omega), px_bd, px_n1]
theorem mSmoke_f {S : St} {x : Int32} (h : ¬ rg x 8) : jMod_isSmoke x S = some (0, S) := by
  unfold jMod_isSmoke
  rw [z7, in0_f h (by omega), px_bd, px_n0]
theorem c_drawn {g : Gh} {S : St} (hr : CR g S) (x : Int32) : COk (sDrawn g x).2 (sDrawn g x).1 (jSmoke_drawn x S) := by
  unfold jSmoke_drawn sDrawn
  by_cases q : rg x 8
  · rw [if_pos q]
    obtain ⟨j, hj, e⟩ := rg_of q (by omega)
    rw [show jSmoke_isSmoke x S = some (1, S) from by rw [e]; exact isSmoke_t hj, px_bd, if_neg n10]
    have key := for_up (F := fun n i (q : Int32 × St) => jSmoke_drawn_h13 n q.1 (nI i) q.2) (N := 3) (I := fun i q => q.1 = (drawN g.now.fog (x, g.now.lot) i).1 ∧ rowsC S q.2 [19] ∧ CSp 19 g.nh (g.now.setLot (drawN g.now.fog (x, g.now.lot) i).2) q.2) (fun r => r.1 = (drawN g.now.fog (x, g.now.lot) 3).1 ∧ CR (g.setNow (g.now.setLot (drawN g.now.fog (x, g.now.lot) 3).2)) r.2) ?_ ?_ (i := 0) (s := (x, S)) (Nat.zero_le _) ⟨rfl, rowsC.rf, hr.sp⟩ (n := FU) (by decide)
    · obtain ⟨⟨r, S'⟩, e, h1, h2⟩ := key
      dsimp only at h1 h2
      subst h1
      exact ⟨S', e, h2⟩
    · intro n i ⟨v, s⟩ hi ⟨hv, hI, hJ⟩
      right
      dsimp only at hv hI hJ
      have e1 : s.1 19 6 = (drawN g.now.fog (x, g.now.lot) i).2 := hJ.2.2.2.1
      have e2 : s.1 19 5 = nI g.now.fog := hJ.2.2.1
      rw [jSmoke_drawn_h13, jSmoke_drawn_b13, z3, if_neg (nI_ge hi (by decide))]
      unfold jSuppers_draw
      rw [px_lt, e1, if_neg (show ¬ (10 : Int32) = 0 by decide), px_bd, upI_hit, upI_off (by decide), e2, z1, nI_add]
      refine ⟨((drawN g.now.fog (x, g.now.lot) (i + 1)).1, upI s 19 6 (drawN g.now.fog (x, g.now.lot) (i + 1)).2), ?_, rfl, hI.up (by decide), hJ.lotted _⟩
      subst hv
      dsimp only
      by_cases c : nI g.now.fog ≤ drawOf ((drawN g.now.fog (x, g.now.lot) i).2 * 1103515245 + 12345)
      · have c' := c
        unfold drawOf at c'
        rw [if_pos c']
        simp only [drawN]
        rw [if_pos c]
      · have c' := c
        unfold drawOf at c'
        rw [if_neg c', px_lt]
        simp only [drawN]
        rw [if_neg c]
        rfl
    · intro n ⟨v, s⟩ ⟨hv, hI, hJ⟩
      dsimp only at hv hI hJ
      rw [jSmoke_drawn_h13, jSmoke_drawn_b13, z3, if_pos (nI_le (Nat.le_refl _) (by decide))]
      exact ⟨_, rfl, hv, hr.setSp (fun r hr' => hI.1 r (by simp; omega)) (congrFun hI.2 0) hJ⟩
  · rw [if_neg q, isSmoke_f q, px_bd, if_pos rfl]
    exact ⟨_, rfl, hr⟩
theorem m_drawn {g : Gh} {M : St} (hr : MR g M) (hw : WG g) (x : Int32) : MOk (sDrawn g x).2 (sDrawn g x).1 (jMod_drawn x M) := by
  unfold jMod_drawn sDrawn
  by_cases q : rg x 8
  · rw [if_pos q]
    obtain ⟨j, hj, e⟩ := rg_of q (by omega)
    rw [show jMod_isSmoke x M = some (1, M) from by rw [e]; exact mSmoke_t hj, px_bd, if_neg n10]
    have key := for_up (F := fun n i (q : Int32 × St) => jMod_drawn_h13 n q.1 (nI i) q.2) (N := 3) (I := fun i q => q.1 = (drawN g.now.fog (x, g.now.lot) i).1 ∧ rowsC M q.2 [9] ∧ hi9 M q.2 ∧ MSp 0 g.nh (g.now.setLot (drawN g.now.fog (x, g.now.lot) i).2) q.2) (fun r => r.1 = (drawN g.now.fog (x, g.now.lot) 3).1 ∧ MR (g.setNow (g.now.setLot (drawN g.now.fog (x, g.now.lot) 3).2)) r.2) ?_ ?_ (i := 0) (s := (x, M)) (Nat.zero_le _) ⟨rfl, rowsC.rf, hi9.rf, hr.sp⟩ (n := FU) (by decide)
    · obtain ⟨⟨r, S'⟩, e, h1, h2⟩ := key
      dsimp only at h1 h2
      subst h1
      exact ⟨S', e, h2⟩
    · intro n i ⟨v, s⟩ hi ⟨hv, hI, hQ, hJ⟩
      right
      dsimp only at hv hI hQ hJ
      have e1 : s.1 9 31 = (drawN g.now.fog (x, g.now.lot) i).2 := hJ.2.2.1
      have e2 : s.1 9 30 = nI g.now.fog := hJ.2.1
      rw [jMod_drawn_h13, jMod_drawn_b13, z3, if_neg (nI_ge hi (by decide)), z31, px_ld (by omega) (by omega), e1, px_gd (by omega) (by omega), px_lt, nI_clamp (by omega), px_ld (by omega) (by omega), upI_hit, if_neg (show ¬ (10 : Int32) = 0 by decide), z30, px_ld (by omega) (by omega), upI_off (by decide), e2, z1, nI_add]
      refine ⟨((drawN g.now.fog (x, g.now.lot) (i + 1)).1, upI s 9 31 (drawN g.now.fog (x, g.now.lot) (i + 1)).2), ?_, rfl, hI.up (by decide), hQ.up (by omega), hJ.lotted hw.nh _⟩
      subst hv
      dsimp only
      by_cases c : nI g.now.fog ≤ drawOf ((drawN g.now.fog (x, g.now.lot) i).2 * 1103515245 + 12345)
      · have c' := c
        unfold drawOf at c'
        rw [if_pos c', px_lt, Int32.xor_zero]
        simp only [drawN]
        rw [if_pos c]
      · have c' := c
        unfold drawOf at c'
        rw [if_neg c', px_lt]
        simp only [drawN]
        rw [if_neg c]
        rfl
    · intro n ⟨v, s⟩ ⟨hv, hI, hQ, hJ⟩
      dsimp only at hv hI hQ hJ
      rw [jMod_drawn_h13, jMod_drawn_b13, z3, if_pos (nI_le (Nat.le_refl _) (by decide))]
      exact ⟨_, rfl, hv, hr.setSp (fun r h1 h2 => hI.1 r (by simp; omega)) hQ (congrFun hI.2 0) hJ⟩
  · rw [if_neg q, mSmoke_f q, px_bd, if_pos rfl]
    exact ⟨_, rfl, hr⟩
theorem WSp.lotted {nh nd : Nat} {P : Sp} (h : WSp nh nd P) (v : Int32) : WSp nh nd (P.setLot v) := h
theorem w_drawn {g : Gh} (hw : WG g) (x : Int32) : WG (sDrawn g x).2 := by
  unfold sDrawn
  by_cases q : rg x 8
  · rw [if_pos q]
    exact hw.setSp (hw.sp.lotted _)
  · rw [if_neg q]; exact hw
