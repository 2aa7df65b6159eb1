/-! suppers: cook, undo, gives, burns -/
theorem upI_at {S : St} {k j a b : Nat} {v : Int32} : (upI S k j v).1 a b = if a = k ∧ b = j then v else S.1 a b := by
  by_cases h : a = k
  · subst h
    rw [upI_1]
    by_cases h2 : b = j
    · subst h2; simp [upd]
    · simp [upd, h2]
  · rw [upI_o a h, if_neg (fun z => h z.1)]
theorem upI_hit {S : St} {k j : Nat} {v : Int32} : (upI S k j v).1 k j = v := by rw [upI_at, if_pos ⟨rfl, rfl⟩]
theorem upI_row {S : St} {k j a b : Nat} {v : Int32} (h : a ≠ k) : (upI S k j v).1 a b = S.1 a b := by rw [upI_at, if_neg (fun z => h z.1)]
theorem upI_off {S : St} {k j a b : Nat} {v : Int32} (h : b ≠ j) : (upI S k j v).1 a b = S.1 a b := by rw [upI_at, if_neg (fun z => h z.2)]
def COk {α : Type} (g' : Gh) (r : α) (o : Option (α × St)) : Prop := ∃ S', o = some (r, S') ∧ CR g' S'
def MOk {α : Type} (g' : Gh) (r : α) (o : Option (α × St)) : Prop := ∃ S', o = some (r, S') ∧ MR g' S'
theorem CR.setSp {g : Gh} {S S' : St} (h : CR g S) {P : Sp} (h1 : ∀ r, r = 1 ∨ r = 2 ∨ (14 ≤ r ∧ r ≤ 18) ∨ (23 ≤ r ∧ r ≤ 30) → S'.1 r = S.1 r) (h2 : S'.2 0 = S.2 0) (h3 : CSp 19 g.nh P S') : CR (g.setNow P) S' := by
  obtain ⟨q1, q2, q3, q4, q5, q6, q7⟩ := h
  have key : ∀ {k : Nat} {o : Option Sp}, CIm k g.nh o S → 23 ≤ k ∧ k + 3 ≤ 30 → CIm k g.nh o S' := by
    intro k o h hk
    cases o with
    | none => exact (congrFun (h1 k (by omega)) 7).trans h
    | some P =>
      refine ⟨(congrFun (h1 k (by omega)) 7).trans h.1, ?_⟩
      have hh := h.2
      unfold CSp at *
      rw [h1 k (by omega), h1 (k + 1) (by omega), h1 (k + 2) (by omega), h1 (k + 3) (by omega)]
      exact hh
  refine ⟨by rw [h1 1 (by omega)]; exact q1, by rw [h1 2 (by omega)]; exact q2, ?_, h3, key q5 (by omega), key q6 (by omega), by rw [h2]; exact q7⟩
  unfold CMn at *
  rw [h1 14 (by omega), h1 (14 + 1) (by omega), h1 (14 + 2) (by omega), h1 (14 + 3) (by omega), h1 (14 + 4) (by omega)]
  exact q3
theorem MR.setSp {g : Gh} {S S' : St} (h : MR g S) {P : Sp} (h1 : ∀ r, r ≤ 10 → r ≠ 9 → S'.1 r = S.1 r) (h9 : ∀ j, 73 ≤ j → S'.1 9 j = S.1 9 j) (h2 : S'.2 0 = S.2 0) (h3 : MSp 0 g.nh P S') : MR (g.setNow P) S' := by
  obtain ⟨q1, q2, q3, q4, q5, q6, q7, q8, q9⟩ := h
  have key : ∀ {i : Nat} {o : Option Sp}, MIm i g.nh o S → MIm i g.nh o S' := by
    intro i o h
    cases o with
    | none => exact (congrFun (h1 10 (by omega) (by omega)) i).trans h
    | some P =>
      refine ⟨(congrFun (h1 10 (by omega) (by omega)) i).trans h.1, ?_⟩
      obtain ⟨a1, a2, a3, a4, a5⟩ := h.2
      exact ⟨by rw [h9 _ (by omega)]; exact a1, by rw [h9 _ (by omega)]; exact a2, by rw [h9 _ (by omega)]; exact a3, fun x hx y hy => by rw [h9 _ (by omega)]; exact a4 x hx y hy, fun j hj => ⟨by rw [h9 _ (by omega)]; exact (a5 j hj).1, by rw [h9 _ (by omega)]; exact (a5 j hj).2⟩⟩
  refine ⟨by rw [h1 0 (by omega) (by omega)]; exact q1, by rw [h1 1 (by omega) (by omega)]; exact q2, by rw [h1 4 (by omega) (by omega)]; exact q3, ?_, by rw [h1 2 (by omega) (by omega)]; exact q5, h3, key q7, key q8, by rw [h2]; exact q9⟩
  unfold MMn at *
  rw [h1 5 (by omega) (by omega), h1 6 (by omega) (by omega), h1 7 (by omega) (by omega)]
  exact q4
theorem fill_39 {nh : Nat} {P : Sp} {S : St} (hs : CSp 19 nh P S) (hn : nh ≤ 6) {h : Nat} (hh : h < nh) : ∃ S', jSuppers_fill_39 (nI h) S = some S' ∧ Same S S' ∧ (∀ g, g < 5 → S'.1 39 g = nI (P.L h g)) := by
  refine for_up (F := fun n i s => jSuppers_fill_39_h2 n (nI h) (nI i) s) (N := 5) (I := fun i s => Same S s ∧ ∀ g, g < i → s.1 39 g = nI (P.L h g)) _ ?_ ?_ (i := 0) (Nat.zero_le _) ⟨Same.rf S, fun g h => by omega⟩ (n := FU) (by decide)
  · intro n i s hi ⟨hI, hJ⟩
    right
    rw [jSuppers_fill_39_h2, jSuppers_fill_39_b2, z5, if_neg (nI_ge hi (by decide)), stock_ok (hs.same hI (by omega)) hn hh hi, px_bd, px_gd hi (by decide), px_lt, nI_clamp (by omega), z1, nI_add]
    refine ⟨_, rfl, hI.up (by omega), fun k hk => ?_⟩
    rw [upI_at]
    by_cases e : k = i
    · subst e; rw [if_pos ⟨rfl, rfl⟩]
    · rw [if_neg (fun z => e z.2)]; exact hJ k (by omega)
  · intro n s ⟨hI, hJ⟩
    rw [jSuppers_fill_39_h2, jSuppers_fill_39_b2, z5, if_pos (nI_le (Nat.le_refl _) (by decide))]
    exact ⟨_, rfl, hI, hJ⟩
theorem couldCook_ok {g : Gh} {S : St} (hr : CR g S) (hw : WG g) {h d : Nat} (hh : h < g.nh) (hd : d < g.mn.nd) : ∃ S', jSmoke_couldCook (nI h) (nI d) S = some (bI (g.mn.fits d (g.now.L h)), S') ∧ Same S S' := by
  obtain ⟨S', e, hS, hP⟩ := fill_39 hr.sp hw.nh hh
  unfold jSmoke_couldCook
  rw [e, px_bv, fits_39 (hr.mn.same hS) hw.mn (P := g.now.L h) (fun k hk => ⟨hP k hk, by have := hw.sp.1 h hh k hk; omega⟩) hd, px_bd, px_nb]
  exact ⟨_, rfl, hS⟩
theorem canCook_ok {g : Gh} {M : St} (hr : MR g M) (hw : WG g) {h d : Nat} (hh : h < g.nh) (hd : d < g.mn.nd) : jMod_canCook (nI h) (nI d) M = some (bI (g.mn.fits d (g.now.L h)), M) := by
  have h6 := hw.nh
  have h8 := hw.mn.1
  refine ex_eq.mp (for_up (F := fun n i (q : Bool × St) => jMod_canCook_h5 n (nI h) (nI d) (bI q.1) (nI i) q.2) (N := 5) (I := fun i q => (q.1 = true ↔ ∀ k, k < i → g.mn.need d k ≤ g.now.L h k) ∧ q.2 = M) _ ?_ ?_ (i := 0) (s := (true, M)) (Nat.zero_le _) ⟨⟨fun _ k h => by omega, fun _ => rfl⟩, rfl⟩ (n := FU) (by decide))
  · intro n i ⟨b, s⟩ hi ⟨hI, hs⟩
    dsimp only at hI hs
    subst hs
    right
    have e1 := hr.sp.2.2.2.1 h hh i hi
    have e2 := (hr.mn d hd).1 i hi
    rw [Nat.zero_add] at e1 e2
    have b1 := hw.sp.1 h hh i hi
    have b2 := (hw.mn.2 d hd).1 i hi
    rw [jMod_canCook_h5, jMod_canCook_b5, z5, if_neg (nI_ge hi (by decide))]
    cases b with
    | false =>
      rw [bI_f, if_pos rfl, z1, nI_add]
      exact ⟨(false, s), rfl, ⟨(fun z => by cases z), fun z => absurd (hI.mpr (fun k hk => z k (by omega))) (by decide)⟩, rfl⟩
    | true =>
      have hI := hI.mp rfl
      rw [bI_t, if_neg n10, nI_mul, nI_add, px_ld (by omega) (by omega), e1, nI_mul, nI_add, px_ld (by omega) (by omega), e2]
      by_cases hc : g.mn.need d i ≤ g.now.L h i
      · rw [if_neg (nI_nlt hc (by omega)), z1, nI_add]
        refine ⟨(true, s), rfl, ⟨fun _ k hk => ?_, fun _ => rfl⟩, rfl⟩
        by_cases e : k = i
        · rw [e]; exact hc
        · exact hI k (by omega)
      · rw [if_pos (nI_lt (by omega) (by omega)), z1, nI_add]
        exact ⟨(false, s), rfl, ⟨fun z => (by cases z), fun z => absurd (z i (by omega)) hc⟩, rfl⟩
  · intro n ⟨b, s⟩ ⟨hI, hs⟩
    dsimp only at hI hs
    subst hs
    rw [jMod_canCook_h5, jMod_canCook_b5, z5, if_pos (nI_le (Nat.le_refl _) (by decide)), px_nb]
    refine ⟨_, rfl, ?_⟩
    have : b = g.mn.fits d (g.now.L h) := by
      cases b with
      | true => exact (Mn.fits_t.mpr (hI.mp rfl)).symm
      | false => exact (Mn.fits_f.mpr (fun z => absurd (hI.mpr z) (by decide))).symm
    rw [this]
theorem change_ok {S : St} {h k : Nat} {v : Int32} (hh : h < 6) (hk : k < 5) : jSuppers_change (nI h) (nI k) v S = some (upI S 20 (h * 5 + k) (S.1 20 (h * 5 + k) + v)) := by
  unfold jSuppers_change
  rw [z5, nI_mul, nI_add, px_ld (by omega) (by omega), px_gd (by omega) (by omega), px_lt, nI_clamp (by omega)]
/-- the larder of house h, its first i goods by f -/
def mixL (L : Nat → Nat → Nat) (h : Nat) (f : Nat → Nat) (i : Nat) : Nat → Nat → Nat := fun h' k => if h' = h ∧ k < i then f k else L h' k
theorem mixL_0 {L : Nat → Nat → Nat} {h : Nat} {f : Nat → Nat} : mixL L h f 0 = L := by
  funext h' k
  simp [mixL]
theorem mixL_ge {L : Nat → Nat → Nat} {h : Nat} {f : Nat → Nat} {i : Nat} : mixL L h f i h i = L h i := by simp [mixL]
theorem mixL_step {L : Nat → Nat → Nat} {h : Nat} {f : Nat → Nat} {i h' k : Nat} : mixL L h f (i + 1) h' k = if h' = h ∧ k = i then f i else mixL L h f i h' k := by
  unfold mixL
  by_cases e : h' = h
  · by_cases e2 : k = i
    · subst e2; simp [e]
    · by_cases e3 : k < i
      · simp [e, e2, e3, Nat.lt_succ_of_lt e3]
      · simp [e, e2, e3, show ¬ k < i + 1 by omega]
  · simp [e]
/-- one good of one house of the class is written anew -/
theorem CSp.larder {nh : Nat} {P : Sp} {S : St} (hs : CSp 19 nh P S) {h k v : Nat} (hk : k < 5) {L : Nat → Nat → Nat} (hL : ∀ h' k', h' < nh → k' < 5 → L h' k' = if h' = h ∧ k' = k then v else P.L h' k') : CSp 19 nh (L, P.2) (upI S 20 (h * 5 + k) (nI v)) := by
  obtain ⟨a1, a2, a3, a4, a5, a6⟩ := hs
  refine ⟨by rw [upI_row (by decide)]; exact a1, by rw [upI_row (by decide)]; exact a2, by rw [upI_row (by decide)]; exact a3, by rw [upI_row (by decide)]; exact a4, fun h' hh' k' hk' => ?_, fun j hj => ⟨by rw [upI_row (by decide)]; exact (a6 j hj).1, by rw [upI_row (by decide)]; exact (a6 j hj).2⟩⟩
  show (upI S 20 (h * 5 + k) (nI v)).1 20 (h' * 5 + k') = nI (L h' k')
  rw [upI_at, hL h' k' hh' hk']
  by_cases e : h' = h ∧ k' = k
  · rw [if_pos e, if_pos ⟨rfl, by rw [e.1, e.2]⟩]
  · rw [if_neg e, if_neg (fun z => e (by omega))]; exact a5 h' hh' k' hk'
theorem MSp.larder {nh : Nat} {P : Sp} {S : St} (hs : MSp 0 nh P S) (hn : nh ≤ 6) {h k v : Nat} (hh : h < nh) (hk : k < 5) {L : Nat → Nat → Nat} (hL : ∀ h' k', h' < nh → k' < 5 → L h' k' = if h' = h ∧ k' = k then v else P.L h' k') : MSp 0 nh (L, P.2) (upI S 9 (5 * h + k) (nI v)) := by
  obtain ⟨a1, a2, a3, a4, a5⟩ := hs
  refine ⟨by rw [upI_off (by omega)]; exact a1, by rw [upI_off (by omega)]; exact a2, by rw [upI_off (by omega)]; exact a3, fun h' hh' k' hk' => ?_, fun j hj => ⟨by rw [upI_off (by omega)]; exact (a5 j hj).1, by rw [upI_off (by omega)]; exact (a5 j hj).2⟩⟩
  have e4 := a4 h' hh' k' hk'
  rw [Nat.zero_add] at e4 ⊢
  show (upI S 9 (5 * h + k) (nI v)).1 9 (5 * h' + k') = nI (L h' k')
  rw [upI_at, hL h' k' hh' hk']
  by_cases e : h' = h ∧ k' = k
  · rw [if_pos e, if_pos ⟨rfl, by rw [e.1, e.2]⟩]
  · rw [if_neg e, if_neg (fun z => e (by omega))]; exact e4
def rowsC (S S' : St) (X : List Nat) : Prop := (∀ r, r ∉ X → S'.1 r = S.1 r) ∧ S'.2 = S.2
theorem rowsC.rf {S : St} {X : List Nat} : rowsC S S X := ⟨fun _ _ => rfl, rfl⟩
theorem rowsC.up {S S' : St} {X : List Nat} (h : rowsC S S' X) {k j : Nat} {v : Int32} (hk : k ∈ X) : rowsC S (upI S' k j v) X := ⟨fun r hr => (upI_o r (fun z => hr (by rw [z]; exact hk))).trans (h.1 r hr), h.2⟩
def cookSp (N : Mn) (P : Sp) (h d : Nat) : Sp := (mixL P.L h (fun k => P.L h k - N.need d k) 5, P.np + 1, (fun j => if j = P.np then h else P.ph j), (fun j => if j = P.np then d else P.pd j), P.fog, P.lot)
def sCook (g : Gh) (h d : Int32) : Int32 × Gh := if rg h g.nh then if rg d g.mn.nd then if g.mn.fits d.toNatClampNeg (g.now.L h.toNatClampNeg) = true then if g.now.np < 20 then (nI (g.mn.sm d.toNatClampNeg), g.setNow (cookSp g.mn g.now h.toNatClampNeg d.toNatClampNeg)) else (-3, g) else (-2, g) else (-1, g) else (-1, g)
theorem c_cookLoop {g : Gh} {S : St} (hr : CR g S) (hw : WG g) {h d : Nat} (hh : h < g.nh) (hd : d < g.mn.nd) (hf : g.mn.fits d (g.now.L h) = true) (hp : g.now.np < 20) : COk (g.setNow (cookSp g.mn g.now h d)) (nI (g.mn.sm d)) (jSmoke_cook_h53 FU (nI h) (nI d) 0 S) := by
  have h6 := hw.nh
  have h8 := hw.mn.1
  have hfit := Mn.fits_t.mp hf
  have key := for_up (F := fun n i s => jSmoke_cook_h53 n (nI h) (nI d) (nI i) s) (N := 5) (I := fun i s => rowsC S s [20] ∧ CSp 19 g.nh (mixL g.now.L h (fun k => g.now.L h k - g.mn.need d k) i, g.now.2) s) (fun r => r.1 = nI (g.mn.sm d) ∧ CR (g.setNow (cookSp g.mn g.now h d)) r.2) ?_ ?_ (i := 0) (s := S) (Nat.zero_le _) ⟨rowsC.rf, by rw [mixL_0]; exact hr.sp⟩ (n := FU) (by decide)
  · obtain ⟨⟨r, S'⟩, e, h1, h2⟩ := key
    dsimp only at h1 h2
    subst h1
    exact ⟨S', e, h2⟩
  · intro n i s hi ⟨hI, hJ⟩
    right
    have hm : CMn 14 g.mn s := by
      have q := hr.mn
      unfold CMn at *
      rw [hI.1 14 (by decide), hI.1 (14 + 1) (by decide), hI.1 (14 + 2) (by decide), hI.1 (14 + 3) (by decide), hI.1 (14 + 4) (by decide)]
      exact q
    have e : s.1 20 (h * 5 + i) = nI (mixL g.now.L h (fun k => g.now.L h k - g.mn.need d k) i h i) := hJ.2.2.2.2.1 h hh i hi
    rw [mixL_ge] at e
    rw [jSmoke_cook_h53, jSmoke_cook_b53, z5, if_neg (nI_ge hi (by decide)), need_ok hm hw.mn hd hi, px_bd, change_ok (by omega) hi, px_bv, e, nI_addneg (hfit i hi), z1, nI_add]
    refine ⟨_, rfl, hI.up (by decide), hJ.larder hi (fun h' k' _ _ => ?_)⟩
    exact mixL_step
  · intro n s ⟨hI, hJ⟩
    obtain ⟨a1, a2, a3, a4, a5, a6⟩ := hJ
    have a2 : s.1 19 4 = nI g.now.np := a2
    have es : s.1 17 d = nI (g.mn.sm d) := by rw [hI.1 17 (by decide)]; exact (hr.mn.2 d hd).2.2.1
    rw [jSmoke_cook_h53, jSmoke_cook_b53, z5, if_pos (nI_le (Nat.le_refl _) (by decide))]
    unfold jSuppers_rise
    rw [a2, z20, if_pos (nI_lt hp (by omega)), px_gd hp (by omega), nI_clamp (by omega), px_lt, upI_row (by decide), a2, px_gd hp (by omega), nI_clamp (by omega), px_lt, px_lt, upI_row (by decide), upI_row (by decide), a2, z1, nI_add, px_bv, px_ld (by omega) (by omega), upI_row (by decide), upI_row (by decide), upI_row (by decide), es]
    refine ⟨_, rfl, rfl, hr.setSp (fun r hr' => ?_) (congrFun hI.2 0) ?_⟩
    · show (upI (upI (upI s 21 _ _) 22 _ _) 19 _ _).1 r = _
      rw [upI_o r (by omega), upI_o r (by omega), upI_o r (by omega), hI.1 r (by simp; omega)]
    · refine ⟨?_, ?_, ?_, ?_, fun h' hh' k hk => ?_, fun j hj => ?_⟩
      · simp [upI_at]; exact a1
      · simp [upI_at, cookSp]
      · simp [upI_at, cookSp]; exact a3
      · simp [upI_at, cookSp]; exact a4
      · simp [upI_at]; exact a5 h' hh' k hk
      · have hj : j < g.now.np + 1 := hj
        simp only [upI_at, cookSp, Sp.ph, Sp.pd]
        by_cases ej : j = g.now.np
        · simp [ej]
        · have := a6 j (show j < g.now.np by omega)
          simp [ej]
          exact this
theorem c_cook {g : Gh} {S : St} (hr : CR g S) (hw : WG g) (h d : Int32) : COk (sCook g h d).2 (sCook g h d).1 (jSmoke_cook h d S) := by
  have h6 := hw.nh
  have h8 := hw.mn.1
  unfold jSmoke_cook sCook
  by_cases hh : rg h g.nh
  · rw [if_pos hh]
    obtain ⟨h, hj, rfl⟩ := rg_of hh (by omega)
    rw [hasHouse_t hr.sp hw.nh hj, px_bd, if_neg n10, nI_clamp (by omega)]
    by_cases hd : rg d g.mn.nd
    · rw [if_pos hd]
      obtain ⟨d, hk, rfl⟩ := rg_of hd (by omega)
      rw [lists_t hr.mn hw.mn hk, px_bd, if_neg n10, nI_clamp (by omega)]
      obtain ⟨S1, e, hS⟩ := couldCook_ok hr hw hj hk
      rw [e, px_bd]
      have hr1 := hr.same hS
      by_cases hf : g.mn.fits d (g.now.L h) = true
      · rw [if_pos hf, hf, bI_t, if_neg n10, hr1.sp.2.1]
        have hnp := hw.sp.2.1
        by_cases hp : g.now.np < 20
        · rw [if_pos hp, z20, if_pos (nI_lt hp (by omega))]
          exact c_cookLoop hr1 hw hj hk hf hp
        · rw [if_neg hp, z20, if_neg (nI_nlt (by omega) (by omega))]
          exact ⟨_, rfl, hr1⟩
      · rw [if_neg hf, show g.mn.fits d (g.now.L h) = false from by simpa using hf, bI_f, if_pos rfl]
        exact ⟨_, rfl, hr1⟩
    · rw [if_neg hd, lists_f hr.mn hd, px_bd, if_pos rfl]
      exact ⟨_, rfl, hr⟩
  · rw [if_neg hh, hasHouse_f hr.sp hh, px_bd, if_pos rfl]
    exact ⟨_, rfl, hr⟩
theorem rowsM {S S' : St} {k j : Nat} {v : Int32} {X : List Nat} (h : rowsC S S' X) (hk : k ∈ X) : rowsC S (upI S' k j v) X := h.up hk
/-- row 9 beyond 72 stays -/
def hi9 (S S' : St) : Prop := ∀ j, 73 ≤ j → S'.1 9 j = S.1 9 j
theorem hi9.rf {S : St} : hi9 S S := fun _ _ => rfl
theorem hi9.up {S S' : St} (h : hi9 S S') {j : Nat} {v : Int32} (hj : j < 73) : hi9 S (upI S' 9 j v) := fun i hi => by rw [upI_off (by omega)]; exact h i hi
theorem m_cookLoop {g : Gh} {M : St} (hr : MR g M) (hw : WG g) {h d : Nat} (hh : h < g.nh) (hd : d < g.mn.nd) (hf : g.mn.fits d (g.now.L h) = true) (hp : g.now.np < 20) : MOk (g.setNow (cookSp g.mn g.now h d)) (nI (g.mn.sm d)) (jMod_cook_h47 FU (nI h) (nI d) 0 M) := by
  have h6 := hw.nh
  have h8 := hw.mn.1
  have hfit := Mn.fits_t.mp hf
  have key := for_up (F := fun n i s => jMod_cook_h47 n (nI h) (nI d) (nI i) s) (N := 5) (I := fun i s => rowsC M s [9] ∧ hi9 M s ∧ MSp 0 g.nh (mixL g.now.L h (fun k => g.now.L h k - g.mn.need d k) i, g.now.2) s) (fun r => r.1 = nI (g.mn.sm d) ∧ MR (g.setNow (cookSp g.mn g.now h d)) r.2) ?_ ?_ (i := 0) (s := M) (Nat.zero_le _) ⟨rowsC.rf, hi9.rf, by rw [mixL_0]; exact hr.sp⟩ (n := FU) (by decide)
  · obtain ⟨⟨r, S'⟩, e, h1, h2⟩ := key
    dsimp only at h1 h2
    subst h1
    exact ⟨S', e, h2⟩
  · intro n i s hi ⟨hI, hQ, hJ⟩
    right
    have e : s.1 9 (0 + (5 * h + i)) = nI (mixL g.now.L h (fun k => g.now.L h k - g.mn.need d k) i h i) := hJ.2.2.2.1 h hh i hi
    rw [mixL_ge, Nat.zero_add] at e
    have e2 := (hr.mn d hd).1 i hi
    rw [Nat.zero_add] at e2
    rw [jMod_cook_h47, jMod_cook_b47, z5, if_neg (nI_ge hi (by decide)), nI_mul, nI_add, px_ld (by omega) (by omega), e, nI_mul, nI_add, px_ld (by omega) (by omega), hI.1 5 (by decide), e2, px_gd (by omega) (by omega), px_lt, nI_clamp (by omega), nI_sub (hfit i hi), z1, nI_add]
    refine ⟨_, rfl, hI.up (by decide), hQ.up (by omega), hJ.larder hw.nh hh hi (fun h' k' _ _ => ?_)⟩
    exact mixL_step
  · intro n s ⟨hI, hQ, hJ⟩
    obtain ⟨a1, a2, a3, a4, a5⟩ := hJ
    have a1 : s.1 9 32 = nI g.now.np := a1
    have es : s.1 6 d = nI (g.mn.sm d) := by rw [hI.1 6 (by decide)]; have := (hr.mn d hd).2.1; rw [Nat.zero_add] at this; exact this
    rw [jMod_cook_h47, jMod_cook_b47, z5, if_pos (nI_le (Nat.le_refl _) (by decide)), z32, px_ld (by omega) (by omega), a1, z33, z2, nI_mul, nI_add, px_gd (by omega) (by omega), nI_clamp (by omega), px_lt, px_ld (by omega) (by omega), upI_off (by omega), a1, nI_mul, nI_add, z1, nI_add, px_gd (by omega) (by omega), nI_clamp (by omega), px_lt, px_ld (by omega) (by omega), upI_off (by omega), upI_off (by omega), a1, nI_add, px_gd (by omega) (by omega), nI_clamp (by omega), px_lt, px_ld (by omega) (by omega), upI_row (by decide), upI_row (by decide), upI_row (by decide), es]
    refine ⟨_, rfl, rfl, hr.setSp (fun r h1 h2 => ?_) ?_ (congrFun hI.2 0) ?_⟩
    · show (upI (upI (upI s 9 _ _) 9 _ _) 9 _ _).1 r = _
      rw [upI_o r h2, upI_o r h2, upI_o r h2, hI.1 r (by simp; omega)]
    · exact ((hQ.up (by omega)).up (by omega)).up (by omega)
    · refine ⟨?_, ?_, ?_, fun h' hh' k hk => ?_, fun j hj => ?_⟩
      · simp [upI_at, cookSp]
      · show (upI (upI (upI s 9 _ _) 9 _ _) 9 _ _).1 9 30 = _
        rw [upI_off (by omega), upI_off (by omega), upI_off (by omega)]; exact a2
      · show (upI (upI (upI s 9 _ _) 9 _ _) 9 _ _).1 9 31 = _
        rw [upI_off (by omega), upI_off (by omega), upI_off (by omega)]; exact a3
      · have := a4 h' hh' k hk
        rw [Nat.zero_add] at this ⊢
        show (upI (upI (upI s 9 _ _) 9 _ _) 9 _ _).1 9 (5 * h' + k) = _
        rw [upI_off (by omega), upI_off (by omega), upI_off (by omega)]; exact this
      · have hj : j < g.now.np + 1 := hj
        rw [Nat.zero_add, Nat.zero_add]
        by_cases ej : j = g.now.np
        · simp [upI_at, cookSp, Sp.ph, Sp.pd, ej]
          omega
        · have := a5 j (show j < g.now.np by omega)
          rw [Nat.zero_add, Nat.zero_add] at this
          show (upI (upI (upI s 9 _ _) 9 _ _) 9 _ _).1 9 (33 + 2 * j) = _ ∧ (upI (upI (upI s 9 _ _) 9 _ _) 9 _ _).1 9 (33 + 2 * j + 1) = _
          rw [upI_off (by omega), upI_off (by omega), upI_off (by omega), upI_off (by omega), upI_off (by omega), upI_off (by omega)]
          simp only [cookSp, Sp.ph, Sp.pd, if_neg ej]
          exact this
theorem m_cook {g : Gh} {M : St} (hr : MR g M) (hw : WG g) (h d : Int32) : MOk (sCook g h d).2 (sCook g h d).1 (jMod_cook h d M) := by
  have h6 := hw.nh
  have h8 := hw.mn.1
  unfold jMod_cook sCook
  by_cases hh : rg h g.nh
  · rw [if_pos hh]
    obtain ⟨h, hj, rfl⟩ := rg_of hh (by omega)
    rw [isHouse_t hr hw hj, px_bd, if_neg n10, nI_clamp (by omega)]
    by_cases hd : rg d g.mn.nd
    · rw [if_pos hd]
      obtain ⟨d, hk, rfl⟩ := rg_of hd (by omega)
      rw [isDish_t hr hw hk, px_bd, if_neg n10, nI_clamp (by omega), canCook_ok hr hw hj hk, px_bd]
      by_cases hf : g.mn.fits d (g.now.L h) = true
      · have e : M.1 9 32 = nI g.now.np := hr.sp.1
        rw [if_pos hf, hf, bI_t, if_neg n10, z32, px_ld (by omega) (by omega), e]
        have hnp := hw.sp.2.1
        by_cases hp : g.now.np < 20
        · rw [if_pos hp, z20, if_neg (fun z => absurd ((nI_eq (by omega) (by omega)).mp z) (by omega))]
          exact m_cookLoop hr hw hj hk hf hp
        · rw [if_neg hp, z20, if_pos (by rw [show g.now.np = 20 by omega])]
          exact ⟨_, rfl, hr⟩
      · rw [if_neg hf, show g.mn.fits d (g.now.L h) = false from by simpa using hf, bI_f, if_pos rfl]
        exact ⟨_, rfl, hr⟩
    · rw [if_neg hd, isDish_f hr hw hd, px_bd, if_pos rfl]
      exact ⟨_, rfl, hr⟩
  · rw [if_neg hh, isHouse_f hr hw hh, px_bd, if_pos rfl]
    exact ⟨_, rfl, hr⟩
theorem mixL_le {L : Nat → Nat → Nat} {h : Nat} {f : Nat → Nat} {i b h' k : Nat} (h1 : L h' k ≤ b) (h2 : h' = h → f k ≤ b) : mixL L h f i h' k ≤ b := by
  unfold mixL
  split
  · rename_i z; exact h2 z.1
  · exact h1
theorem WG.setSp {g : Gh} (h : WG g) {P : Sp} (hp : WSp g.nh g.mn.nd P) : WG (g.setNow P) := ⟨h.1, h.2.1, h.2.2.1, h.2.2.2.1, hp, h.2.2.2.2.2⟩
theorem w_cook {g : Gh} (hw : WG g) (h d : Int32) : WG (sCook g h d).2 := by
  have h6 := hw.nh
  have h8 := hw.mn.1
  unfold sCook
  by_cases hh : rg h g.nh
  · rw [if_pos hh]
    obtain ⟨h, hj, rfl⟩ := rg_of hh (by omega)
    by_cases hd : rg d g.mn.nd
    · rw [if_pos hd]
      obtain ⟨d, hk, rfl⟩ := rg_of hd (by omega)
      rw [nI_clamp (by omega), nI_clamp (by omega)]
      by_cases hf : g.mn.fits d (g.now.L h) = true
      · rw [if_pos hf]
        by_cases hp : g.now.np < 20
        · rw [if_pos hp]
          obtain ⟨b1, b2, b3, b4⟩ := hw.sp
          refine hw.setSp ⟨fun h' hh' k hk' => mixL_le (f := fun k => g.now.L h k - g.mn.need d k) (b1 h' hh' k hk') (fun _ => Nat.le_trans (Nat.sub_le _ _) (b1 h hj k hk')), (by show g.now.np + 1 ≤ 20; omega), fun j hj' => ?_, b4⟩
          have hj' : j < g.now.np + 1 := hj'
          simp only [cookSp, Sp.ph, Sp.pd]
          by_cases e : j = g.now.np
          · rw [if_pos e, if_pos e]; exact ⟨hj, hk⟩
          · rw [if_neg e, if_neg e]; exact b3 j (by omega)
        · rw [if_neg hp]; exact hw
      · rw [if_neg hf]; exact hw
    · rw [if_neg hd]; exact hw
  · rw [if_neg hh]; exact hw
