/-! PURE ROWS: what the pure functions compute, over numbers -/
theorem px_lt {α β : Type} (a : α) (k : α → Option β) : x_lt a k = k a := rfl
theorem px_bd {α β γ : Type} (v : α) (S : β) (k : α → β → Option γ) : x_bd (some (v, S)) k = k v S := rfl
theorem px_bv {β γ : Type} (S : β) (k : β → Option γ) : x_bv (some S) k = k S := rfl
theorem px_n0 {β : Type} (k : Option β) : x_nr 0 k = k := rfl
theorem px_n1 {β : Type} (k : Option β) : x_nr 1 k = k := rfl
theorem n10 : ¬ (1 : Int32) = 0 := by decide
theorem px_cl {n : Nat} (h : n < 2 ^ 31) : Int32.toNatClampNeg (nI n) = n := nI_clamp h
theorem px_ld {α β : Type} {f : Nat → α} {n i : Nat} {k : α → Option β} (h : i < n) (hn : n < 2 ^ 31) : x_ld f n (nI i) k = k (f i) := by
  unfold x_ld
  rw [if_neg (nI_in h hn), nI_clamp (by omega)]
theorem px_gd {β : Type} {n i : Nat} {k : Option β} (h : i < n) (hn : n < 2 ^ 31) : x_gd n (nI i) k = k := by
  unfold x_gd
  rw [if_neg (nI_in h hn)]
theorem z0 : (0 : Int32) = nI 0 := rfl
theorem z1 : (1 : Int32) = nI 1 := rfl
theorem z2 : (2 : Int32) = nI 2 := rfl
theorem z3 : (3 : Int32) = nI 3 := rfl
theorem z4 : (4 : Int32) = nI 4 := rfl
theorem z5 : (5 : Int32) = nI 5 := rfl
theorem z6 : (6 : Int32) = nI 6 := rfl
theorem z7 : (7 : Int32) = nI 7 := rfl
theorem z8 : (8 : Int32) = nI 8 := rfl
theorem z9 : (9 : Int32) = nI 9 := rfl
theorem z10 : (10 : Int32) = nI 10 := rfl
theorem z16 : (16 : Int32) = nI 16 := rfl
theorem z20 : (20 : Int32) = nI 20 := rfl
theorem z30 : (30 : Int32) = nI 30 := rfl
theorem z31 : (31 : Int32) = nI 31 := rfl
theorem z32 : (32 : Int32) = nI 32 := rfl
theorem z33 : (33 : Int32) = nI 33 := rfl
theorem z40 : (40 : Int32) = nI 40 := rfl
theorem z73 : (73 : Int32) = nI 73 := rfl
theorem z300 : (300 : Int32) = nI 300 := rfl
theorem nI_mul (a b : Nat) : nI a * nI b = nI (a * b) := (Int32.ofNat_mul a b).symm
theorem nI_sub {a b : Nat} (h : b ≤ a) : nI a - nI b = nI (a - b) := by
  obtain ⟨c, rfl⟩ := Nat.exists_eq_add_of_le h
  rw [← nI_add, Nat.add_sub_cancel_left]
  show nI b + nI c - nI b = nI c
  rw [Int32.add_comm, Int32.add_sub_cancel]
theorem nI_addneg {a b : Nat} (h : b ≤ a) : nI a + -nI b = nI (a - b) := by
  rw [← nI_sub h]
  exact (Int32.sub_eq_add_neg _ _).symm
theorem nI_m1 {a : Nat} (h : 0 < a) : nI a + (-1) = nI (a - 1) := nI_addneg h
theorem nI_nm1 {a : Nat} (h : a < 2 ^ 31) : ¬ nI a = -1 := fun z => absurd (z ▸ (by decide : (-1 : Int32) < 0) : nI a < 0) (nI_pos h)
theorem nI_nm9 {a : Nat} (h : a < 2 ^ 31) : ¬ nI a = -9 := fun z => absurd (z ▸ (by decide : (-9 : Int32) < 0) : nI a < 0) (nI_pos h)
/-- a loop that counts up: from i on, with the invariant I, it ends with Q -/
theorem for_up {σ R : Type} {F : Nat → Nat → σ → Option R} {N : Nat} (I : Nat → σ → Prop) (Q : R → Prop)
    (step : ∀ n i s, i < N → I i s → (∃ r, F (n + 1) i s = some r ∧ Q r) ∨ ∃ s', F (n + 1) i s = F n (i + 1) s' ∧ I (i + 1) s')
    (last : ∀ n s, I N s → ∃ r, F (n + 1) N s = some r ∧ Q r) {i : Nat} {s : σ} (hi : i ≤ N) (h0 : I i s) {n : Nat} (hn : N - i < n) : ∃ r, F n i s = some r ∧ Q r := by
  induction n generalizing i s with
  | zero => omega
  | succ n ih =>
    by_cases h : i = N
    · subst h; exact last n s h0
    · rcases step n i s (by omega) h0 with h1 | ⟨s', h1, h2⟩
      · exact h1
      · rw [h1]; exact ih (by omega) h2 (by omega)
theorem ex_eq {α : Type} {o : Option α} {x : α} : (∃ r, o = some r ∧ r = x) ↔ o = some x := ⟨fun ⟨_, h1, h2⟩ => h2 ▸ h1, fun h => ⟨_, h, rfl⟩⟩
/-- a number between 0 and n -/
abbrev rg (x : Int32) (n : Nat) : Prop := ¬ x < 0 ∧ x < nI n
theorem rg_nI {h n : Nat} (hh : h < n) (hn : n < 2 ^ 31) : rg (nI h) n := ⟨nI_pos (by omega), nI_lt hh hn⟩
theorem rg_of {x : Int32} {n : Nat} (h : rg x n) (hn : n < 2 ^ 31) : ∃ j, j < n ∧ x = nI j := by
  obtain ⟨j, hj, rfl⟩ := nI_of h.1
  exact ⟨j, (nI_ltI hj hn).mp h.2, rfl⟩
theorem i_nlt {x y : Int32} : ¬ x < y ↔ y ≤ x := Int32.not_lt
theorem i_nle {x y : Int32} : ¬ x ≤ y ↔ y < x := Int32.not_le
theorem rg_no {x : Int32} {n : Nat} (h : ¬ rg x n) : x < 0 ∨ nI n ≤ x := by
  by_cases h0 : x < 0
  · exact Or.inl h0
  · exact Or.inr (i_nlt.mp fun z => h ⟨h0, z⟩)
/-! THE GHOST: what the state means, in numbers -/
/-- dishes: how many, what they need, smoke, word -/
abbrev Mn : Type := Nat × (Nat → Nat → Nat) × (Nat → Nat) × (Nat → Nat)
abbrev Mn.nd (N : Mn) : Nat := N.1
abbrev Mn.need (N : Mn) : Nat → Nat → Nat := N.2.1
abbrev Mn.sm (N : Mn) : Nat → Nat := N.2.2.1
abbrev Mn.wd (N : Mn) : Nat → Nat := N.2.2.2
def Mn.units (N : Mn) (d : Nat) : Nat := N.need d 0 + N.need d 1 + N.need d 2 + N.need d 3 + N.need d 4
/-- larders, how many plumes, their houses, their dishes, fog, the lot -/
abbrev Sp : Type := (Nat → Nat → Nat) × Nat × (Nat → Nat) × (Nat → Nat) × Nat × Int32
abbrev Sp.L (P : Sp) : Nat → Nat → Nat := P.1
abbrev Sp.np (P : Sp) : Nat := P.2.1
abbrev Sp.ph (P : Sp) : Nat → Nat := P.2.2.1
abbrev Sp.pd (P : Sp) : Nat → Nat := P.2.2.2.1
abbrev Sp.fog (P : Sp) : Nat := P.2.2.2.2.1
abbrev Sp.lot (P : Sp) : Int32 := P.2.2.2.2.2
/-- the text (length, bytes), the dishes, how many houses, suppers, images, the trace -/
abbrev Gh : Type := (Nat × (Nat → Nat)) × Mn × Nat × Sp × (Nat → Option Sp) × Int64
abbrev Gh.tl (g : Gh) : Nat := g.1.1
abbrev Gh.tb (g : Gh) : Nat → Nat := g.1.2
abbrev Gh.mn (g : Gh) : Mn := g.2.1
abbrev Gh.nh (g : Gh) : Nat := g.2.2.1
abbrev Gh.now (g : Gh) : Sp := g.2.2.2.1
abbrev Gh.img (g : Gh) : Nat → Option Sp := g.2.2.2.2.1
abbrev Gh.tr (g : Gh) : Int64 := g.2.2.2.2.2
abbrev Gh.setNow (g : Gh) (P : Sp) : Gh := (g.1, g.2.1, g.2.2.1, P, g.2.2.2.2)
def WMn (N : Mn) : Prop := N.nd ≤ 8 ∧ ∀ d, d < N.nd → (∀ g, g < 5 → N.need d g ≤ 9) ∧ N.sm d < 8 ∧ N.wd d < 8
def WSp (nh nd : Nat) (P : Sp) : Prop := (∀ h, h < nh → ∀ g, g < 5 → P.L h g ≤ 9) ∧ P.np ≤ 20 ∧ (∀ j, j < P.np → P.ph j < nh ∧ P.pd j < nd) ∧ P.fog ≤ 5
def WG (g : Gh) : Prop := g.tl ≤ 300 ∧ (∀ j, j < g.tl → g.tb j < 256) ∧ WMn g.mn ∧ g.nh ≤ 6 ∧ WSp g.nh g.mn.nd g.now ∧ ∀ i P, g.img i = some P → WSp g.nh g.mn.nd P
/-! the class -/
def CMn (k : Nat) (N : Mn) (S : St) : Prop :=
  S.1 k 4 = nI N.nd ∧ ∀ d, d < N.nd → (∀ g, g < 5 → S.1 (k + 1) (d * 5 + g) = nI (N.need d g)) ∧ S.1 (k + 2) d = nI (N.units d) ∧ S.1 (k + 3) d = nI (N.sm d) ∧ S.1 (k + 4) d = nI (N.wd d)
def CSp (k nh : Nat) (P : Sp) (S : St) : Prop :=
  S.1 k 3 = nI nh ∧ S.1 k 4 = nI P.np ∧ S.1 k 5 = nI P.fog ∧ S.1 k 6 = P.lot ∧ (∀ h, h < nh → ∀ g, g < 5 → S.1 (k + 1) (h * 5 + g) = nI (P.L h g)) ∧ ∀ j, j < P.np → S.1 (k + 2) j = nI (P.ph j) ∧ S.1 (k + 3) j = nI (P.pd j)
def CIm (k nh : Nat) (o : Option Sp) (S : St) : Prop := match o with
  | none => S.1 k 7 = 0
  | some P => S.1 k 7 = 1 ∧ CSp k nh P S
def CR (g : Gh) (S : St) : Prop :=
  S.1 1 1 = nI g.tl ∧ (∀ j, j < g.tl → S.1 2 j = nI (g.tb j)) ∧ CMn 14 g.mn S ∧ CSp 19 g.nh g.now S ∧ CIm 23 g.nh (g.img 0) S ∧ CIm 27 g.nh (g.img 1) S ∧ S.2 0 9 = g.tr
/-- the rows that mean something stay -/
def Same (S S' : St) : Prop := (∀ r, r = 1 ∨ r = 2 ∨ (14 ≤ r ∧ r ≤ 30) → S'.1 r = S.1 r) ∧ S'.2 0 = S.2 0
theorem Same.rf (S : St) : Same S S := ⟨fun _ _ => rfl, rfl⟩
theorem Same.tr {S S' S2 : St} (h : Same S S') (h2 : Same S' S2) : Same S S2 := ⟨fun r hr => (h2.1 r hr).trans (h.1 r hr), h2.2.trans h.2⟩
theorem Same.up {S S' : St} (h : Same S S') {k j : Nat} {v : Int32} (hk : ¬ (k = 1 ∨ k = 2 ∨ (14 ≤ k ∧ k ≤ 30))) : Same S (upI S' k j v) := ⟨fun r hr => (upI_o r (fun z => hk (by rw [← z]; exact hr))).trans (h.1 r hr), h.2⟩
theorem Same.upl {S S' : St} (h : Same S S') {k j : Nat} {v : Int64} (hk : 0 ≠ k) : Same S (upL S' k j v) := ⟨h.1, (upL_o 0 hk).trans h.2⟩
theorem CMn.same {N : Mn} {S S' : St} (h : CMn 14 N S) (hs : Same S S') : CMn 14 N S' := by
  unfold CMn at *
  rw [hs.1 14 (by omega), hs.1 (14 + 1) (by omega), hs.1 (14 + 2) (by omega), hs.1 (14 + 3) (by omega), hs.1 (14 + 4) (by omega)]
  exact h
theorem CSp.same {k nh : Nat} {P : Sp} {S S' : St} (h : CSp k nh P S) (hs : Same S S') (hk : 14 ≤ k ∧ k + 3 ≤ 30) : CSp k nh P S' := by
  unfold CSp at *
  rw [hs.1 k (by omega), hs.1 (k + 1) (by omega), hs.1 (k + 2) (by omega), hs.1 (k + 3) (by omega)]
  exact h
theorem CIm.same {k nh : Nat} {o : Option Sp} {S S' : St} (h : CIm k nh o S) (hs : Same S S') (hk : 14 ≤ k ∧ k + 3 ≤ 30) : CIm k nh o S' := by
  cases o with
  | none => exact (congrFun (hs.1 k (by omega)) 7).trans h
  | some P => exact ⟨(congrFun (hs.1 k (by omega)) 7).trans h.1, h.2.same hs hk⟩
theorem CR.same {g : Gh} {S S' : St} (h : CR g S) (hs : Same S S') : CR g S' := by
  obtain ⟨h1, h2, h3, h4, h5, h6, h7⟩ := h
  exact ⟨by rw [hs.1 1 (by omega)]; exact h1, by rw [hs.1 2 (by omega)]; exact h2, h3.same hs, h4.same hs (by omega), h5.same hs (by omega), h6.same hs (by omega), by rw [hs.2]; exact h7⟩
/-! the reference -/
def MMn (b : Nat) (N : Mn) (M : St) : Prop := ∀ d, d < N.nd → (∀ g, g < 5 → M.1 5 (5 * (b + d) + g) = nI (N.need d g)) ∧ M.1 6 (b + d) = nI (N.sm d) ∧ M.1 7 (b + d) = nI (N.wd d)
def MSp (b nh : Nat) (P : Sp) (M : St) : Prop :=
  M.1 9 (b + 32) = nI P.np ∧ M.1 9 (b + 30) = nI P.fog ∧ M.1 9 (b + 31) = P.lot ∧ (∀ h, h < nh → ∀ g, g < 5 → M.1 9 (b + (5 * h + g)) = nI (P.L h g)) ∧ ∀ j, j < P.np → M.1 9 (b + (33 + 2 * j)) = nI (P.ph j) ∧ M.1 9 (b + (33 + 2 * j + 1)) = nI (P.pd j)
def MIm (i nh : Nat) (o : Option Sp) (M : St) : Prop := match o with
  | none => M.1 10 i = 0
  | some P => M.1 10 i = 1 ∧ MSp (73 * (1 + i)) nh P M
def MR (g : Gh) (M : St) : Prop :=
  M.1 0 2 = nI g.tl ∧ (∀ j, j < g.tl → M.1 1 j &&& 255 = nI (g.tb j)) ∧ M.1 4 0 = nI g.mn.nd ∧ MMn 0 g.mn M ∧ M.1 2 0 = nI g.nh ∧ MSp 0 g.nh g.now M ∧ MIm 0 g.nh (g.img 0) M ∧ MIm 1 g.nh (g.img 1) M ∧ M.2 0 0 = g.tr
def MSame (M M' : St) : Prop := (∀ r, r ≤ 10 → M'.1 r = M.1 r) ∧ M'.2 0 = M.2 0
theorem MSame.rf (S : St) : MSame S S := ⟨fun _ _ => rfl, rfl⟩
theorem MSame.tr {S S' S2 : St} (h : MSame S S') (h2 : MSame S' S2) : MSame S S2 := ⟨fun r hr => (h2.1 r hr).trans (h.1 r hr), h2.2.trans h.2⟩
theorem MSame.up {S S' : St} (h : MSame S S') {k j : Nat} {v : Int32} (hk : 10 < k) : MSame S (upI S' k j v) := ⟨fun r hr => (upI_o r (by omega)).trans (h.1 r hr), h.2⟩
theorem MSame.upl {S S' : St} (h : MSame S S') {k j : Nat} {v : Int64} (hk : 0 ≠ k) : MSame S (upL S' k j v) := ⟨h.1, (upL_o 0 hk).trans h.2⟩
theorem MMn.same {b : Nat} {N : Mn} {M M' : St} (h : MMn b N M) (hs : MSame M M') : MMn b N M' := by
  unfold MMn at *
  rw [hs.1 5 (by omega), hs.1 6 (by omega), hs.1 7 (by omega)]
  exact h
theorem MSp.same {b nh : Nat} {P : Sp} {M M' : St} (h : MSp b nh P M) (hs : MSame M M') : MSp b nh P M' := by
  unfold MSp at *
  rw [hs.1 9 (by omega)]
  exact h
theorem MIm.same {i nh : Nat} {o : Option Sp} {M M' : St} (h : MIm i nh o M) (hs : MSame M M') : MIm i nh o M' := by
  cases o with
  | none => exact (congrFun (hs.1 10 (by omega)) i).trans h
  | some P => exact ⟨(congrFun (hs.1 10 (by omega)) i).trans h.1, h.2.same hs⟩
theorem MR.same {g : Gh} {S S' : St} (h : MR g S) (hs : MSame S S') : MR g S' := by
  obtain ⟨h1, h2, h3, h4, h5, h6, h7, h8, h9⟩ := h
  exact ⟨by rw [hs.1 0 (by omega)]; exact h1, by rw [hs.1 1 (by omega)]; exact h2, by rw [hs.1 4 (by omega)]; exact h3, h4.same hs, by rw [hs.1 2 (by omega)]; exact h5, h6.same hs, h7.same hs, h8.same hs, by rw [hs.2]; exact h9⟩
/-- the goods P are enough for the dish d -/
theorem all5 {p : Nat → Prop} : (∀ g, g < 5 → p g) ↔ p 0 ∧ p 1 ∧ p 2 ∧ p 3 ∧ p 4 := by
  refine ⟨fun h => ⟨h 0 (by omega), h 1 (by omega), h 2 (by omega), h 3 (by omega), h 4 (by omega)⟩, fun h g hg => ?_⟩
  obtain ⟨h0, h1, h2, h3, h4⟩ := h
  match g, hg with
  | 0, _ => exact h0
  | 1, _ => exact h1
  | 2, _ => exact h2
  | 3, _ => exact h3
  | 4, _ => exact h4
def Mn.fits (N : Mn) (d : Nat) (P : Nat → Nat) : Bool := decide (N.need d 0 ≤ P 0 ∧ N.need d 1 ≤ P 1 ∧ N.need d 2 ≤ P 2 ∧ N.need d 3 ≤ P 3 ∧ N.need d 4 ≤ P 4)
theorem Mn.fits_t {N : Mn} {d : Nat} {P : Nat → Nat} : N.fits d P = true ↔ ∀ g, g < 5 → N.need d g ≤ P g := decide_eq_true_iff.trans (all5 (p := fun g => N.need d g ≤ P g)).symm
theorem Mn.fits_f {N : Mn} {d : Nat} {P : Nat → Nat} : N.fits d P = false ↔ ¬ ∀ g, g < 5 → N.need d g ≤ P g := by rw [← Mn.fits_t]; simp
def bI (b : Bool) : Int32 := if b = true then 1 else 0
theorem bI_t : bI true = 1 := rfl
theorem bI_f : bI false = 0 := rfl
theorem bI_z {b : Bool} : bI b = 0 ↔ b = false := by cases b <;> simp [bI]
theorem px_nb {β : Type} (b : Bool) (k : Option β) : x_nr (bI b) k = k := by cases b <;> rfl
theorem need_ok {N : Mn} {S : St} (hm : CMn 14 N S) (hw : WMn N) {d g : Nat} (hd : d < N.nd) (hg : g < 5) : jMenu_need (nI d) (nI g) S = some (nI (N.need d g), S) := by
  have h8 := hw.1
  unfold jMenu_need
  rw [z5, nI_mul, nI_add, px_ld (by omega) (by omega), (hm.2 d hd).1 g hg]
theorem fits_39 {N : Mn} {S : St} (hm : CMn 14 N S) (hw : WMn N) {P : Nat → Nat} (hP : ∀ g, g < 5 → S.1 39 g = nI (P g) ∧ P g < 1000) {d : Nat} (hd : d < N.nd) : jMenu_fits_39 (nI d) S = some (bI (N.fits d P), S) := by
  refine ex_eq.mp (for_up (F := fun n i s => jMenu_fits_39_h2 n (nI d) (nI i) s) (N := 5) (I := fun i s => s = S ∧ ∀ g, g < i → N.need d g ≤ P g) _ ?_ ?_ (i := 0) (Nat.zero_le _) ⟨rfl, fun g h => by omega⟩ (n := FU) (by decide))
  · intro n i s hi ⟨hs, hI⟩
    subst hs
    have hb := ((hw.2 d hd).1 i hi)
    have hb2 := (hP i hi).2
    show (∃ r, jMenu_fits_39_h2 (n + 1) (nI d) (nI i) s = some r ∧ _) ∨ ∃ s', jMenu_fits_39_h2 (n + 1) (nI d) (nI i) s = jMenu_fits_39_h2 n (nI d) (nI (i + 1)) s' ∧ _
    rw [jMenu_fits_39_h2, jMenu_fits_39_b2, z5, if_neg (nI_ge hi (by decide)), need_ok hm hw hd hi, px_bd, px_ld hi (by decide), (hP i hi).1]
    by_cases hc : N.need d i ≤ P i
    · right
      rw [if_pos (nI_le hc (by omega)), z1, nI_add]
      refine ⟨s, rfl, rfl, fun g hg => ?_⟩
      rcases Nat.lt_succ_iff_lt_or_eq.mp hg with h | h
      · exact hI g h
      · exact h ▸ hc
    · left
      rw [if_neg (nI_ge (by omega) (by omega)), px_n0]
      exact ⟨_, rfl, by rw [Mn.fits_f.mpr (fun z => hc (z i hi)), bI_f]⟩
  · intro n s ⟨hs, hI⟩
    subst hs
    rw [jMenu_fits_39_h2, jMenu_fits_39_b2, z5, if_pos (nI_le (Nat.le_refl _) (by decide)), px_n1]
    exact ⟨_, rfl, by rw [Mn.fits_t.mpr hI, bI_t]⟩
