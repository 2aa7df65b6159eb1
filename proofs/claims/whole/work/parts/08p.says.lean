/-! says: three places, a dish or none at each -/
def dig (c p : Nat) : Nat := match p with
  | 0 => c / 81
  | 1 => c / 9 % 9
  | _ => c % 9
def n8 (N : Mn) (d k : Nat) : Nat := if d < 8 then N.need d k else 0
def uu8 (N : Mn) (d : Nat) : Nat := if d < 8 then N.units d else 0
abbrev Rq : Type := Nat → Option Nat
def okd (N : Mn) (rq : Rq) (p d : Nat) : Prop := match rq p with
  | some w => d < N.nd ∧ N.wd d = w
  | none => d = 8
theorem okd_dec (N : Mn) (rq : Rq) (p d : Nat) : okd N rq p d ∨ ¬ okd N rq p d := Classical.em _
def okB (N : Mn) (rq : Rq) (p d : Nat) : Bool := match rq p with
  | some w => decide (d < N.nd) && decide (N.wd d = w)
  | none => decide (d = 8)
theorem okB_t {N : Mn} {rq : Rq} {p d : Nat} : okB N rq p d = true ↔ okd N rq p d := by
  unfold okB okd
  cases rq p with
  | none => simp
  | some w => simp
def rowB (N : Mn) (rq : Rq) (c : Nat) : Bool := okB N rq 0 (dig c 0) && okB N rq 1 (dig c 1) && okB N rq 2 (dig c 2)
abbrev stP (N : Mn) (L : Nat → Nat) (c k : Nat) : Prop := n8 N (dig c 0) k + n8 N (dig c 1) k + n8 N (dig c 2) k ≤ L k
def stB (N : Mn) (L : Nat → Nat) (c : Nat) : Bool := decide (stP N L c 0 ∧ stP N L c 1 ∧ stP N L c 2 ∧ stP N L c 3 ∧ stP N L c 4)
theorem stB_t {N : Mn} {L : Nat → Nat} {c : Nat} : stB N L c = true ↔ ∀ k, k < 5 → n8 N (dig c 0) k + n8 N (dig c 1) k + n8 N (dig c 2) k ≤ L k := decide_eq_true_iff.trans (all5 (p := stP N L c)).symm
theorem uz8 {N : Mn} : uu8 N 8 = 0 := rfl
theorem nz8 {N : Mn} {k : Nat} : n8 N 8 k = 0 := rfl
def uOf (N : Mn) (c : Nat) : Nat := uu8 N (dig c 0) + uu8 N (dig c 1) + uu8 N (dig c 2)
def betN (u c : Nat) (b : Option (Nat × Nat)) : Option (Nat × Nat) := match b with
  | none => some (u, c)
  | some q => if u < q.1 then some (u, c) else some q
def bestN (N : Mn) (L : Nat → Nat) (rq : Rq) : Nat → Option (Nat × Nat)
  | 0 => none
  | c + 1 => if (rowB N rq c && stB N L c) = true then betN (uOf N c) c (bestN N L rq c) else bestN N L rq c
theorem best_t {N : Mn} {L : Nat → Nat} {rq : Rq} {c : Nat} (h1 : rowB N rq c = true) (h2 : stB N L c = true) : bestN N L rq (c + 1) = betN (uOf N c) c (bestN N L rq c) := if_pos (by rw [h1, h2]; rfl)
theorem best_f {N : Mn} {L : Nat → Nat} {rq : Rq} {c : Nat} (h : ¬ (rowB N rq c && stB N L c) = true) : bestN N L rq (c + 1) = bestN N L rq c := if_neg h
theorem best_skip {N : Mn} {L : Nat → Nat} {rq : Rq} {a b : Nat} (hab : a ≤ b) (h : ∀ c, a ≤ c → c < b → ¬ (rowB N rq c && stB N L c) = true) : bestN N L rq b = bestN N L rq a := by
  induction b with
  | zero => rw [Nat.le_zero.mp hab]
  | succ b ih =>
    rcases Nat.lt_or_ge a (b + 1) with q | q
    · rw [best_f (h b (by omega) (by omega))]
      exact ih (by omega) (fun c h1 h2 => h c h1 (by omega))
    · rw [Nat.le_antisymm hab q]
theorem row_no {N : Mn} {L : Nat → Nat} {rq : Rq} {c p d : Nat} (hp : p < 3) (hd : dig c p = d) (h : ¬ okd N rq p d) : ¬ (rowB N rq c && stB N L c) = true := by
  intro z
  simp only [rowB, Bool.and_eq_true, okB_t] at z
  apply h
  rw [← hd]
  match p, hp with
  | 0, _ => exact z.1.1.1
  | 1, _ => exact z.1.1.2
  | 2, _ => exact z.1.2
theorem uu8_lt {N : Mn} (hw : WMn N) {rq : Rq} {p d : Nat} (h : okd N rq p d) : uu8 N d < 100 ∧ d < 9 := by
  unfold okd at h
  cases e : rq p with
  | none =>
    rw [e] at h
    have h : d = 8 := h
    subst h
    exact ⟨(by decide : 0 < 100), by decide⟩
  | some w =>
    rw [e] at h
    have h : d < N.nd ∧ N.wd d = w := h
    have := hw.1
    unfold uu8
    rw [if_pos (by omega)]
    exact ⟨units_lt hw h.1, by omega⟩
/-! the class -/
def FW (rq : Rq) (b : Option (Nat × Nat)) (S : St) : Prop := match b with
  | none => S.1 31 5 = -9
  | some q => S.1 31 5 = nI q.1 ∧ q.1 < 1000 ∧ ∀ p, p < 3 → rq p ≠ none → S.1 34 p = nI (dig q.2 p)
theorem FW.same {rq : Rq} {b : Option (Nat × Nat)} {S S' : St} (h : FW rq b S) (h1 : S'.1 31 5 = S.1 31 5) (h2 : S'.1 34 = S.1 34) : FW rq b S' := by
  cases b with
  | none => exact h1.trans h
  | some q => exact ⟨h1.trans h.1, h.2.1, fun p hp hq => by rw [h2]; exact h.2.2 p hp hq⟩
/-- the rows that a search leaves alone -/
def Pr (S S' : St) : Prop := Same S S' ∧ S'.1 32 = S.1 32 ∧ S'.1 31 4 = S.1 31 4
theorem Pr.rf (S : St) : Pr S S := ⟨Same.rf S, rfl, rfl⟩
theorem Pr.tr {S S' S2 : St} (h : Pr S S') (h2 : Pr S' S2) : Pr S S2 := ⟨h.1.tr h2.1, h2.2.1.trans h.2.1, h2.2.2.trans h.2.2⟩
theorem Pr.up {S S' : St} (h : Pr S S') {k j : Nat} {v : Int32} (hk : k = 33 ∨ k = 34 ∨ k = 35 ∨ (k = 31 ∧ j = 5)) : Pr S (upI S' k j v) :=
  ⟨h.1.up (by omega), (upI_o 32 (by omega)).trans h.2.1, (by rw [upI_at, if_neg (by omega)]; exact h.2.2)⟩
theorem cmp_ok {rq : Rq} {b : Option (Nat × Nat)} {S : St} {u c : Nat} (hb : FW rq b S) (hu : u < 1000) (h33 : ∀ p, p < 3 → rq p ≠ none → S.1 33 p = nI (dig c p)) : ∃ S', jSpeech_compare (nI u) S = some S' ∧ Pr S S' ∧ S'.1 33 = S.1 33 ∧ S'.1 35 = S.1 35 ∧ FW rq (betN u c b) S' := by
  have set : ∃ S', jSpeech_compare_b18 (nI u) S = some S' ∧ Pr S S' ∧ S'.1 33 = S.1 33 ∧ S'.1 35 = S.1 35 ∧ FW rq (some (u, c)) S' := by
    unfold jSpeech_compare_b18
    rw [px_lt]
    refine for_up (F := fun n i (q : St) => jSpeech_compare_h25 n (nI i) q) (N := 3) (I := fun i q => Pr S q ∧ q.1 33 = S.1 33 ∧ q.1 35 = S.1 35 ∧ q.1 31 5 = nI u ∧ ∀ p, p < i → q.1 34 p = S.1 33 p) _ ?_ ?_ (i := 0) (s := upI S 31 5 (nI u)) (Nat.zero_le _) ⟨(Pr.rf S).up (by omega), upI_o 33 (by omega), upI_o 35 (by omega), upI_hit, fun p hp => by omega⟩ (n := FU) (by decide)
    · intro n i q hi ⟨i1, i2, i3, i4, i5⟩
      right
      rw [jSpeech_compare_h25, jSpeech_compare_b25, z3, if_neg (nI_ge hi (by decide)), px_ld hi (by decide), i2, px_gd hi (by decide), px_lt, nI_clamp (by omega), z1, nI_add]
      refine ⟨_, rfl, i1.up (by omega), (upI_o 33 (by omega)).trans i2, (upI_o 35 (by omega)).trans i3, (upI_row (by omega)).trans i4, fun p hp => ?_⟩
      rw [upI_at]
      by_cases e : p = i
      · rw [if_pos ⟨rfl, e⟩, e]
      · rw [if_neg (fun z => e z.2), i5 p (by omega)]
    · intro n q ⟨i1, i2, i3, i4, i5⟩
      rw [jSpeech_compare_h25, jSpeech_compare_b25, z3, if_pos (nI_le (Nat.le_refl _) (by decide))]
      exact ⟨_, rfl, i1, i2, i3, i4, hu, fun p hp hq => by rw [i5 p hp]; exact h33 p hp hq⟩
  unfold jSpeech_compare
  cases b with
  | none =>
    rw [if_pos (show S.1 31 5 = -9 from hb)]
    exact set
  | some q =>
    have hq := hb.2.1
    rw [show S.1 31 5 = nI q.1 from hb.1, if_neg (nI_nm9 (by omega))]
    unfold betN
    dsimp only
    by_cases e : u < q.1
    · rw [if_pos (nI_lt e (by omega)), if_pos e]
      exact set
    · rw [if_neg (nI_nlt (by omega) (by omega)), if_neg e]
      exact ⟨S, rfl, Pr.rf S, rfl, rfl, hb⟩
theorem fits_35 {N : Mn} {S : St} (hm : CMn 14 N S) (hw : WMn N) {P : Nat → Nat} (hP : ∀ g, g < 5 → S.1 35 g = nI (P g) ∧ P g < 1000) {d : Nat} (hd : d < N.nd) : jMenu_fits_35 (nI d) S = some (bI (N.fits d P), S) := by
  refine ex_eq.mp (for_up (F := fun n i s => jMenu_fits_35_h2 n (nI d) (nI i) s) (N := 5) (I := fun i s => s = S ∧ ∀ g, g < i → N.need d g ≤ P g) _ ?_ ?_ (i := 0) (Nat.zero_le _) ⟨rfl, fun g h => by omega⟩ (n := FU) (by decide))
  · intro n i s hi ⟨hs, hI⟩
    subst hs
    have hb := ((hw.2 d hd).1 i hi)
    have hb2 := (hP i hi).2
    show (∃ r, jMenu_fits_35_h2 (n + 1) (nI d) (nI i) s = some r ∧ _) ∨ ∃ s', jMenu_fits_35_h2 (n + 1) (nI d) (nI i) s = jMenu_fits_35_h2 n (nI d) (nI (i + 1)) s' ∧ _
    rw [jMenu_fits_35_h2, jMenu_fits_35_b2, z5, if_neg (nI_ge hi (by decide)), need_ok hm hw hd hi, px_bd, px_ld hi (by decide), (hP i hi).1]
    by_cases hc : N.need d i ≤ P i
    · right
      rw [if_pos (nI_le hc (by omega)), z1, nI_add]
      refine ⟨s, rfl, rfl, fun g hg => ?_⟩
      rcases Nat.lt_succ_iff_lt_or_eq.mp hg with h | h
      · exact hI g h
      · exact h ▸ hc
    · left
      rw [if_neg (nI_ge (by omega) (by omega)), px_n0]
      exact ⟨_, rfl, by rw [Mn.fits_f.mpr (fun z => hc (z i hi)), bI_f]⟩
  · intro n s ⟨hs, hI⟩
    subst hs
    rw [jMenu_fits_35_h2, jMenu_fits_35_b2, z5, if_pos (nI_le (Nat.le_refl _) (by decide)), px_n1]
    exact ⟨_, rfl, by rw [Mn.fits_t.mpr hI, bI_t]⟩
/-- only the row 35 changes -/
def o35 (S S' : St) : Prop := (∀ r, r ≠ 35 → S'.1 r = S.1 r) ∧ S'.2 = S.2
theorem o35.rf (S : St) : o35 S S := ⟨fun _ _ => rfl, rfl⟩
theorem o35.up {S S' : St} (h : o35 S S') {j : Nat} {v : Int32} : o35 S (upI S' 35 j v) := ⟨fun r hr => (upI_o r hr).trans (h.1 r hr), h.2⟩
theorem o35.pr {S S' : St} (h : o35 S S') : Pr S S' := ⟨⟨fun r hr => h.1 r (by omega), by rw [h.2]⟩, h.1 32 (by omega), by rw [h.1 31 (by omega)]⟩
theorem o35.tr {S S' S2 : St} (h : o35 S S') (h2 : o35 S' S2) : o35 S S2 := ⟨fun r hr => (h2.1 r hr).trans (h.1 r hr), h2.2.trans h.2⟩
theorem take_35 {N : Mn} {S : St} (hm : CMn 14 N S) (hw : WMn N) {P : Nat → Nat} (hP : ∀ g, g < 5 → S.1 35 g = nI (P g) ∧ P g < 1000) {d : Nat} (hd : d < N.nd) (hf : N.fits d P = true) : ∃ S', jMenu_take_35 (nI d) S = some S' ∧ o35 S S' ∧ ∀ g, g < 5 → S'.1 35 g = nI (P g - N.need d g) := by
  have h8 := hw.1
  have hf := Mn.fits_t.mp hf
  refine for_up (F := fun n i (q : St) => jMenu_take_35_h2 n (nI d) (nI i) q) (N := 5) (I := fun i q => o35 S q ∧ ∀ g, g < 5 → q.1 35 g = nI (if g < i then P g - N.need d g else P g)) _ ?_ ?_ (i := 0) (s := S) (Nat.zero_le _) ⟨o35.rf S, fun g hg => by rw [if_neg (by omega)]; exact (hP g hg).1⟩ (n := FU) (by decide)
  · intro n i q hi ⟨hs, hI⟩
    right
    rw [jMenu_take_35_h2, jMenu_take_35_b2, z5, if_neg (nI_ge hi (by decide)), px_ld hi (by decide), hI i hi, if_neg (by omega), need_ok (hm.same hs.pr.1) hw hd hi, px_bd, px_gd hi (by decide), px_lt, nI_clamp (by omega), nI_sub (hf i hi), z1, nI_add]
    refine ⟨_, rfl, hs.up, fun g hg => ?_⟩
    rw [upI_at, hI g hg]
    by_cases c : g = i
    · rw [if_pos ⟨rfl, c⟩, c, if_pos (by omega)]
    · rw [if_neg (fun z => c z.2)]
      by_cases c2 : g < i
      · rw [if_pos c2, if_pos (by omega)]
      · rw [if_neg c2, if_neg (by omega)]
  · intro n q ⟨hs, hI⟩
    rw [jMenu_take_35_h2, jMenu_take_35_b2, z5, if_pos (nI_le (Nat.le_refl _) (by decide))]
    exact ⟨_, rfl, hs, fun g hg => by rw [hI g hg, if_pos hg]⟩
theorem putBack_ok {N : Mn} {S : St} (hm : CMn 14 N S) (hw : WMn N) {P : Nat → Nat} (hP : ∀ g, g < 5 → S.1 35 g = nI (P g)) {d : Nat} (hd : d < N.nd) : ∃ S', jMenu_putBack (nI d) S = some S' ∧ o35 S S' ∧ ∀ g, g < 5 → S'.1 35 g = nI (P g + N.need d g) := by
  have h8 := hw.1
  refine for_up (F := fun n i (q : St) => jMenu_putBack_h2 n (nI d) (nI i) q) (N := 5) (I := fun i q => o35 S q ∧ ∀ g, g < 5 → q.1 35 g = nI (if g < i then P g + N.need d g else P g)) _ ?_ ?_ (i := 0) (s := S) (Nat.zero_le _) ⟨o35.rf S, fun g hg => by rw [if_neg (by omega)]; exact hP g hg⟩ (n := FU) (by decide)
  · intro n i q hi ⟨hs, hI⟩
    right
    rw [jMenu_putBack_h2, jMenu_putBack_b2, z5, if_neg (nI_ge hi (by decide)), px_ld hi (by decide), hI i hi, if_neg (by omega), need_ok (hm.same hs.pr.1) hw hd hi, px_bd, px_gd hi (by decide), px_lt, nI_clamp (by omega), nI_add, z1, nI_add]
    refine ⟨_, rfl, hs.up, fun g hg => ?_⟩
    rw [upI_at, hI g hg]
    by_cases c : g = i
    · rw [if_pos ⟨rfl, c⟩, c, if_pos (by omega)]
    · rw [if_neg (fun z => c z.2)]
      by_cases c2 : g < i
      · rw [if_pos c2, if_pos (by omega)]
      · rw [if_neg c2, if_neg (by omega)]
  · intro n q ⟨hs, hI⟩
    rw [jMenu_putBack_h2, jMenu_putBack_b2, z5, if_pos (nI_le (Nat.le_refl _) (by decide))]
    exact ⟨_, rfl, hs, fun g hg => by rw [hI g hg, if_pos hg]⟩
/-- what is asked: T words, and of them the places in mk -/
def Ask (rq : Rq) (T mk : Nat) (w : Nat → Nat) : Prop := T ≤ 3 ∧ mk < 8 ∧ (∀ p, p < 3 → w p < 8) ∧ ∀ p, p < 3 → rq p = if p < T ∧ mk.testBit p = true then some (w p) else none
theorem ch3 {N : Mn} {L : Nat → Nat} {rq : Rq} {T mk : Nat} {w : Nat → Nat} {S0 : St} (hm : CMn 14 N S0) (hw : WMn N) (hA : Ask rq T mk w) (h31 : S0.1 31 4 = nI T) (h32 : ∀ p, p < T → S0.1 32 p = nI (w p)) (hL : ∀ k, k < 5 → L k < 1000)
    {d0 d1 d2 : Nat} (o0 : okd N rq 0 d0) (o1 : okd N rq 1 d1) (o2 : okd N rq 2 d2) (hS : ∀ k, k < 5 → n8 N d0 k + n8 N d1 k + n8 N d2 k ≤ L k) {S : St} (hp : Pr S0 S) (h33 : (rq 0 ≠ none → S.1 33 0 = nI d0) ∧ (rq 1 ≠ none → S.1 33 1 = nI d1) ∧ (rq 2 ≠ none → S.1 33 2 = nI d2)) (h35 : ∀ k, k < 5 → S.1 35 k = nI (L k - (n8 N d0 k + n8 N d1 k + n8 N d2 k))) (hF : FW rq (bestN N L rq (81 * d0 + 9 * d1 + 1 * d2)) S) :
    ∃ S', jSpeech_choose_2 (nI 3) (nI mk) (nI (uu8 N d0 + uu8 N d1 + uu8 N d2)) S = some S' ∧ Pr S0 S' ∧ (∀ i, i < 3 → S'.1 33 i = S.1 33 i) ∧ (∀ k, k < 5 → S'.1 35 k = S.1 35 k) ∧ FW rq (bestN N L rq (81 * d0 + 9 * d1 + 1 * d2 + 1)) S' := by
  obtain ⟨hT, hmk, hw8, hrq⟩ := hA
  have b0 := (uu8_lt hw o0).2
  have v0 := (uu8_lt hw o0).1
  have b1 := (uu8_lt hw o1).2
  have v1 := (uu8_lt hw o1).1
  have b2 := (uu8_lt hw o2).2
  have v2 := (uu8_lt hw o2).1
  have h8 := hw.1
  have e4 : S.1 31 4 = nI T := hp.2.2.trans h31
  unfold jSpeech_choose_2
  rw [e4]
  have set : ∃ S', jSpeech_choose_2_b13 (nI (uu8 N d0 + uu8 N d1 + uu8 N d2)) S = some S' ∧ Pr S0 S' ∧ (∀ i, i < 3 → S'.1 33 i = S.1 33 i) ∧ (∀ k, k < 5 → S'.1 35 k = S.1 35 k) ∧ FW rq (bestN N L rq (81 * d0 + 9 * d1 + 1 * d2 + 1)) S' := by
    unfold jSpeech_choose_2_b13
    have g0 : dig (81 * d0 + 9 * d1 + 1 * d2) 0 = d0 := by show (81 * d0 + 9 * d1 + 1 * d2) / 81 = d0; omega
    have g1 : dig (81 * d0 + 9 * d1 + 1 * d2) 1 = d1 := by show (81 * d0 + 9 * d1 + 1 * d2) / 9 % 9 = d1; omega
    have g2 : dig (81 * d0 + 9 * d1 + 1 * d2) 2 = d2 := by show (81 * d0 + 9 * d1 + 1 * d2) % 9 = d2; omega
    obtain ⟨S', e, q1, q2, q3, q4⟩ := cmp_ok (c := 81 * d0 + 9 * d1 + 1 * d2) hF (u := uu8 N d0 + uu8 N d1 + uu8 N d2) (by omega) (fun p hp hq => by
      match p, hp with
      | 0, _ => rw [g0]; exact h33.1 hq
      | 1, _ => rw [g1]; exact h33.2.1 hq
      | 2, _ => rw [g2]; exact h33.2.2 hq)
    rw [e, px_bv]
    refine ⟨S', rfl, hp.tr q1, fun i _ => by rw [q2], fun k _ => by rw [q3], ?_⟩
    rw [best_t (by unfold rowB; rw [g0, g1, g2, okB_t.mpr o0, okB_t.mpr o1, okB_t.mpr o2]; rfl) (stB_t.mpr (by rw [g0, g1, g2]; exact hS))]
    unfold uOf
    rw [g0, g1, g2]
    exact q4
  by_cases c : nI T ≤ nI 3
  · rw [if_pos c]; exact set
  · rw [if_neg c, if_neg (by decide)]; exact set
theorem ch2 {N : Mn} {L : Nat → Nat} {rq : Rq} {T mk : Nat} {w : Nat → Nat} {S0 : St} (hm : CMn 14 N S0) (hw : WMn N) (hA : Ask rq T mk w) (h31 : S0.1 31 4 = nI T) (h32 : ∀ p, p < T → S0.1 32 p = nI (w p)) (hL : ∀ k, k < 5 → L k < 1000)
    {d0 d1 : Nat} (o0 : okd N rq 0 d0) (o1 : okd N rq 1 d1) (hS : ∀ k, k < 5 → n8 N d0 k + n8 N d1 k ≤ L k) {S : St} (hp : Pr S0 S) (h33 : (rq 0 ≠ none → S.1 33 0 = nI d0) ∧ (rq 1 ≠ none → S.1 33 1 = nI d1)) (h35 : ∀ k, k < 5 → S.1 35 k = nI (L k - (n8 N d0 k + n8 N d1 k))) (hF : FW rq (bestN N L rq (81 * d0 + 9 * d1)) S) :
    ∃ S', jSpeech_choose_3 (nI 2) (nI mk) (nI (uu8 N d0 + uu8 N d1)) S = some S' ∧ Pr S0 S' ∧ (∀ i, i < 2 → S'.1 33 i = S.1 33 i) ∧ (∀ k, k < 5 → S'.1 35 k = S.1 35 k) ∧ FW rq (bestN N L rq (81 * d0 + 9 * d1 + 9)) S' := by
  obtain ⟨hT, hmk, hw8, hrq⟩ := hA
  have b0 := (uu8_lt hw o0).2
  have v0 := (uu8_lt hw o0).1
  have b1 := (uu8_lt hw o1).2
  have v1 := (uu8_lt hw o1).1
  have h8 := hw.1
  have e4 : S.1 31 4 = nI T := hp.2.2.trans h31
  unfold jSpeech_choose_3
  rw [e4]
  by_cases cT : T ≤ 2
  · rw [if_pos (nI_le cT (by omega))]
    unfold jSpeech_choose_3_b13
    have n2 : rq 2 = none := by rw [hrq 2 (by omega), if_neg (fun z => by omega)]
    have g0 : dig (81 * d0 + 9 * d1 + 8) 0 = d0 := by show (81 * d0 + 9 * d1 + 8) / 81 = d0; omega
    have g1 : dig (81 * d0 + 9 * d1 + 8) 1 = d1 := by show (81 * d0 + 9 * d1 + 8) / 9 % 9 = d1; omega
    have g2 : dig (81 * d0 + 9 * d1 + 8) 2 = 8 := by show (81 * d0 + 9 * d1 + 8) % 9 = 8; omega
    have hk : bestN N L rq (81 * d0 + 9 * d1 + 8) = bestN N L rq (81 * d0 + 9 * d1) := best_skip (by omega) (fun c h1 h2 => by
      exact row_no (p := 2) (by omega) (show c % 9 = c % 9 from rfl) (by unfold okd; rw [n2]; show ¬ c % 9 = 8; omega))
    obtain ⟨S', e, q1, q2, q3, q4⟩ := cmp_ok (c := 81 * d0 + 9 * d1 + 8) (hk ▸ hF) (u := uu8 N d0 + uu8 N d1) (by omega) (fun p hp hq => by
      match p, hp with
      | 0, _ => rw [g0]; exact h33.1 hq
      | 1, _ => rw [g1]; exact h33.2 hq
      | 2, _ => exact absurd n2 hq)
    rw [e, px_bv]
    refine ⟨S', rfl, hp.tr q1, fun i _ => by rw [q2], fun k _ => by rw [q3], ?_⟩
    rw [show 81 * d0 + 9 * d1 + 9 = 81 * d0 + 9 * d1 + 8 + 1 by omega, best_t (by unfold rowB; rw [g0, g1, g2, okB_t.mpr o0, okB_t.mpr o1, okB_t.mpr (show okd N rq 2 8 by unfold okd; rw [n2])]; rfl) (stB_t.mpr (by rw [g0, g1, g2]; intro k hk; have := hS k hk; simp only [nz8]; omega))]
    have eu : uOf N (81 * d0 + 9 * d1 + 8) = uu8 N d0 + uu8 N d1 := by
      unfold uOf
      simp only [g0, g1, g2, uz8]
      try omega
    rw [eu]
    exact q4
  rw [if_neg (nI_ge (by omega) (by omega)), if_pos (show nI 2 < 3 by decide), bit_nI (by omega)]
  by_cases cm : mk.testBit 2 = true
  · have er : rq 2 = some (w 2) := by rw [hrq 2 (by omega), if_pos ⟨by omega, cm⟩]
    have w8 := hw8 2 (by omega)
    rw [cm, bI_t, if_neg n10]
    have hx : ∀ x, okd N rq 2 x ↔ (x < N.nd ∧ N.wd x = w 2) := fun x => by unfold okd; rw [er]
    have key := for_up (F := fun n i (q : St) => jSpeech_choose_3_h43 n (nI 2) (nI mk) (nI (uu8 N d0 + uu8 N d1)) (nI i) q) (N := N.nd) (I := fun x q => Pr S0 q ∧ (∀ i, i < 2 → q.1 33 i = S.1 33 i) ∧ (∀ k, k < 5 → q.1 35 k = S.1 35 k) ∧ FW rq (bestN N L rq (81 * d0 + 9 * d1 + 1 * x)) q) (fun S' => Pr S0 S' ∧ (∀ i, i < 2 → S'.1 33 i = S.1 33 i) ∧ (∀ k, k < 5 → S'.1 35 k = S.1 35 k) ∧ FW rq (bestN N L rq (81 * d0 + 9 * d1 + 9)) S') ?_ ?_ (i := 0) (s := S) (Nat.zero_le _) ⟨hp, fun _ _ => rfl, fun _ _ => rfl, hF⟩ (n := FU) (Nat.lt_of_le_of_lt (Nat.le_trans (Nat.sub_le _ _) h8) (by decide))
    · obtain ⟨S', e, q⟩ := key
      exact ⟨S', e, q⟩
    · intro n x q hi ⟨i1, i2, i3, i4⟩
      right
      have hmq := hm.same i1.1
      have e18 : q.1 18 x = nI (N.wd x) := (hmq.2 x hi).2.2.2
      have e32 : q.1 32 2 = nI (w 2) := by rw [i1.2.1]; exact h32 2 (by omega)
      have bw := (hw.2 x hi).2.2
      have e44 : q.1 14 4 = nI N.nd := hmq.1
      rw [jSpeech_choose_3_h43, jSpeech_choose_3_b43, e44, if_neg (nI_ge hi (by omega)), px_ld (by omega) (by omega), e18, px_ld (by omega) (by omega), e32]
      by_cases c1 : N.wd x = w 2
      · rw [if_pos (show nI (N.wd x) = nI (w 2) by rw [c1])]
        have hP : ∀ k, k < 5 → q.1 35 k = nI (L k - (n8 N d0 k + n8 N d1 k)) ∧ L k - (n8 N d0 k + n8 N d1 k) < 1000 := fun k hk => ⟨(i3 k hk).trans (h35 k hk), by have := hL k hk; omega⟩
        rw [fits_35 (P := fun k => L k - (n8 N d0 k + n8 N d1 k)) hmq hw hP hi, px_bd]
        by_cases c2 : N.fits x (fun k => L k - (n8 N d0 k + n8 N d1 k)) = true
        · have c2' := Mn.fits_t.mp c2
          rw [c2, bI_t, if_neg n10, px_gd (by omega) (by omega), px_lt, nI_clamp (by omega)]
          have hP1 : ∀ k, k < 5 → (upI q 33 2 (nI x)).1 35 k = nI (L k - (n8 N d0 k + n8 N d1 k)) ∧ L k - (n8 N d0 k + n8 N d1 k) < 1000 := fun k hk => ⟨(upI_row (by omega)).trans (hP k hk).1, (hP k hk).2⟩
          have i1' : Pr S0 (upI q 33 2 (nI x)) := i1.up (by omega)
          obtain ⟨S2, e2, q2, t2⟩ := take_35 (P := fun k => L k - (n8 N d0 k + n8 N d1 k)) (hm.same i1'.1) hw hP1 hi c2
          have p2 := i1'.tr q2.pr
          have hm2 := hm.same p2.1
          have e16 : S2.1 16 x = nI (N.units x) := (hm2.2 x hi).2.1
          rw [e2, px_bv, px_ld (by omega) (by omega), e16, nI_add]
          have ux : uu8 N x = N.units x := if_pos (by omega)
          have nx : ∀ k, n8 N x k = N.need x k := fun k => if_pos (by omega)
          have s33 : ∀ i, i < 2 → S2.1 33 i = S.1 33 i := fun i hi => by rw [q2.1 33 (by omega), upI_off (by omega), i2 i hi]
          obtain ⟨S3, e3, p3, r3, t3, f3⟩ := ch3 hm hw ⟨hT, hmk, hw8, hrq⟩ h31 h32 hL o0 o1 ((hx x).mpr ⟨hi, c1⟩) (fun k hk => by have := c2' k hk; have := hS k hk; rw [nx]; omega) p2 (⟨fun z => (s33 0 (by omega)).trans (h33.1 z), fun z => (s33 1 (by omega)).trans (h33.2 z), fun _ => by rw [q2.1 33 (by omega), upI_hit]⟩) (fun k hk => by rw [t2 k hk, nx]; exact congrArg nI (by omega)) (i4.same (by rw [q2.1 31 (by omega)]; exact upI_row (by omega)) (by rw [q2.1 34 (by omega)]; exact upI_o 34 (by omega)))
          rw [show (uu8 N d0 + uu8 N d1) + N.units x = uu8 N d0 + uu8 N d1 + uu8 N x by rw [ux]]
          show ∃ s', x_bv (jSpeech_choose_2 (nI 2 + 1) (nI mk) (nI (uu8 N d0 + uu8 N d1 + uu8 N x)) S2) _ = _ ∧ _
          rw [show nI 2 + 1 = nI 3 from rfl, e3, px_bv]
          obtain ⟨S4, e4, q4, t4⟩ := putBack_ok (P := fun k => L k - (n8 N d0 k + n8 N d1 k) - N.need x k) (hm.same p3.1) hw (fun k hk => by rw [t3 k hk]; exact t2 k hk) hi
          rw [e4, px_bv, z1, nI_add]
          refine ⟨S4, rfl, p3.tr q4.pr, fun i hi => ?_, fun k hk => ?_, ?_⟩
          · rw [q4.1 33 (by omega), r3 i (by omega)]
            exact s33 i hi
          · rw [t4 k hk, h35 k hk]
            exact congrArg nI (by have c3 : N.need x k ≤ L k - (n8 N d0 k + n8 N d1 k) := c2' k hk; have := hS k hk; omega)
          · rw [show 81 * d0 + 9 * d1 + 1 * (x + 1) = 81 * d0 + 9 * d1 + 1 * x + 1 by omega]
            exact f3.same (by rw [q4.1 31 (by omega)]) (by rw [q4.1 34 (by omega)])
        · rw [show N.fits x (fun k => L k - (n8 N d0 k + n8 N d1 k)) = false by simpa using c2, bI_f, if_pos rfl, z1, nI_add]
          refine ⟨q, rfl, i1, i2, i3, ?_⟩
          rw [best_skip (a := 81 * d0 + 9 * d1 + 1 * x) (by omega) (fun c h1 h2 => by
            intro z
            have z := (Bool.and_eq_true _ _ ▸ z).2
            have z := stB_t.mp z
            apply c2
            refine Mn.fits_t.mpr (fun k hk => ?_)
            have z := z k hk
            rw [show dig c 0 = d0 by show c / 81 = d0; omega] at z
            rw [show dig c 1 = d1 by show c / 9 % 9 = d1; omega] at z
            rw [show dig c 2 = x by show c % 9 = x; omega] at z
            rw [show n8 N x k = N.need x k from if_pos (by omega)] at z
            show N.need x k ≤ L k - (n8 N d0 k + n8 N d1 k)
            omega)]
          exact i4
      · rw [if_neg (fun z => c1 ((nI_eq (by omega) (by omega)).mp z)), z1, nI_add]
        refine ⟨q, rfl, i1, i2, i3, ?_⟩
        rw [best_skip (a := 81 * d0 + 9 * d1 + 1 * x) (by omega) (fun c h1 h2 => row_no (p := 2) (d := x) (by omega) (by show c % 9 = x; omega) (fun z => c1 ((hx x).mp z).2))]
        exact i4
    · intro n q ⟨i1, i2, i3, i4⟩
      have e44 : q.1 14 4 = nI N.nd := (hm.same i1.1).1
      rw [jSpeech_choose_3_h43, jSpeech_choose_3_b43, e44, if_pos (nI_le (Nat.le_refl _) (by omega))]
      refine ⟨q, rfl, i1, i2, i3, ?_⟩
      rw [best_skip (a := 81 * d0 + 9 * d1 + 1 * N.nd) (by omega) (fun c h1 h2 => row_no (p := 2) (d := c % 9) (by omega) rfl (fun z => by have := ((hx _).mp z).1; omega))]
      exact i4
  · have er : rq 2 = none := by rw [hrq 2 (by omega), if_neg (fun z => cm z.2)]
    rw [show mk.testBit 2 = false by simpa using cm, bI_f, if_pos rfl, show nI 2 + 1 = nI 3 from rfl]
    have o8 : okd N rq 2 8 := by unfold okd; rw [er]
    have hk : bestN N L rq (81 * d0 + 9 * d1 + 1 * 8) = bestN N L rq (81 * d0 + 9 * d1) := best_skip (by omega) (fun c h1 h2 => row_no (p := 2) (d := c % 9) (by omega) rfl (by unfold okd; rw [er]; show ¬ c % 9 = 8; omega))
    obtain ⟨S3, e3, p3, r3, t3, f3⟩ := ch3 hm hw ⟨hT, hmk, hw8, hrq⟩ h31 h32 hL o0 o1 o8 (fun k hk => hS k hk) hp (⟨h33.1, h33.2, fun z => absurd er z⟩) (fun k hk => h35 k hk) (hk ▸ hF)
    have e3 : jSpeech_choose_2 (nI 3) (nI mk) (nI (uu8 N d0 + uu8 N d1)) S = some S3 := e3
    rw [e3, px_bv]
    exact ⟨S3, rfl, p3, fun i hi => r3 i (by omega), t3, by rw [show 81 * d0 + 9 * d1 + 9 = 81 * d0 + 9 * d1 + 1 * 8 + 1 by omega]; exact f3⟩
theorem ch1 {N : Mn} {L : Nat → Nat} {rq : Rq} {T mk : Nat} {w : Nat → Nat} {S0 : St} (hm : CMn 14 N S0) (hw : WMn N) (hA : Ask rq T mk w) (h31 : S0.1 31 4 = nI T) (h32 : ∀ p, p < T → S0.1 32 p = nI (w p)) (hL : ∀ k, k < 5 → L k < 1000)
    {d0 : Nat} (o0 : okd N rq 0 d0) (hS : ∀ k, k < 5 → n8 N d0 k ≤ L k) {S : St} (hp : Pr S0 S) (h33 : (rq 0 ≠ none → S.1 33 0 = nI d0)) (h35 : ∀ k, k < 5 → S.1 35 k = nI (L k - (n8 N d0 k))) (hF : FW rq (bestN N L rq (81 * d0)) S) :
    ∃ S', jSpeech_choose_4 (nI 1) (nI mk) (nI (uu8 N d0)) S = some S' ∧ Pr S0 S' ∧ (∀ i, i < 1 → S'.1 33 i = S.1 33 i) ∧ (∀ k, k < 5 → S'.1 35 k = S.1 35 k) ∧ FW rq (bestN N L rq (81 * d0 + 81)) S' := by
  obtain ⟨hT, hmk, hw8, hrq⟩ := hA
  have b0 := (uu8_lt hw o0).2
  have v0 := (uu8_lt hw o0).1
  have h8 := hw.1
  have e4 : S.1 31 4 = nI T := hp.2.2.trans h31
  unfold jSpeech_choose_4
  rw [e4]
  by_cases cT : T ≤ 1
  · rw [if_pos (nI_le cT (by omega))]
    unfold jSpeech_choose_4_b13
    have n1 : rq 1 = none := by rw [hrq 1 (by omega), if_neg (fun z => by omega)]
    have n2 : rq 2 = none := by rw [hrq 2 (by omega), if_neg (fun z => by omega)]
    have g0 : dig (81 * d0 + 80) 0 = d0 := by show (81 * d0 + 80) / 81 = d0; omega
    have g1 : dig (81 * d0 + 80) 1 = 8 := by show (81 * d0 + 80) / 9 % 9 = 8; omega
    have g2 : dig (81 * d0 + 80) 2 = 8 := by show (81 * d0 + 80) % 9 = 8; omega
    have hk : bestN N L rq (81 * d0 + 80) = bestN N L rq (81 * d0) := best_skip (by omega) (fun c h1 h2 => by
      by_cases y : c / 9 % 9 = 8
      · exact row_no (p := 2) (by omega) (show c % 9 = c % 9 from rfl) (by unfold okd; rw [n2]; show ¬ c % 9 = 8; omega)
      · exact row_no (p := 1) (by omega) (show c / 9 % 9 = c / 9 % 9 from rfl) (by unfold okd; rw [n1]; exact y))
    obtain ⟨S', e, q1, q2, q3, q4⟩ := cmp_ok (c := 81 * d0 + 80) (hk ▸ hF) (u := uu8 N d0) (by omega) (fun p hp hq => by
      match p, hp with
      | 0, _ => rw [g0]; exact h33 hq
      | 1, _ => exact absurd n1 hq
      | 2, _ => exact absurd n2 hq)
    rw [e, px_bv]
    refine ⟨S', rfl, hp.tr q1, fun i _ => by rw [q2], fun k _ => by rw [q3], ?_⟩
    rw [show 81 * d0 + 81 = 81 * d0 + 80 + 1 by omega, best_t (by unfold rowB; rw [g0, g1, g2, okB_t.mpr o0, okB_t.mpr (show okd N rq 1 8 by unfold okd; rw [n1]), okB_t.mpr (show okd N rq 2 8 by unfold okd; rw [n2])]; rfl) (stB_t.mpr (by rw [g0, g1, g2]; intro k hk; have := hS k hk; simp only [nz8]; omega))]
    have eu : uOf N (81 * d0 + 80) = uu8 N d0 := by
      unfold uOf
      simp only [g0, g1, g2, uz8]
      try omega
    rw [eu]
    exact q4
  rw [if_neg (nI_ge (by omega) (by omega)), if_pos (show nI 1 < 3 by decide), bit_nI (by omega)]
  by_cases cm : mk.testBit 1 = true
  · have er : rq 1 = some (w 1) := by rw [hrq 1 (by omega), if_pos ⟨by omega, cm⟩]
    have w8 := hw8 1 (by omega)
    rw [cm, bI_t, if_neg n10]
    have hx : ∀ x, okd N rq 1 x ↔ (x < N.nd ∧ N.wd x = w 1) := fun x => by unfold okd; rw [er]
    have key := for_up (F := fun n i (q : St) => jSpeech_choose_4_h43 n (nI 1) (nI mk) (nI (uu8 N d0)) (nI i) q) (N := N.nd) (I := fun x q => Pr S0 q ∧ (∀ i, i < 1 → q.1 33 i = S.1 33 i) ∧ (∀ k, k < 5 → q.1 35 k = S.1 35 k) ∧ FW rq (bestN N L rq (81 * d0 + 9 * x)) q) (fun S' => Pr S0 S' ∧ (∀ i, i < 1 → S'.1 33 i = S.1 33 i) ∧ (∀ k, k < 5 → S'.1 35 k = S.1 35 k) ∧ FW rq (bestN N L rq (81 * d0 + 81)) S') ?_ ?_ (i := 0) (s := S) (Nat.zero_le _) ⟨hp, fun _ _ => rfl, fun _ _ => rfl, hF⟩ (n := FU) (Nat.lt_of_le_of_lt (Nat.le_trans (Nat.sub_le _ _) h8) (by decide))
    · obtain ⟨S', e, q⟩ := key
      exact ⟨S', e, q⟩
    · intro n x q hi ⟨i1, i2, i3, i4⟩
      right
      have hmq := hm.same i1.1
      have e18 : q.1 18 x = nI (N.wd x) := (hmq.2 x hi).2.2.2
      have e32 : q.1 32 1 = nI (w 1) := by rw [i1.2.1]; exact h32 1 (by omega)
      have bw := (hw.2 x hi).2.2
      have e44 : q.1 14 4 = nI N.nd := hmq.1
      rw [jSpeech_choose_4_h43, jSpeech_choose_4_b43, e44, if_neg (nI_ge hi (by omega)), px_ld (by omega) (by omega), e18, px_ld (by omega) (by omega), e32]
      by_cases c1 : N.wd x = w 1
      · rw [if_pos (show nI (N.wd x) = nI (w 1) by rw [c1])]
        have hP : ∀ k, k < 5 → q.1 35 k = nI (L k - (n8 N d0 k)) ∧ L k - (n8 N d0 k) < 1000 := fun k hk => ⟨(i3 k hk).trans (h35 k hk), by have := hL k hk; omega⟩
        rw [fits_35 (P := fun k => L k - (n8 N d0 k)) hmq hw hP hi, px_bd]
        by_cases c2 : N.fits x (fun k => L k - (n8 N d0 k)) = true
        · have c2' := Mn.fits_t.mp c2
          rw [c2, bI_t, if_neg n10, px_gd (by omega) (by omega), px_lt, nI_clamp (by omega)]
          have hP1 : ∀ k, k < 5 → (upI q 33 1 (nI x)).1 35 k = nI (L k - (n8 N d0 k)) ∧ L k - (n8 N d0 k) < 1000 := fun k hk => ⟨(upI_row (by omega)).trans (hP k hk).1, (hP k hk).2⟩
          have i1' : Pr S0 (upI q 33 1 (nI x)) := i1.up (by omega)
          obtain ⟨S2, e2, q2, t2⟩ := take_35 (P := fun k => L k - (n8 N d0 k)) (hm.same i1'.1) hw hP1 hi c2
          have p2 := i1'.tr q2.pr
          have hm2 := hm.same p2.1
          have e16 : S2.1 16 x = nI (N.units x) := (hm2.2 x hi).2.1
          rw [e2, px_bv, px_ld (by omega) (by omega), e16, nI_add]
          have ux : uu8 N x = N.units x := if_pos (by omega)
          have nx : ∀ k, n8 N x k = N.need x k := fun k => if_pos (by omega)
          have s33 : ∀ i, i < 1 → S2.1 33 i = S.1 33 i := fun i hi => by rw [q2.1 33 (by omega), upI_off (by omega), i2 i hi]
          obtain ⟨S3, e3, p3, r3, t3, f3⟩ := ch2 hm hw ⟨hT, hmk, hw8, hrq⟩ h31 h32 hL o0 ((hx x).mpr ⟨hi, c1⟩) (fun k hk => by have := c2' k hk; have := hS k hk; rw [nx]; omega) p2 (⟨fun z => (s33 0 (by omega)).trans (h33 z), fun _ => by rw [q2.1 33 (by omega), upI_hit]⟩) (fun k hk => by rw [t2 k hk, nx]; exact congrArg nI (by omega)) (i4.same (by rw [q2.1 31 (by omega)]; exact upI_row (by omega)) (by rw [q2.1 34 (by omega)]; exact upI_o 34 (by omega)))
          rw [show (uu8 N d0) + N.units x = uu8 N d0 + uu8 N x by rw [ux]]
          show ∃ s', x_bv (jSpeech_choose_3 (nI 1 + 1) (nI mk) (nI (uu8 N d0 + uu8 N x)) S2) _ = _ ∧ _
          rw [show nI 1 + 1 = nI 2 from rfl, e3, px_bv]
          obtain ⟨S4, e4, q4, t4⟩ := putBack_ok (P := fun k => L k - (n8 N d0 k) - N.need x k) (hm.same p3.1) hw (fun k hk => by rw [t3 k hk]; exact t2 k hk) hi
          rw [e4, px_bv, z1, nI_add]
          refine ⟨S4, rfl, p3.tr q4.pr, fun i hi => ?_, fun k hk => ?_, ?_⟩
          · rw [q4.1 33 (by omega), r3 i (by omega)]
            exact s33 i hi
          · rw [t4 k hk, h35 k hk]
            exact congrArg nI (by have c3 : N.need x k ≤ L k - (n8 N d0 k) := c2' k hk; have := hS k hk; omega)
          · rw [show 81 * d0 + 9 * (x + 1) = 81 * d0 + 9 * x + 9 by omega]
            exact f3.same (by rw [q4.1 31 (by omega)]) (by rw [q4.1 34 (by omega)])
        · rw [show N.fits x (fun k => L k - (n8 N d0 k)) = false by simpa using c2, bI_f, if_pos rfl, z1, nI_add]
          refine ⟨q, rfl, i1, i2, i3, ?_⟩
          rw [best_skip (a := 81 * d0 + 9 * x) (by omega) (fun c h1 h2 => by
            intro z
            have z := (Bool.and_eq_true _ _ ▸ z).2
            have z := stB_t.mp z
            apply c2
            refine Mn.fits_t.mpr (fun k hk => ?_)
            have z := z k hk
            rw [show dig c 0 = d0 by show c / 81 = d0; omega] at z
            rw [show dig c 1 = x by show c / 9 % 9 = x; omega] at z
            rw [show n8 N x k = N.need x k from if_pos (by omega)] at z
            show N.need x k ≤ L k - (n8 N d0 k)
            omega)]
          exact i4
      · rw [if_neg (fun z => c1 ((nI_eq (by omega) (by omega)).mp z)), z1, nI_add]
        refine ⟨q, rfl, i1, i2, i3, ?_⟩
        rw [best_skip (a := 81 * d0 + 9 * x) (by omega) (fun c h1 h2 => row_no (p := 1) (d := x) (by omega) (by show c / 9 % 9 = x; omega) (fun z => c1 ((hx x).mp z).2))]
        exact i4
    · intro n q ⟨i1, i2, i3, i4⟩
      have e44 : q.1 14 4 = nI N.nd := (hm.same i1.1).1
      rw [jSpeech_choose_4_h43, jSpeech_choose_4_b43, e44, if_pos (nI_le (Nat.le_refl _) (by omega))]
      refine ⟨q, rfl, i1, i2, i3, ?_⟩
      rw [best_skip (a := 81 * d0 + 9 * N.nd) (by omega) (fun c h1 h2 => row_no (p := 1) (d := c / 9 % 9) (by omega) rfl (fun z => by have := ((hx _).mp z).1; omega))]
      exact i4
  · have er : rq 1 = none := by rw [hrq 1 (by omega), if_neg (fun z => cm z.2)]
    rw [show mk.testBit 1 = false by simpa using cm, bI_f, if_pos rfl, show nI 1 + 1 = nI 2 from rfl]
    have o8 : okd N rq 1 8 := by unfold okd; rw [er]
    have hk : bestN N L rq (81 * d0 + 9 * 8) = bestN N L rq (81 * d0) := best_skip (by omega) (fun c h1 h2 => row_no (p := 1) (d := c / 9 % 9) (by omega) rfl (by unfold okd; rw [er]; show ¬ c / 9 % 9 = 8; omega))
    obtain ⟨S3, e3, p3, r3, t3, f3⟩ := ch2 hm hw ⟨hT, hmk, hw8, hrq⟩ h31 h32 hL o0 o8 (fun k hk => hS k hk) hp (⟨h33, fun z => absurd er z⟩) (fun k hk => h35 k hk) (hk ▸ hF)
    have e3 : jSpeech_choose_3 (nI 2) (nI mk) (nI (uu8 N d0)) S = some S3 := e3
    rw [e3, px_bv]
    exact ⟨S3, rfl, p3, fun i hi => r3 i (by omega), t3, by rw [show 81 * d0 + 81 = 81 * d0 + 9 * 8 + 9 by omega]; exact f3⟩
theorem ch0 {N : Mn} {L : Nat → Nat} {rq : Rq} {T mk : Nat} {w : Nat → Nat} {S0 : St} (hm : CMn 14 N S0) (hw : WMn N) (hA : Ask rq T mk w) (h31 : S0.1 31 4 = nI T) (h32 : ∀ p, p < T → S0.1 32 p = nI (w p)) (hL : ∀ k, k < 5 → L k < 1000)
    (hS : ∀ k, k < 5 → 0 ≤ L k) {S : St} (hp : Pr S0 S) (h33 : True) (h35 : ∀ k, k < 5 → S.1 35 k = nI (L k - (0))) (hF : FW rq (bestN N L rq (0)) S) :
    ∃ S', jSpeech_choose_5 (nI 0) (nI mk) (nI (0)) S = some S' ∧ Pr S0 S' ∧ (∀ i, i < 0 → S'.1 33 i = S.1 33 i) ∧ (∀ k, k < 5 → S'.1 35 k = S.1 35 k) ∧ FW rq (bestN N L rq (0 + 729)) S' := by
  obtain ⟨hT, hmk, hw8, hrq⟩ := hA
  have h8 := hw.1
  have e4 : S.1 31 4 = nI T := hp.2.2.trans h31
  unfold jSpeech_choose_5
  rw [e4]
  by_cases cT : T ≤ 0
  · rw [if_pos (nI_le cT (by omega))]
    unfold jSpeech_choose_5_b13
    have n0 : rq 0 = none := by rw [hrq 0 (by omega), if_neg (fun z => by omega)]
    have n1 : rq 1 = none := by rw [hrq 1 (by omega), if_neg (fun z => by omega)]
    have n2 : rq 2 = none := by rw [hrq 2 (by omega), if_neg (fun z => by omega)]
    have g0 : dig (0 + 728) 0 = 8 := by show (0 + 728) / 81 = 8; omega
    have g1 : dig (0 + 728) 1 = 8 := by show (0 + 728) / 9 % 9 = 8; omega
    have g2 : dig (0 + 728) 2 = 8 := by show (0 + 728) % 9 = 8; omega
    have hk : bestN N L rq (0 + 728) = bestN N L rq (0) := best_skip (by omega) (fun c h1 h2 => by
      by_cases y0 : c / 81 = 8
      · by_cases y : c / 9 % 9 = 8
        · exact row_no (p := 2) (by omega) (show c % 9 = c % 9 from rfl) (by unfold okd; rw [n2]; show ¬ c % 9 = 8; omega)
        · exact row_no (p := 1) (by omega) (show c / 9 % 9 = c / 9 % 9 from rfl) (by unfold okd; rw [n1]; exact y)
      · exact row_no (p := 0) (by omega) (show c / 81 = c / 81 from rfl) (by unfold okd; rw [n0]; exact y0))
    obtain ⟨S', e, q1, q2, q3, q4⟩ := cmp_ok (c := 0 + 728) (hk ▸ hF) (u := 0) (by omega) (fun p hp hq => by
      match p, hp with
      | 0, _ => exact absurd n0 hq
      | 1, _ => exact absurd n1 hq
      | 2, _ => exact absurd n2 hq)
    rw [e, px_bv]
    refine ⟨S', rfl, hp.tr q1, fun i _ => by rw [q2], fun k _ => by rw [q3], ?_⟩
    rw [show 0 + 729 = 0 + 728 + 1 by omega, best_t (by unfold rowB; rw [g0, g1, g2, okB_t.mpr (show okd N rq 0 8 by unfold okd; rw [n0]), okB_t.mpr (show okd N rq 1 8 by unfold okd; rw [n1]), okB_t.mpr (show okd N rq 2 8 by unfold okd; rw [n2])]; rfl) (stB_t.mpr (by rw [g0, g1, g2]; intro k hk; have := hS k hk; simp only [nz8]; omega))]
    have eu : uOf N (0 + 728) = 0 := by
      unfold uOf
      simp only [g0, g1, g2, uz8]
      try omega
    rw [eu]
    exact q4
  rw [if_neg (nI_ge (by omega) (by omega)), if_pos (show nI 0 < 3 by decide), bit_nI (by omega)]
  by_cases cm : mk.testBit 0 = true
  · have er : rq 0 = some (w 0) := by rw [hrq 0 (by omega), if_pos ⟨by omega, cm⟩]
    have w8 := hw8 0 (by omega)
    rw [cm, bI_t, if_neg n10]
    have hx : ∀ x, okd N rq 0 x ↔ (x < N.nd ∧ N.wd x = w 0) := fun x => by unfold okd; rw [er]
    have key := for_up (F := fun n i (q : St) => jSpeech_choose_5_h43 n (nI 0) (nI mk) (nI (0)) (nI i) q) (N := N.nd) (I := fun x q => Pr S0 q ∧ (∀ i, i < 0 → q.1 33 i = S.1 33 i) ∧ (∀ k, k < 5 → q.1 35 k = S.1 35 k) ∧ FW rq (bestN N L rq (81 * x)) q) (fun S' => Pr S0 S' ∧ (∀ i, i < 0 → S'.1 33 i = S.1 33 i) ∧ (∀ k, k < 5 → S'.1 35 k = S.1 35 k) ∧ FW rq (bestN N L rq (0 + 729)) S') ?_ ?_ (i := 0) (s := S) (Nat.zero_le _) ⟨hp, fun _ _ => rfl, fun _ _ => rfl, hF⟩ (n := FU) (Nat.lt_of_le_of_lt (Nat.le_trans (Nat.sub_le _ _) h8) (by decide))
    · obtain ⟨S', e, q⟩ := key
      exact ⟨S', e, q⟩
    · intro n x q hi ⟨i1, i2, i3, i4⟩
      right
      have hmq := hm.same i1.1
      have e18 : q.1 18 x = nI (N.wd x) := (hmq.2 x hi).2.2.2
      have e32 : q.1 32 0 = nI (w 0) := by rw [i1.2.1]; exact h32 0 (by omega)
      have bw := (hw.2 x hi).2.2
      have e44 : q.1 14 4 = nI N.nd := hmq.1
      rw [jSpeech_choose_5_h43, jSpeech_choose_5_b43, e44, if_neg (nI_ge hi (by omega)), px_ld (by omega) (by omega), e18, px_ld (by omega) (by omega), e32]
      by_cases c1 : N.wd x = w 0
      · rw [if_pos (show nI (N.wd x) = nI (w 0) by rw [c1])]
        have hP : ∀ k, k < 5 → q.1 35 k = nI (L k - (0)) ∧ L k - (0) < 1000 := fun k hk => ⟨(i3 k hk).trans (h35 k hk), by have := hL k hk; omega⟩
        rw [fits_35 (P := fun k => L k - (0)) hmq hw hP hi, px_bd]
        by_cases c2 : N.fits x (fun k => L k - (0)) = true
        · have c2' := Mn.fits_t.mp c2
          rw [c2, bI_t, if_neg n10, px_gd (by omega) (by omega), px_lt, nI_clamp (by omega)]
          have hP1 : ∀ k, k < 5 → (upI q 33 0 (nI x)).1 35 k = nI (L k - (0)) ∧ L k - (0) < 1000 := fun k hk => ⟨(upI_row (by omega)).trans (hP k hk).1, (hP k hk).2⟩
          have i1' : Pr S0 (upI q 33 0 (nI x)) := i1.up (by omega)
          obtain ⟨S2, e2, q2, t2⟩ := take_35 (P := fun k => L k - (0)) (hm.same i1'.1) hw hP1 hi c2
          have p2 := i1'.tr q2.pr
          have hm2 := hm.same p2.1
          have e16 : S2.1 16 x = nI (N.units x) := (hm2.2 x hi).2.1
          rw [e2, px_bv, px_ld (by omega) (by omega), e16, nI_add]
          have ux : uu8 N x = N.units x := if_pos (by omega)
          have nx : ∀ k, n8 N x k = N.need x k := fun k => if_pos (by omega)
          have s33 : ∀ i, i < 0 → S2.1 33 i = S.1 33 i := fun i hi => by rw [q2.1 33 (by omega), upI_off (by omega), i2 i hi]
          obtain ⟨S3, e3, p3, r3, t3, f3⟩ := ch1 hm hw ⟨hT, hmk, hw8, hrq⟩ h31 h32 hL  ((hx x).mpr ⟨hi, c1⟩) (fun k hk => by have := c2' k hk; have := hS k hk; rw [nx]; omega) p2 (fun _ => by rw [q2.1 33 (by omega), upI_hit]) (fun k hk => by rw [t2 k hk, nx]; exact congrArg nI (by omega)) (i4.same (by rw [q2.1 31 (by omega)]; exact upI_row (by omega)) (by rw [q2.1 34 (by omega)]; exact upI_o 34 (by omega)))
          rw [show (0) + N.units x = uu8 N x by rw [ux]; omega]
          show ∃ s', x_bv (jSpeech_choose_4 (nI 0 + 1) (nI mk) (nI (uu8 N x)) S2) _ = _ ∧ _
          rw [show nI 0 + 1 = nI 1 from rfl, e3, px_bv]
          obtain ⟨S4, e4, q4, t4⟩ := putBack_ok (P := fun k => L k - (0) - N.need x k) (hm.same p3.1) hw (fun k hk => by rw [t3 k hk]; exact t2 k hk) hi
          rw [e4, px_bv, z1, nI_add]
          refine ⟨S4, rfl, p3.tr q4.pr, fun i hi => ?_, fun k hk => ?_, ?_⟩
          · rw [q4.1 33 (by omega), r3 i (by omega)]
            exact s33 i hi
          · rw [t4 k hk, h35 k hk]
            exact congrArg nI (by have c3 : N.need x k ≤ L k - (0) := c2' k hk; have := hS k hk; omega)
          · rw [show 81 * (x + 1) = 81 * x + 81 by omega]
            exact f3.same (by rw [q4.1 31 (by omega)]) (by rw [q4.1 34 (by omega)])
        · rw [show N.fits x (fun k => L k - (0)) = false by simpa using c2, bI_f, if_pos rfl, z1, nI_add]
          refine ⟨q, rfl, i1, i2, i3, ?_⟩
          rw [best_skip (a := 81 * x) (by omega) (fun c h1 h2 => by
            intro z
            have z := (Bool.and_eq_true _ _ ▸ z).2
            have z := stB_t.mp z
            apply c2
            refine Mn.fits_t.mpr (fun k hk => ?_)
            have z := z k hk
            rw [show dig c 0 = x by show c / 81 = x; omega] at z
            rw [show n8 N x k = N.need x k from if_pos (by omega)] at z
            show N.need x k ≤ L k - (0)
            omega)]
          exact i4
      · rw [if_neg (fun z => c1 ((nI_eq (by omega) (by omega)).mp z)), z1, nI_add]
        refine ⟨q, rfl, i1, i2, i3, ?_⟩
        rw [best_skip (a := 81 * x) (by omega) (fun c h1 h2 => row_no (p := 0) (d := x) (by omega) (by show c / 81 = x; omega) (fun z => c1 ((hx x).mp z).2))]
        exact i4
    · intro n q ⟨i1, i2, i3, i4⟩
      have e44 : q.1 14 4 = nI N.nd := (hm.same i1.1).1
      rw [jSpeech_choose_5_h43, jSpeech_choose_5_b43, e44, if_pos (nI_le (Nat.le_refl _) (by omega))]
      refine ⟨q, rfl, i1, i2, i3, ?_⟩
      rw [best_skip (a := 81 * N.nd) (by omega) (fun c h1 h2 => row_no (p := 0) (d := c / 81) (by omega) rfl (fun z => by have := ((hx _).mp z).1; omega))]
      exact i4
  · have er : rq 0 = none := by rw [hrq 0 (by omega), if_neg (fun z => cm z.2)]
    rw [show mk.testBit 0 = false by simpa using cm, bI_f, if_pos rfl, show nI 0 + 1 = nI 1 from rfl]
    have o8 : okd N rq 0 8 := by unfold okd; rw [er]
    have hk : bestN N L rq (81 * 8) = bestN N L rq (0) := best_skip (by omega) (fun c h1 h2 => row_no (p := 0) (d := c / 81) (by omega) rfl (by unfold okd; rw [er]; show ¬ c / 81 = 8; omega))
    obtain ⟨S3, e3, p3, r3, t3, f3⟩ := ch1 hm hw ⟨hT, hmk, hw8, hrq⟩ h31 h32 hL  o8 (fun k hk => hS k hk) hp (fun z => absurd er z) (fun k hk => h35 k hk) (hk ▸ hF)
    have e3 : jSpeech_choose_4 (nI 1) (nI mk) (nI (0)) S = some S3 := e3
    rw [e3, px_bv]
    exact ⟨S3, rfl, p3, fun i hi => r3 i (by omega), t3, by rw [show 0 + 729 = 81 * 8 + 81 by omega]; exact f3⟩
