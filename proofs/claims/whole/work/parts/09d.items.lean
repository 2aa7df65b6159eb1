/-! what a text tells -/
abbrev Df : Type := Nat × (Nat → Nat → Nat) × Mn × Option Nat
abbrev Df.nh (D : Df) : Nat := D.1
abbrev Df.L (D : Df) : Nat → Nat → Nat := D.2.1
abbrev Df.mn (D : Df) : Mn := D.2.2.1
abbrev Df.fog (D : Df) : Option Nat := D.2.2.2
def mostK (kind x : Nat) : Nat := if kind = 6 then 5 else if 5 ≤ x then 7 else 9
def cntK (kind : Nat) : Nat := if kind = 4 then 5 else if kind = 5 then 7 else 1
def numsT (t : Tx) (kind : Nat) : Nat → Nat → Nat → (Nat → Nat) → Sum Nat (Nat × (Nat → Nat))
  | 0, _, a, f => if tkK t a = 3 then .inr (a, f) else .inl (tkS t a)
  | k + 1, x, a, f => if tkK t a = 2 ∧ tkV t a ≤ mostK kind x then numsT t kind k (x + 1) (tkN t a) (fun j => if j = x then tkV t a else f j) else .inl (tkS t a)
def mayK (D : Df) (kind : Nat) : Bool := decide ((kind = 4 ∧ D.nh < 6) ∨ (kind = 5 ∧ D.mn.nd < 8) ∨ (kind = 6 ∧ D.fog = none))
def putD (D : Df) (kind : Nat) (f : Nat → Nat) : Df :=
  if kind = 4 then (D.nh + 1, (fun h k => if h = D.nh then f k else D.L h k), D.mn, D.fog)
  else if kind = 5 then (D.nh, D.L, (D.mn.nd + 1, (fun d k => if d = D.mn.nd then f k else D.mn.need d k), (fun d => if d = D.mn.nd then f 5 else D.mn.sm d), (fun d => if d = D.mn.nd then f 6 else D.mn.wd d)), D.fog)
  else (D.nh, D.L, D.mn, some (f 0))
def itemT (t : Tx) (a : Nat) (D : Df) : Sum Nat (Nat × (Nat → Nat)) := if mayK D (tkK t a) = true then numsT t (tkK t a) (cntK (tkK t a)) 0 (tkN t a) (fun _ => 0) else .inl (tkS t a)
def itemsT (t : Tx) : Nat → Nat → Nat → Df → Sum Nat (Nat × Df)
  | 0, _, _, _ => .inl 0
  | n + 1, c, a, D => if tkK t a = 0 then .inr (c, D) else match itemT t a D with
    | .inl p => .inl p
    | .inr q => itemsT t n (c + 1) (tkN t q.1) (putD D (tkK t a) q.2)
def wtD (D : Df) : Nat := D.nh + D.mn.nd + (if D.fog = none then 0 else 1)
def WD (D : Df) : Prop := D.nh ≤ 6 ∧ WMn D.mn ∧ (∀ h, h < D.nh → ∀ k, k < 5 → D.L h k ≤ 9) ∧ (∀ v, D.fog = some v → v ≤ 5)
theorem tk_le {t : Tx} {a : Nat} (h : a ≤ t.1) : tkS t a ≤ t.1 ∧ tkN t a ≤ t.1 := by
  obtain ⟨w1, w2, -, -⟩ := span_ok (pSp_lt (t := t)) (n := t.1) h (Nat.sub_le _ _)
  refine ⟨w2, ?_⟩
  unfold tkN
  obtain ⟨s, hs⟩ : ∃ s, s = tkS t a := ⟨_, rfl⟩
  have w2 : tkS t a ≤ t.1 := w2
  rw [← hs] at w2 ⊢
  unfold tkAt
  split
  · exact w2
  · split
    · exact (span_ok (pDg_lt (t := t)) (n := t.1) w2 (Nat.sub_le _ _)).2.1
    · split
      · exact (span_ok (pLt_lt (t := t)) (n := t.1) w2 (Nat.sub_le _ _)).2.1
      · show s + 1 ≤ t.1
        omega
theorem tkV_lt {t : Tx} {a : Nat} (hb : ∀ j, j < t.1 → t.2 j < 256) (h : tkK t a = 2) : tkV t a < 10000 := by
  unfold tkK at h
  unfold tkV
  obtain ⟨s, hs⟩ : ∃ s, s = tkS t a := ⟨_, rfl⟩
  rw [← hs] at h ⊢
  unfold tkAt at h ⊢
  split at h
  · cases h
  · rename_i c
    rw [if_neg c]
    split at h
    · rename_i hd
      rw [if_pos hd]
      dsimp only at h ⊢
      have h1 := hb s (by omega)
      obtain ⟨w1, w2, w3, w4⟩ := span_ok (pDg_lt (t := t)) (n := t.1) (a := s) (by omega) (Nat.sub_le _ _)
      split
      · omega
      · rename_i n1
        split at h
        · have h2 := hb (s + 1) (by omega)
          omega
        · cases h
    · split at h
      · exfalso
        unfold nameK at h
        dsimp only at h
        split at h
        · omega
        · split at h
          · omega
          · split at h <;> omega
      · exfalso
        dsimp only at h
        split at h <;> omega
theorem numsT_ok {t : Tx} {kind : Nat} : ∀ {k x a : Nat} {f : Nat → Nat} {r : Nat × (Nat → Nat)}, a ≤ t.1 → numsT t kind k x a f = .inr r → r.1 ≤ t.1 ∧ tkK t r.1 = 3 ∧ (∀ j, x ≤ j → j < x + k → r.2 j ≤ mostK kind j) ∧ ∀ j, j < x → r.2 j = f j
  | 0, x, a, f, r, ha, h => by
    simp only [numsT] at h
    split at h
    · rename_i c
      cases h
      exact ⟨ha, c, fun j h1 h2 => by omega, fun j _ => rfl⟩
    · cases h
  | k + 1, x, a, f, r, ha, h => by
    simp only [numsT] at h
    split at h
    · rename_i c
      obtain ⟨i1, i2, i3, i4⟩ := numsT_ok (tk_le ha).2 h
      refine ⟨i1, i2, fun j h1 h2 => ?_, fun j hj => ?_⟩
      · by_cases e : j = x
        · rw [e, i4 x (by omega), if_pos rfl]
          exact c.2
        · exact i3 j (by omega) (by omega)
      · rw [i4 j (by omega), if_neg (by omega)]
    · cases h
theorem numsT_l {t : Tx} {kind : Nat} : ∀ {k x a : Nat} {f : Nat → Nat} {p : Nat}, a ≤ t.1 → numsT t kind k x a f = .inl p → p ≤ t.1
  | 0, x, a, f, p, ha, h => by
    simp only [numsT] at h
    split at h
    · cases h
    · cases h
      exact (tk_le ha).1
  | k + 1, x, a, f, p, ha, h => by
    simp only [numsT] at h
    split at h
    · exact numsT_l (tk_le ha).2 h
    · cases h
      exact (tk_le ha).1
theorem itemT_l {t : Tx} {a : Nat} {D : Df} {p : Nat} (ha : a ≤ t.1) (h : itemT t a D = .inl p) : p ≤ t.1 := by
  unfold itemT at h
  split at h
  · exact numsT_l (tk_le ha).2 h
  · cases h
    exact (tk_le ha).1
theorem itemT_r {t : Tx} {a : Nat} {D : Df} {q : Nat × (Nat → Nat)} (ha : a ≤ t.1) (h : itemT t a D = .inr q) : mayK D (tkK t a) = true ∧ q.1 ≤ t.1 ∧ tkK t q.1 = 3 ∧ ∀ j, j < cntK (tkK t a) → q.2 j ≤ mostK (tkK t a) j := by
  unfold itemT at h
  split at h
  · rename_i c
    obtain ⟨i1, i2, i3, -⟩ := numsT_ok (tk_le ha).2 h
    exact ⟨c, i1, i2, fun j hj => i3 j (Nat.zero_le _) (by omega)⟩
  · cases h
theorem WD.put {D : Df} (h : WD D) {kind : Nat} {f : Nat → Nat} (hm : mayK D kind = true) (hf : ∀ j, j < cntK kind → f j ≤ mostK kind j) : WD (putD D kind f) ∧ wtD (putD D kind f) = wtD D + 1 := by
  obtain ⟨h1, h2, h3, h4⟩ := h
  unfold mayK at hm
  unfold putD wtD
  rcases of_decide_eq_true hm with ⟨rfl, m⟩ | ⟨rfl, m⟩ | ⟨rfl, m⟩
  · rw [if_pos rfl]
    refine ⟨⟨m, h2, fun h hh k hk => ?_, h4⟩, ?_⟩
    · show (if h = D.nh then f k else D.L h k) ≤ 9
      split
      · have := hf k hk
        have e : mostK 4 k = 9 := by unfold mostK; rw [if_neg (by omega), if_neg (by omega)]
        omega
      · have hh : h < D.nh + 1 := hh
        exact h3 h (by omega) k hk
    · show D.nh + 1 + D.mn.nd + (if D.fog = none then 0 else 1) = D.nh + D.mn.nd + (if D.fog = none then 0 else 1) + 1
      omega
  · rw [if_neg (by decide), if_pos rfl]
    refine ⟨⟨h1, ⟨m, fun d hd => ⟨fun k hk => ?_, ?_, ?_⟩⟩, h3, h4⟩, ?_⟩
    · show (if d = D.mn.nd then f k else D.mn.need d k) ≤ 9
      split
      · have := hf k (by show k < 7; omega)
        have e : mostK 5 k = 9 := by unfold mostK; rw [if_neg (by omega), if_neg (by omega)]
        omega
      · have hd : d < D.mn.nd + 1 := hd
        exact (h2.2 d (by omega)).1 k hk
    · show (if d = D.mn.nd then f 5 else D.mn.sm d) < 8
      split
      · have := hf 5 (by decide)
        have e : mostK 5 5 = 7 := rfl
        omega
      · have hd : d < D.mn.nd + 1 := hd
        exact (h2.2 d (by omega)).2.1
    · show (if d = D.mn.nd then f 6 else D.mn.wd d) < 8
      split
      · have := hf 6 (by decide)
        have e : mostK 5 6 = 7 := rfl
        omega
      · have hd : d < D.mn.nd + 1 := hd
        exact (h2.2 d (by omega)).2.2
    · show D.nh + (D.mn.nd + 1) + (if D.fog = none then 0 else 1) = D.nh + D.mn.nd + (if D.fog = none then 0 else 1) + 1
      omega
  · rw [if_neg (by decide), if_neg (by decide)]
    refine ⟨⟨h1, h2, h3, fun v hv => ?_⟩, ?_⟩
    · have hv : some (f 0) = some v := hv
      injection hv with hv
      have := hf 0 (by decide)
      have e : mostK 6 0 = 5 := rfl
      omega
    · show D.nh + D.mn.nd + (if some (f 0) = none then 0 else 1) = _
      rw [if_neg (fun z => by cases z), if_pos m]
theorem wtD_le {D : Df} (h : WD D) : wtD D ≤ 15 := by
  have h1 := h.1
  have h2 := h.2.1.1
  unfold wtD
  split <;> omega
/-! the class -/
def TkC (t : Tx) (a : Nat) (S : St) : Prop := S.1 1 2 = nI (tkN t a) ∧ S.1 1 3 = nI (tkS t a) ∧ S.1 1 4 = nI (tkK t a) ∧ (tkK t a = 2 → S.1 1 5 = nI (tkV t a))
def CD (D : Df) (S : St) : Prop := S.1 9 3 = nI D.nh ∧ S.1 9 4 = 0 ∧ S.1 9 5 = nI (D.fog.getD 0) ∧ S.1 3 3 = nI (if D.fog = none then 0 else 1) ∧ (∀ h, h < D.nh → ∀ k, k < 5 → S.1 10 (h * 5 + k) = nI (D.L h k)) ∧ CMn 4 D.mn S
/-- rows that a telling leaves alone -/
def vfr (S S' : St) : Prop := (∀ r, r = 2 ∨ 14 ≤ r → S'.1 r = S.1 r) ∧ S'.1 1 1 = S.1 1 1 ∧ S'.2 = S.2
theorem vfr.rf (S : St) : vfr S S := ⟨fun _ _ => rfl, rfl, rfl⟩
theorem vfr.tr {S S' S2 : St} (h : vfr S S') (h2 : vfr S' S2) : vfr S S2 := ⟨fun r hr => (h2.1 r hr).trans (h.1 r hr), h2.2.1.trans h.2.1, h2.2.2.trans h.2.2⟩
theorem vfr.up {S S' : St} (h : vfr S S') {k j : Nat} {v : Int32} (hk : 3 ≤ k ∧ k ≤ 13) : vfr S (upI S' k j v) := ⟨fun r hr => (upI_o r (by omega)).trans (h.1 r hr), (upI_row (by omega)).trans h.2.1, h.2.2⟩
theorem tfr.v {S S' : St} (h : tfr S S') : vfr S S' := ⟨fun r hr => h.1 r (by omega), h.2.1, h.2.2⟩
theorem CT.v {t : Tx} {S S' : St} (h : CT t S) (hs : vfr S S') : CT t S' := ⟨hs.2.1.trans h.1, h.2.1, fun j hj => ⟨by rw [hs.1 2 (by omega)]; exact (h.2.2 j hj).1, (h.2.2 j hj).2⟩⟩
/-- only the numbers (row 13) and what is read of the text change -/
def nfr (S S' : St) : Prop := (∀ r, r ≠ 1 → r ≠ 13 → S'.1 r = S.1 r) ∧ S'.1 1 1 = S.1 1 1 ∧ S'.2 = S.2
theorem nfr.v {S S' : St} (h : nfr S S') : vfr S S' := ⟨fun r hr => h.1 r (by omega) (by omega), h.2.1, h.2.2⟩
theorem nfr.tr {S S' S2 : St} (h : nfr S S') (h2 : nfr S' S2) : nfr S S2 := ⟨fun r hr h3 => (h2.1 r hr h3).trans (h.1 r hr h3), h2.2.1.trans h.2.1, h2.2.2.trans h.2.2⟩
theorem tfr.n {S S' : St} (h : tfr S S') : nfr S S' := ⟨fun r hr _ => h.1 r hr, h.2.1, h.2.2⟩
theorem CD.n {D : Df} {S S' : St} (h : CD D S) (hs : nfr S S') : CD D S' := by
  unfold CD CMn at *
  rw [hs.1 9 (by omega) (by omega), hs.1 3 (by omega) (by omega), hs.1 10 (by omega) (by omega), hs.1 4 (by omega) (by omega), hs.1 (4 + 1) (by omega) (by omega), hs.1 (4 + 2) (by omega) (by omega), hs.1 (4 + 3) (by omega) (by omega), hs.1 (4 + 4) (by omega) (by omega)]
  exact h
theorem fogFlag {D : Df} {S : St} (h : CD D S) : (S.1 3 3 = 0 ↔ D.fog = none) := by
  rw [h.2.2.2.1]
  by_cases c : D.fog = none
  · rw [if_pos c]
    exact ⟨fun _ => c, fun _ => rfl⟩
  · rw [if_neg c]
    exact ⟨fun z => absurd z (by decide), fun z => absurd z c⟩
theorem kind_le {t : Tx} {a : Nat} : tkK t a ≤ 6 := by
  unfold tkK tkAt nameK
  split
  · omega
  · split
    · dsimp only
      split <;> omega
    · split
      · dsimp only
        split
        · omega
        · split
          · omega
          · split <;> omega
      · dsimp only
        split <;> omega
theorem may_ok {D : Df} {S : St} (hD : CD D S) (hw : WD D) {kind : Nat} (hk : kind ≤ 6) : jTelling_mayBegin (nI kind) S = some (bI (mayK D kind), S) := by
  have h6 := hw.1
  have h8 := hw.2.1.1
  have e4 : S.1 4 4 = nI D.mn.nd := hD.2.2.2.2.2.1
  unfold jTelling_mayBegin mayK
  by_cases c4 : kind = 4
  · rw [if_pos (show nI kind = 4 by rw [c4]; rfl), hD.1]
    by_cases c : D.nh < 6
    · rw [if_neg (show ¬ 6 ≤ nI D.nh from (nI_ge c (by omega) : ¬ nI 6 ≤ nI D.nh)), px_n1, decide_eq_true (Or.inl ⟨c4, c⟩)]; rfl
    · rw [if_pos (show 6 ≤ nI D.nh from (nI_le (by omega) (by omega) : nI 6 ≤ nI D.nh)), px_n0, decide_eq_false (by omega)]; rfl
  · rw [if_neg (show ¬ nI kind = 4 from fun z => c4 ((nI_eq (b := 4) (by omega) (by omega)).mp z))]
    by_cases c5 : kind = 5
    · rw [if_pos (show nI kind = 5 by rw [c5]; rfl), e4]
      by_cases c : D.mn.nd < 8
      · rw [if_neg (show ¬ 8 ≤ nI D.mn.nd from (nI_ge c (by omega) : ¬ nI 8 ≤ nI D.mn.nd)), px_n1, decide_eq_true (Or.inr (Or.inl ⟨c5, c⟩))]; rfl
      · rw [if_pos (show 8 ≤ nI D.mn.nd from (nI_le (by omega) (by omega) : nI 8 ≤ nI D.mn.nd)), px_n0, decide_eq_false (by omega)]; rfl
    · rw [if_neg (show ¬ nI kind = 5 from fun z => c5 ((nI_eq (b := 5) (by omega) (by omega)).mp z))]
      by_cases c6 : kind = 6
      · rw [if_pos (show nI kind = 6 by rw [c6]; rfl)]
        by_cases c : D.fog = none
        · rw [if_pos ((fogFlag hD).mpr c), px_n1, decide_eq_true (Or.inr (Or.inr ⟨c6, c⟩))]; rfl
        · rw [if_neg (fun z => c ((fogFlag hD).mp z)), px_n0, decide_eq_false (fun z => by
            rcases z with z | z | z
            · omega
            · omega
            · exact c z.2)]; rfl
      · rw [if_neg (show ¬ nI kind = 6 from fun z => c6 ((nI_eq (b := 6) (by omega) (by omega)).mp z)), px_n0, decide_eq_false (by omega)]; rfl
theorem cnt_ok {D : Df} {kind : Nat} (h : mayK D kind = true) {S : St} : jTelling_numbersOf (nI kind) S = some (nI (cntK kind), S) ∧ cntK kind ≤ 7 := by
  unfold mayK at h
  rcases of_decide_eq_true h with ⟨rfl, -⟩ | ⟨rfl, -⟩ | ⟨rfl, -⟩
  · exact ⟨rfl, by decide⟩
  · exact ⟨rfl, by decide⟩
  · exact ⟨rfl, by decide⟩
theorem most_ok {D : Df} {kind : Nat} (h : mayK D kind = true) {x : Nat} (hx : x < cntK kind) {S : St} : jTelling_mostOf (nI kind) (nI x) S = some (nI (mostK kind x), S) := by
  unfold mayK at h
  unfold jTelling_mostOf mostK
  rcases of_decide_eq_true h with ⟨rfl, -⟩ | ⟨rfl, -⟩ | ⟨rfl, -⟩
  · have hx : x < 5 := hx
    rw [if_neg (by decide), if_neg (show ¬ 5 ≤ nI x from (nI_ge hx (by omega) : ¬ nI 5 ≤ nI x)), if_neg (by decide), if_neg (by omega)]
    rfl
  · have hx : x < 7 := hx
    rw [if_neg (by decide)]
    by_cases c : 5 ≤ x
    · rw [if_pos (show 5 ≤ nI x from (nI_le c (by omega) : nI 5 ≤ nI x)), ite_self, if_neg (by decide), if_pos c]
      rfl
    · rw [if_neg (show ¬ 5 ≤ nI x from (nI_ge (by omega) (by omega) : ¬ nI 5 ≤ nI x)), if_neg (by decide), if_neg c]
      rfl
  · rw [if_pos (by decide), if_pos rfl]
    rfl
