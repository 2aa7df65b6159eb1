/-! numbers and the step in the class -/
def numC (t : Tx) (s : Nat) : Nat → Nat
  | 0 => 0
  | 1 => t.2 s - 48
  | _ + 2 => 10 * (t.2 s - 48) + (t.2 (s + 1) - 48)
theorem readNumber_ok {t : Tx} {S : St} (ht : CT t S) {s : Nat} (hd : pDg t s = true) (h2 : S.1 1 2 = nI s) (h3 : S.1 1 3 = nI s) (h5 : S.1 1 5 = 0) : ∃ S', jText_readNumber S = some (nI (tkAt t s).1, S') ∧ tfr S S' ∧ S'.1 1 2 = nI (tkAt t s).2.2 ∧ S'.1 1 3 = nI s ∧ ((tkAt t s).1 = 2 → S'.1 1 5 = nI (tkAt t s).2.1) := by
  have hs : s < t.1 := pDg_lt s hd
  obtain ⟨w1, w2, w3, w4⟩ := span_ok (pDg_lt (t := t)) (n := t.1) (Nat.le_of_lt hs) (Nat.sub_le _ _)
  have etk : tkAt t s = (if spanN (pDg t) t.1 s - s = 1 ∨ (spanN (pDg t) t.1 s - s = 2 ∧ t.2 s ≠ 48) then 2 else 1, (if spanN (pDg t) t.1 s - s = 1 then t.2 s - 48 else 10 * (t.2 s - 48) + (t.2 (s + 1) - 48)), spanN (pDg t) t.1 s) := by
    unfold tkAt
    rw [if_neg (by omega), if_pos hd]
  rw [etk]
  obtain ⟨e, he⟩ : ∃ e, e = spanN (pDg t) t.1 s := ⟨_, rfl⟩
  rw [← he] at w1 w2 w3 w4 ⊢
  dsimp only
  have h300 := ht.2.1
  have hse : s < e := by
    by_cases c : s = e
    · rw [← c, hd] at w4
      cases w4
    · omega
  have dg : ∀ j, s ≤ j → j < e → 48 ≤ t.2 j ∧ t.2 j ≤ 57 := fun j h1 h2 => (of_decide_eq_true (w3 j h1 h2)).2
  obtain ⟨hb0, hb0'⟩ := ht.2.2 s hs
  unfold jText_readNumber
  rw [h3, px_ld (by omega) (by omega), hb0]
  obtain ⟨z, hz⟩ : ∃ z : Int32, z = if t.2 s = 48 then 1 else 0 := ⟨_, rfl⟩
  have hz' : (if nI (t.2 s) = 48 then jText_readNumber_h20 FU 1 S else jText_readNumber_h20 FU 0 S) = jText_readNumber_h20 FU z S := by
    by_cases c : t.2 s = 48
    · rw [if_pos (show nI (t.2 s) = 48 by rw [c]; rfl), hz, if_pos c]
    · rw [if_neg (show ¬ nI (t.2 s) = 48 from fun y => c ((nI_eq (b := 48) (by omega) (by omega)).mp y)), hz, if_neg c]
  rw [hz']
  obtain ⟨m', S1, e1, f1, a2, a3, a5⟩ := for_go (F := fun n i (q : St) => jText_readNumber_h20 n z q) (N := e) (I := fun i q => tfr S q ∧ q.1 1 2 = nI i ∧ q.1 1 3 = nI s ∧ q.1 1 5 = nI (numC t s (i - s)) ∧ s ≤ i) (fun n i q hi ⟨i1, i2, i3, i5, i4⟩ => by
    have hq := ht.fr i1
    have hlt : i < t.1 := by omega
    obtain ⟨hb, hb2⟩ := hq.2.2 i hlt
    have hl := dg i i4 hi
    rw [jText_readNumber_h20, jText_readNumber_b20, hq.1, i2, if_neg (nI_ge hlt (by omega)), px_ld (by omega) (by omega), hb, isDigit_ok hb2, px_bd, decide_eq_true hl, bI_t, if_neg n10, i3, i2, nI_sub i4]
    unfold jText_readNumber_b83
    by_cases c : 2 ≤ i - s
    · rw [if_pos (show 2 ≤ nI (i - s) from (nI_le c (by omega) : nI 2 ≤ nI (i - s))), px_lt]
      refine ⟨_, rfl, i1.up (by omega), ?_, (upI_off (by omega)).trans i3, ?_, by omega⟩
      · rw [upI_hit, i2, z1, nI_add]
      · rw [upI_off (by omega), i5]
        obtain ⟨k, hk⟩ : ∃ k, i - s = k + 2 := ⟨i - s - 2, by omega⟩
        rw [show i + 1 - s = (k + 1) + 2 by omega, hk]
        rfl
    · rw [if_neg (show ¬ 2 ≤ nI (i - s) from (nI_ge (by omega) (by omega) : ¬ nI 2 ≤ nI (i - s))), px_ld (by omega) (by omega), hb, px_lt, px_lt]
      refine ⟨_, rfl, (i1.up (by omega)).up (by omega), ?_, ?_, ?_, by omega⟩
      · rw [upI_hit, upI_off (by omega), i2, z1, nI_add]
      · rw [upI_off (by omega), upI_off (by omega)]
        exact i3
      · rw [upI_off (by omega), upI_hit, i5, z10, nI_mul, nI_add, show (48 : Int32) = nI 48 from rfl]
        rcases (by omega : i - s = 0 ∨ i - s = 1) with c2 | c2
        · rw [c2, show i + 1 - s = 1 by omega, show numC t s 0 = 0 from rfl, nI_sub (by omega)]
          have : i = s := by omega
          subst this
          exact congrArg nI (by show 0 * 10 + t.2 i - 48 = t.2 i - 48; omega)
        · rw [c2, show i + 1 - s = 2 by omega, nI_sub (by have := dg s (Nat.le_refl _) hse; omega)]
          have : i = s + 1 := by omega
          subst this
          exact congrArg nI (by show (t.2 s - 48) * 10 + t.2 (s + 1) - 48 = 10 * (t.2 s - 48) + (t.2 (s + 1) - 48); omega)) (i := s) (s := S) w1 ⟨tfr.rf S, h2, h3, by rw [Nat.sub_self]; exact h5, Nat.le_refl _⟩ (n := FU) (Nat.lt_of_le_of_lt (Nat.le_trans (Nat.sub_le _ _) (Nat.le_trans w2 h300)) (by decide))
  obtain ⟨a5, -⟩ := a5
  have hq := ht.fr f1
  have e1 : jText_readNumber_h20 FU z S = jText_readNumber_h20 (m' + 1) z S1 := e1
  rw [e1, jText_readNumber_h20, jText_readNumber_b20]
  have fin : jText_readNumber_b96 z S1 = some (nI (if e - s = 1 ∨ (e - s = 2 ∧ t.2 s ≠ 48) then 2 else 1), S1) := by
    unfold jText_readNumber_b96
    rw [px_lt, a2, a3, nI_sub w1]
    by_cases c2 : 2 < e - s
    · rw [if_pos (show 2 < nI (e - s) from (nI_lt c2 (by omega) : nI 2 < nI (e - s))), if_neg (by omega)]
      rfl
    · rw [if_neg (show ¬ 2 < nI (e - s) from (nI_nlt (by omega) (by omega) : ¬ nI 2 < nI (e - s)))]
      by_cases c1 : e - s ≤ 1
      · rw [if_pos (show nI (e - s) ≤ 1 from (nI_le c1 (by omega) : nI (e - s) ≤ nI 1)), if_pos (Or.inl (by omega))]
        rfl
      · rw [if_neg (show ¬ nI (e - s) ≤ 1 from (nI_ge (by omega) (by omega) : ¬ nI (e - s) ≤ nI 1)), hz]
        by_cases c0 : t.2 s = 48
        · rw [if_pos c0, if_neg n10, if_neg (by omega)]
          rfl
        · rw [if_neg c0, if_pos rfl, if_pos (Or.inr ⟨by omega, c0⟩)]
          rfl
  refine ⟨S1, ?_, f1, a2, a3, fun hk => ?_⟩
  · by_cases c : t.1 ≤ e
    · rw [hq.1, a2, if_pos (nI_le c (by omega))]
      exact fin
    · have hlt : e < t.1 := by omega
      obtain ⟨hb, hb2⟩ := hq.2.2 e hlt
      rw [hq.1, a2, if_neg (nI_ge hlt (by omega)), px_ld (by omega) (by omega), hb, isDigit_ok hb2, px_bd, decide_eq_false (fun z => by
        have : pDg t e = true := decide_eq_true ⟨hlt, z⟩
        rw [this] at w4
        cases w4), bI_f, if_pos rfl]
      exact fin
  · rw [a5]
    by_cases c1 : e - s = 1
    · rw [if_pos c1, c1]
      rfl
    · rw [if_neg c1]
      split at hk
      · rename_i y
        have : e - s = 2 := by omega
        rw [this]
        rfl
      · omega
theorem step_ok {t : Tx} {S : St} (ht : CT t S) {a : Nat} (ha : a ≤ t.1) (h2 : S.1 1 2 = nI a) : ∃ S', jText_step S = some S' ∧ tfr S S' ∧ S'.1 1 2 = nI (tkN t a) ∧ S'.1 1 3 = nI (tkS t a) ∧ S'.1 1 4 = nI (tkK t a) ∧ (tkK t a = 2 → S'.1 1 5 = nI (tkV t a)) := by
  obtain ⟨w1, w2, w3, w4⟩ := span_ok (pSp_lt (t := t)) (n := t.1) ha (Nat.sub_le _ _)
  have h300 := ht.2.1
  unfold jText_step
  obtain ⟨m', S1, e1, f1, a2, -⟩ := for_go (F := fun n i (q : St) => jText_step_h0 n q) (N := tkS t a) (I := fun i q => tfr S q ∧ q.1 1 2 = nI i ∧ a ≤ i) (fun n i q hi ⟨i1, i2, i4⟩ => by
    have hq := ht.fr i1
    have hsp := of_decide_eq_true (w3 i i4 hi)
    have hlt : i < t.1 := hsp.1
    obtain ⟨hb, hb2⟩ := hq.2.2 i hlt
    rw [jText_step_h0, jText_step_b0, hq.1, i2, if_neg (nI_ge hlt (by omega)), px_ld (by omega) (by omega), hb, if_pos (show nI (t.2 i) = 32 by rw [hsp.2]; rfl), px_lt]
    refine ⟨_, rfl, i1.up (by omega), ?_, by omega⟩
    rw [upI_hit, z1, nI_add]) (i := a) (s := S) w1 ⟨tfr.rf S, h2, Nat.le_refl _⟩ (n := FU) (Nat.lt_of_le_of_lt (Nat.le_trans (Nat.sub_le _ _) (Nat.le_trans w2 h300)) (by decide))
  have e1 : jText_step_h0 FU S = jText_step_h0 (m' + 1) S1 := e1
  have hq := ht.fr f1
  have w2 : tkS t a ≤ t.1 := w2
  have w4 : pSp t (tkS t a) = false := w4
  rw [e1, jText_step_h0, jText_step_b0]
  unfold tkK tkV tkN
  obtain ⟨s, hs⟩ : ∃ s, s = tkS t a := ⟨_, rfl⟩
  rw [← hs] at a2 w2 w4 ⊢
  have fin : ∃ S', jText_step_b38 S1 = some S' ∧ tfr S S' ∧ S'.1 1 2 = nI (tkAt t s).2.2 ∧ S'.1 1 3 = nI s ∧ S'.1 1 4 = nI (tkAt t s).1 ∧ ((tkAt t s).1 = 2 → S'.1 1 5 = nI (tkAt t s).2.1) := by
    unfold jText_step_b38
    rw [px_lt, px_lt, a2]
    obtain ⟨S2, hS2⟩ : ∃ S2, S2 = upI (upI S1 1 3 (nI s)) 1 5 0 := ⟨_, rfl⟩
    have f2 : tfr S1 S2 := by rw [hS2]; exact ((tfr.rf S1).up (by omega)).up (by omega)
    have b2 : S2.1 1 2 = nI s := by rw [hS2, upI_off (by omega), upI_off (by omega)]; exact a2
    have b3 : S2.1 1 3 = nI s := by rw [hS2, upI_off (by omega), upI_hit]
    have b5 : S2.1 1 5 = 0 := by rw [hS2, upI_hit]
    rw [← hS2]
    have ht2 := hq.fr f2
    have f12 := f1.tr f2
    rw [b2, ht2.1]
    by_cases c : t.1 ≤ s
    · have etk : tkAt t s = (0, 0, s) := if_pos c
      rw [if_neg (nI_nlt c (by omega)), px_lt, etk]
      exact ⟨_, rfl, f12.up (by omega), (upI_off (by omega)).trans b2, (upI_off (by omega)).trans b3, upI_hit, fun z => by cases z⟩
    · have hlt : s < t.1 := by omega
      obtain ⟨hb, hb2⟩ := ht2.2.2 s hlt
      rw [if_pos (nI_lt hlt (by omega)), px_ld (by omega) (by omega), hb, isDigit_ok hb2, px_bd]
      by_cases cd : 48 ≤ t.2 s ∧ t.2 s ≤ 57
      · have hd : pDg t s = true := decide_eq_true ⟨hlt, cd⟩
        obtain ⟨S3, e3, f3, c2, c3, c5⟩ := readNumber_ok ht2 hd b2 b3 b5
        rw [decide_eq_true cd, bI_t, if_neg n10, e3, px_bd, px_lt]
        exact ⟨_, rfl, (f12.tr f3).up (by omega), (upI_off (by omega)).trans c2, (upI_off (by omega)).trans c3, upI_hit, fun z => (upI_off (by omega)).trans (c5 z)⟩
      · have hd : ¬ pDg t s = true := fun z => cd (of_decide_eq_true z).2
        rw [decide_eq_false cd, bI_f, if_pos rfl, b2, px_ld (by omega) (by omega), hb, isLetter_ok hb2, px_bd]
        by_cases cl : 97 ≤ t.2 s ∧ t.2 s ≤ 122
        · have hl : pLt t s = true := decide_eq_true ⟨hlt, cl⟩
          have etk : tkAt t s = (nameK t s (spanN (pLt t) t.1 s), 0, spanN (pLt t) t.1 s) := by
            unfold tkAt
            rw [if_neg c, if_neg hd, if_pos hl]
          obtain ⟨S3, e3, f3, c2, c3⟩ := readName_ok ht2 w2 b2 b3
          rw [decide_eq_true cl, bI_t, if_neg n10, e3, px_bd, px_lt, etk]
          refine ⟨_, rfl, (f12.tr f3).up (by omega), (upI_off (by omega)).trans c2, (upI_off (by omega)).trans c3, upI_hit, fun z => ?_⟩
          exfalso
          unfold nameK at z
          dsimp only at z
          split at z
          · omega
          · split at z
            · omega
            · split at z <;> omega
        · have hl : ¬ pLt t s = true := fun z => cl (of_decide_eq_true z).2
          have etk : tkAt t s = (if t.2 s = 59 then 3 else 1, 0, s + 1) := by
            unfold tkAt
            rw [if_neg c, if_neg hd, if_neg hl]
          rw [decide_eq_false cl, bI_f, if_pos rfl, b2, px_ld (by omega) (by omega), hb, etk]
          unfold jText_step_b142
          dsimp only
          by_cases c59 : t.2 s = 59
          · rw [if_pos (show nI (t.2 s) = 59 by rw [c59]; rfl), if_pos c59, px_lt, px_lt]
            refine ⟨_, rfl, (f12.up (by omega)).up (by omega), ?_, ?_, ?_, fun z => by cases z⟩
            · rw [upI_hit, upI_off (by omega), b2, z1, nI_add]
            · rw [upI_off (by omega), upI_off (by omega)]; exact b3
            · rw [upI_off (by omega), upI_hit]; rfl
          · rw [if_neg (show ¬ nI (t.2 s) = 59 from fun z => c59 ((nI_eq (b := 59) (by omega) (by omega)).mp z)), if_neg c59, px_lt, px_lt]
            refine ⟨_, rfl, (f12.up (by omega)).up (by omega), ?_, ?_, ?_, fun z => by cases z⟩
            · rw [upI_hit, upI_off (by omega), b2, z1, nI_add]
            · rw [upI_off (by omega), upI_off (by omega)]; exact b3
            · rw [upI_off (by omega), upI_hit]; rfl
  by_cases c : t.1 ≤ s
  · rw [hq.1, a2, if_pos (nI_le c (by omega))]
    exact fin
  · have hlt : s < t.1 := by omega
    obtain ⟨hb, hb2⟩ := hq.2.2 s hlt
    rw [hq.1, a2, if_neg (nI_ge hlt (by omega)), px_ld (by omega) (by omega), hb, if_neg (show ¬ nI (t.2 s) = 32 from fun z => by
      have : t.2 s = 32 := (nI_eq (b := 32) (by omega) (by omega)).mp z
      have : pSp t s = true := decide_eq_true ⟨hlt, this⟩
      rw [this] at w4
      cases w4)]
    exact fin
