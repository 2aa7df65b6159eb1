/-! code: sets of dishes that tell words apart -/
/-- what is said by the dishes of e below i: none where one cannot be told from another -/
def sdN (N : Mn) (x m e : Nat) : Nat → Option Nat
  | 0 => some 0
  | i + 1 => match sdN N x m e i with
    | none => none
    | some w => if e.testBit i = true then
        (if x.testBit (N.wd i) = true ∧ w.testBit (N.wd i) = false ∧ ∀ d, d < i → e.testBit d = true → m ≤ pop (N.sm d ^^^ N.sm i) then some (w ||| 2 ^ N.wd i) else none)
        else some w
theorem sdN_none {N : Mn} {x m e i : Nat} (h : sdN N x m e i = none) : ∀ {n : Nat}, i ≤ n → sdN N x m e n = none := by
  intro n hn
  induction n with
  | zero => rw [← Nat.le_zero.mp hn]; exact h
  | succ n ih =>
    rcases Nat.lt_or_ge i (n + 1) with q | q
    · simp only [sdN]
      rw [ih (by omega)]
    · rw [← Nat.le_antisymm hn q]; exact h
theorem popN_or {w j : Nat} (hj : w.testBit j = false) : ∀ {k : Nat}, popN (w ||| 2 ^ j) k = popN w k + (if j < k then 1 else 0)
  | 0 => by simp [popN]
  | k + 1 => by
    have ih := popN_or hj (k := k)
    simp only [popN]
    rw [ih, Nat.testBit_or, Nat.testBit_two_pow]
    by_cases c : j = k
    · subst c
      simp [hj]
    · have : (j < k + 1) ↔ j < k := by omega
      simp [c, this]
      omega
theorem sdN_ok {N : Mn} (hw : WMn N) {x m e : Nat} : ∀ {i w : Nat}, i ≤ N.nd → sdN N x m e i = some w → (w < 256 ∧ (∀ j, w.testBit j = true → x.testBit j = true) ∧ pop w = popN e i)
  | 0, w, _, h => by
    cases h
    exact ⟨by decide, fun j h => by simp at h, rfl⟩
  | i + 1, w, hi, h => by
    simp only [sdN] at h
    cases q : sdN N x m e i with
    | none => rw [q] at h; cases h
    | some v =>
      rw [q] at h
      obtain ⟨h1, h2, h3⟩ := sdN_ok hw (by omega) q
      have hwd := (hw.2 i (by omega)).2.2
      simp only [popN]
      by_cases c : e.testBit i = true
      · simp only [c, if_true] at h
        split at h
        · rename_i c2
          cases h
          refine ⟨Nat.or_lt_two_pow (n := 8) h1 (Nat.pow_lt_pow_right (by decide) hwd), fun j hj => ?_, ?_⟩
          · rw [Nat.testBit_or, Nat.testBit_two_pow] at hj
            by_cases c3 : N.wd i = j
            · rw [← c3]; exact c2.1
            · simp [c3] at hj
              exact h2 j hj
          · show popN _ 8 = _
            rw [popN_or c2.2.1, show popN v 8 = popN e i from h3, if_pos hwd, if_pos c]
        · cases h
      · dsimp only at h
        rw [if_neg c] at h
        cases h
        rw [if_neg c]
        exact ⟨h1, h2, h3⟩
theorem sub_le {a b : Nat} (h : ∀ j, a.testBit j = true → b.testBit j = true) : ∀ {k : Nat}, popN a k ≤ popN b k ∧ (popN a k = popN b k → ∀ j, j < k → b.testBit j = true → a.testBit j = true)
  | 0 => ⟨Nat.le_refl _, fun _ j hj => by omega⟩
  | k + 1 => by
    obtain ⟨i1, i2⟩ := sub_le h (k := k)
    simp only [popN]
    by_cases c : a.testBit k = true
    · rw [if_pos c, if_pos (h k c)]
      refine ⟨by omega, fun e j hj hb => ?_⟩
      rcases Nat.lt_succ_iff_lt_or_eq.mp hj with q | q
      · exact i2 (by omega) j q hb
      · rw [q]; exact c
    · rw [if_neg c]
      by_cases c2 : b.testBit k = true
      · rw [if_pos c2]
        exact ⟨by omega, fun e => by omega⟩
      · rw [if_neg c2]
        refine ⟨by omega, fun e j hj hb => ?_⟩
        rcases Nat.lt_succ_iff_lt_or_eq.mp hj with q | q
        · exact i2 (by omega) j q hb
        · exact absurd (q ▸ hb) c2
theorem bit_hi {a j : Nat} (ha : a < 256) (hj : ¬ j < 8) : a.testBit j = false := Nat.testBit_lt_two_pow (Nat.lt_of_lt_of_le ha (show 2 ^ 8 ≤ 2 ^ j from Nat.pow_le_pow_right (by decide) (by omega)))
theorem sub_eq {a b : Nat} (ha : a < 256) (hb : b < 256) (h : ∀ j, a.testBit j = true → b.testBit j = true) (e : pop a = pop b) : a = b := by
  apply Nat.eq_of_testBit_eq
  intro j
  by_cases hj : j < 8
  · by_cases c : b.testBit j = true
    · rw [c]; exact (sub_le h (k := 8)).2 e j hj c
    · by_cases c2 : a.testBit j = true
      · exact absurd (h j c2) c
      · rw [show a.testBit j = false by simpa using c2, show b.testBit j = false by simpa using c]
  · rw [bit_hi ha hj, bit_hi hb hj]
theorem popN_hi {e n : Nat} (he : e < 2 ^ n) : ∀ {k : Nat}, n ≤ k → popN e k = popN e n := by
  intro k hk
  induction k with
  | zero => rw [Nat.le_zero.mp hk]
  | succ k ih =>
    rcases Nat.lt_or_ge n (k + 1) with q | q
    · simp only [popN]
      rw [ih (by omega), Nat.testBit_lt_two_pow (Nat.lt_of_lt_of_le he (Nat.pow_le_pow_right (by decide) (by omega))), if_neg (by decide)]
      rfl
    · rw [Nat.le_antisymm hk q]
/-- the words but one -/
def remB (r w : Nat) : Nat := r ^^^ (r &&& 2 ^ w)
theorem rem_all : ∀ r, r < 256 → ∀ w, w < 8 → nI r &&& ((1 <<< (nI w &&& 31)) ^^^ (-1)) = nI (remB r w) ∧ remB r w < 256 := by decide +kernel
theorem rem_bit {r w j : Nat} : (remB r w).testBit j = (r.testBit j && !decide (w = j)) := by
  unfold remB
  rw [Nat.testBit_xor, Nat.testBit_and, Nat.testBit_two_pow]
  cases r.testBit j <;> simp
theorem standsOff_ok {N : Mn} {S : St} (hm : CMn 14 N S) (hw : WMn N) {e i m : Nat} (hi : i < N.nd) (hmm : m < 100) : jMenu_standsOff (nI e) (nI i) (nI m) S = some (bI (decide (∀ d, d < i → e.testBit d = true → m ≤ pop (N.sm d ^^^ N.sm i))), S) := by
  have h8 := hw.1
  have e2 : ∀ j, j < N.nd → S.1 17 j = nI (N.sm j) := fun j hj => (hm.2 j hj).2.2.1
  refine ex_eq.mp (for_up (F := fun n j (q : St) => jMenu_standsOff_h3 n (nI e) (nI i) (nI m) (nI j) q) (N := i) (I := fun j q => q = S ∧ ∀ d, d < j → e.testBit d = true → m ≤ pop (N.sm d ^^^ N.sm i)) _ ?_ ?_ (i := 0) (s := S) (Nat.zero_le _) ⟨rfl, fun d hd => by omega⟩ (n := FU) (Nat.lt_of_le_of_lt (Nat.sub_le _ _) (Nat.lt_trans hi (Nat.lt_of_le_of_lt h8 (by decide)))))
  · intro n j q hj ⟨hq, hI⟩
    subst hq
    rw [jMenu_standsOff_h3, jMenu_standsOff_b3, if_neg (nI_ge hj (by omega)), holds_ok (by omega), px_bd]
    by_cases c : e.testBit j = true
    · have b1 := (hw.2 i hi).2.1
      have b2 := (hw.2 j (by omega)).2.1
      have b3 : N.sm j ^^^ N.sm i < 256 := Nat.lt_of_lt_of_le (Nat.xor_lt_two_pow (n := 3) b2 b1) (by decide)
      have b4 : pop (N.sm j ^^^ N.sm i) ≤ 8 := popN_le 8
      rw [c, bI_t, if_neg n10, px_ld (by omega) (by omega), e2 j (by omega), px_ld (by omega) (by omega), e2 i hi, nI_xor, bitCount_ok b3, px_bd]
      by_cases c2 : m ≤ pop (N.sm j ^^^ N.sm i)
      · right
        rw [if_pos (nI_le c2 (by omega)), z1, nI_add]
        refine ⟨q, rfl, rfl, fun d hd he => ?_⟩
        rcases Nat.lt_succ_iff_lt_or_eq.mp hd with r | r
        · exact hI d r he
        · rw [r]; exact c2
      · left
        rw [if_neg (nI_ge (by omega) (by omega)), px_n0]
        refine ⟨_, rfl, ?_⟩
        rw [decide_eq_false (fun z => c2 (z j hj c)), bI_f]
    · right
      rw [show e.testBit j = false by simpa using c, bI_f, if_pos rfl, z1, nI_add]
      refine ⟨q, rfl, rfl, fun d hd he => ?_⟩
      rcases Nat.lt_succ_iff_lt_or_eq.mp hd with r | r
      · exact hI d r he
      · exact absurd (r ▸ he) c
  · intro n q ⟨hq, hI⟩
    subst hq
    rw [jMenu_standsOff_h3, jMenu_standsOff_b3, if_pos (nI_le (Nat.le_refl _) (by omega)), px_n1]
    exact ⟨_, rfl, by rw [decide_eq_true hI, bI_t]⟩
theorem tellsApart_ok {N : Mn} {S : St} (hm : CMn 14 N S) (hw : WMn N) {e x m : Nat} (hx : x < 256) (hmm : m < 100) : jMenu_tellsApart (nI e) (nI x) (nI m) S = some (bI (sdN N x m e N.nd).isSome, S) := by
  have h8 := hw.1
  have e3 : ∀ j, j < N.nd → S.1 18 j = nI (N.wd j) := fun j hj => (hm.2 j hj).2.2.2
  refine ex_eq.mp (for_up (F := fun n j (q : Nat × St) => jMenu_tellsApart_h6 n (nI e) (nI m) (nI q.1) (nI j) q.2) (N := N.nd) (I := fun j q => q.2 = S ∧ q.1 < 256 ∧ ∃ w, sdN N x m e j = some w ∧ ∀ b, q.1.testBit b = (x.testBit b && !w.testBit b)) _ ?_ ?_ (i := 0) (s := (x, S)) (Nat.zero_le _) ⟨rfl, hx, 0, rfl, fun b => by simp⟩ (n := FU) (Nat.lt_of_le_of_lt (Nat.le_trans (Nat.sub_le _ _) h8) (by decide)))
  · intro n i ⟨r, q⟩ hi ⟨hq, hr, w, h1, h2⟩
    have hq : q = S := hq
    have hr : r < 256 := hr
    have h2 : ∀ b, r.testBit b = (x.testBit b && !w.testBit b) := h2
    subst hq
    have b := (hw.2 i hi).2.2
    show (∃ z, jMenu_tellsApart_h6 (n + 1) (nI e) (nI m) (nI r) (nI i) q = some z ∧ _) ∨ ∃ s', jMenu_tellsApart_h6 (n + 1) (nI e) (nI m) (nI r) (nI i) q = _ ∧ _
    rw [jMenu_tellsApart_h6, jMenu_tellsApart_b6, hm.1, if_neg (nI_ge hi (by omega)), holds_ok (by omega), px_bd]
    have hs : sdN N x m e (i + 1) = if e.testBit i = true then
        (if x.testBit (N.wd i) = true ∧ w.testBit (N.wd i) = false ∧ ∀ d, d < i → e.testBit d = true → m ≤ pop (N.sm d ^^^ N.sm i) then some (w ||| 2 ^ N.wd i) else none)
        else some w := by
      simp only [sdN]
      rw [h1]
    by_cases c : e.testBit i = true
    · rw [if_pos c] at hs
      rw [c, bI_t, if_neg n10, px_ld (by omega) (by omega), e3 i hi, holds_ok (by omega), px_bd, h2]
      by_cases c1 : (x.testBit (N.wd i) && !w.testBit (N.wd i)) = true
      · rw [c1, bI_t, if_neg n10, standsOff_ok hm hw hi hmm, px_bd]
        by_cases c2 : ∀ d, d < i → e.testBit d = true → m ≤ pop (N.sm d ^^^ N.sm i)
        · right
          rw [decide_eq_true c2, bI_t, if_neg n10, px_ld (by omega) (by omega), e3 i hi, px_lt, (rem_all r hr _ b).1, z1, nI_add]
          refine ⟨(remB r (N.wd i), q), rfl, rfl, (rem_all r hr _ b).2, w ||| 2 ^ N.wd i, ?_, fun j => ?_⟩
          · rw [hs, if_pos ⟨by simp at c1; exact c1.1, by simp at c1; exact c1.2, c2⟩]
          · show (remB r (N.wd i)).testBit j = _
            rw [rem_bit, h2, Nat.testBit_or, Nat.testBit_two_pow]
            cases x.testBit j <;> cases w.testBit j <;> simp
        · left
          rw [decide_eq_false c2, bI_f, if_pos rfl, px_n0]
          refine ⟨_, rfl, ?_⟩
          rw [if_neg (fun z => c2 z.2.2)] at hs
          rw [sdN_none hs hi]
          rfl
      · left
        rw [show (x.testBit (N.wd i) && !w.testBit (N.wd i)) = false by simpa using c1, bI_f, if_pos rfl, px_n0]
        refine ⟨_, rfl, ?_⟩
        rw [if_neg (fun z => c1 (by simp [z.1, z.2.1]))] at hs
        rw [sdN_none hs hi]
        rfl
    · right
      rw [show e.testBit i = false by simpa using c, bI_f, if_pos rfl, z1, nI_add]
      rw [if_neg c] at hs
      exact ⟨(r, q), rfl, rfl, hr, w, hs, h2⟩
  · intro n ⟨r, q⟩ ⟨hq, hr, w, h1, h2⟩
    have hq : q = S := hq
    subst hq
    show ∃ z, jMenu_tellsApart_h6 (n + 1) (nI e) (nI m) (nI r) (nI N.nd) q = some z ∧ _
    rw [jMenu_tellsApart_h6, jMenu_tellsApart_b6, hm.1, if_pos (nI_le (Nat.le_refl _) (by omega)), px_n1, h1]
    exact ⟨_, rfl, rfl⟩
theorem saidBy_ok {N : Mn} {M : St} (hd : M.1 4 0 = nI N.nd) (hm : MMn 0 N M) (hw : WMn N) {e x m : Nat} (hmm : m < 100) : jMod_saidBy (nI e) (nI x) (nI m) M = some (oI (-9) (sdN N x m e N.nd), M) := by
  have h8 := hw.1
  have e2 : ∀ j, j < N.nd → M.1 6 j = nI (N.sm j) := fun j hj => by have := (hm j hj).2.1; rwa [Nat.zero_add] at this
  have e3 : ∀ j, j < N.nd → M.1 7 j = nI (N.wd j) := fun j hj => by have := (hm j hj).2.2; rwa [Nat.zero_add] at this
  refine ex_eq.mp (for_up (F := fun n j (q : Nat × St) => jMod_saidBy_h6 n (nI e) (nI x) (nI m) (nI q.1) (nI j) q.2) (N := N.nd) (I := fun j q => q.2 = M ∧ sdN N x m e j = some q.1) _ ?_ ?_ (i := 0) (s := (0, M)) (Nat.zero_le _) ⟨rfl, rfl⟩ (n := FU) (Nat.lt_of_le_of_lt (Nat.le_trans (Nat.sub_le _ _) h8) (by decide)))
  · intro n i ⟨w, q⟩ hi ⟨hq, h1⟩
    have hq : q = M := hq
    have h1 : sdN N x m e i = some w := h1
    subst hq
    have b := (hw.2 i hi).2.2
    show (∃ z, jMod_saidBy_h6 (n + 1) (nI e) (nI x) (nI m) (nI w) (nI i) q = some z ∧ _) ∨ ∃ s', jMod_saidBy_h6 (n + 1) (nI e) (nI x) (nI m) (nI w) (nI i) q = _ ∧ _
    rw [jMod_saidBy_h6, jMod_saidBy_b6, show x_ld (q.1 4) 2 0 = x_ld (q.1 4) 2 (nI 0) from rfl, px_ld (by omega) (by omega), hd, if_neg (nI_ge hi (by omega)), bit_nI (by omega)]
    have hs : sdN N x m e (i + 1) = if e.testBit i = true then
        (if x.testBit (N.wd i) = true ∧ w.testBit (N.wd i) = false ∧ ∀ d, d < i → e.testBit d = true → m ≤ pop (N.sm d ^^^ N.sm i) then some (w ||| 2 ^ N.wd i) else none)
        else some w := by
      simp only [sdN]
      rw [h1]
    by_cases c : e.testBit i = true
    · rw [if_pos c] at hs
      rw [c, bI_t, if_pos rfl, px_ld (by omega) (by omega), e3 i hi, bit_nI (by omega)]
      by_cases c1 : x.testBit (N.wd i) = true
      · rw [c1, bI_t, if_neg n10, px_ld (by omega) (by omega), e3 i hi, bit_nI (by omega)]
        by_cases c2 : w.testBit (N.wd i) = true
        · left
          rw [c2, bI_t, if_pos rfl]
          refine ⟨_, rfl, ?_⟩
          rw [if_neg (fun z => by rw [c2] at z; exact absurd z.2.1 (by decide))] at hs
          rw [sdN_none hs hi]
          rfl
        · have c2' : w.testBit (N.wd i) = false := by simpa using c2
          rw [c2', bI_f, if_neg (by decide), px_ld (by omega) (by omega), e3 i hi, px_lt, shl_nI _ (by omega), nI_or]
          by_cases c3 : ∀ d, d < i → e.testBit d = true → m ≤ pop (N.sm d ^^^ N.sm i)
          · right
            rw [if_pos ⟨c1, c2', c3⟩] at hs
            obtain ⟨m', q', e1, e4⟩ := for_go (F := fun m' j (q : St) => jMod_saidBy_h77 (jMod_saidBy_h6 n) m' (nI e) (nI x) (nI m) (nI (w ||| 2 ^ N.wd i)) (nI i) (nI j) q) (N := i) (I := fun _ q' => q' = q) (fun m' j q' hj hq' => by
              subst hq'
              rw [jMod_saidBy_h77, jMod_saidBy_b77, if_neg (nI_ge hj (by omega)), bit_nI (by omega)]
              by_cases c4 : e.testBit j = true
              · have b1 := (hw.2 i hi).2.1
                have b2 := (hw.2 j (by omega)).2.1
                have b4 : pop (N.sm j ^^^ N.sm i) ≤ 8 := popN_le 8
                rw [c4, bI_t, if_pos rfl, px_ld (by omega) (by omega), e2 i hi, px_ld (by omega) (by omega), e2 j (by omega), nI_xor, Nat.xor_comm, bitsIn_ok, px_bd, if_pos (nI_le (c3 j hj c4) (by omega)), z1, nI_add]
                exact ⟨_, rfl, rfl⟩
              · rw [show e.testBit j = false by simpa using c4, bI_f, if_neg (by decide), z1, nI_add]
                exact ⟨_, rfl, rfl⟩) (i := 0) (s := q) (Nat.zero_le _) rfl (n := FU) (Nat.lt_of_le_of_lt (Nat.sub_le _ _) (Nat.lt_trans hi (Nat.lt_of_le_of_lt h8 (by decide))))
            subst e4
            refine ⟨(w ||| 2 ^ N.wd i, q'), ?_, rfl, hs⟩
            refine Eq.trans e1 ?_
            rw [jMod_saidBy_h77, jMod_saidBy_b77, if_pos (nI_le (Nat.le_refl _) (by omega)), z1, nI_add]
          · left
            rw [if_neg (fun z => c3 z.2.2)] at hs
            rw [sdN_none hs hi]
            refine for_up (F := fun m' j (q : St) => jMod_saidBy_h77 (jMod_saidBy_h6 n) m' (nI e) (nI x) (nI m) (nI (w ||| 2 ^ N.wd i)) (nI i) (nI j) q) (N := i) (I := fun j q' => q' = q ∧ ∀ d, d < j → e.testBit d = true → m ≤ pop (N.sm d ^^^ N.sm i)) _ ?_ ?_ (i := 0) (s := q) (Nat.zero_le _) ⟨rfl, fun d hd => by omega⟩ (n := FU) (Nat.lt_of_le_of_lt (Nat.sub_le _ _) (Nat.lt_trans hi (Nat.lt_of_le_of_lt h8 (by decide))))
            · intro m' j q' hj ⟨hq', hI⟩
              subst hq'
              rw [jMod_saidBy_h77, jMod_saidBy_b77, if_neg (nI_ge hj (by omega)), bit_nI (by omega)]
              by_cases c4 : e.testBit j = true
              · have b1 := (hw.2 i hi).2.1
                have b2 := (hw.2 j (by omega)).2.1
                have b4 : pop (N.sm j ^^^ N.sm i) ≤ 8 := popN_le 8
                rw [c4, bI_t, if_pos rfl, px_ld (by omega) (by omega), e2 i hi, px_ld (by omega) (by omega), e2 j (by omega), nI_xor, Nat.xor_comm, bitsIn_ok, px_bd]
                by_cases c5 : m ≤ pop (N.sm j ^^^ N.sm i)
                · right
                  rw [if_pos (nI_le c5 (by omega)), z1, nI_add]
                  refine ⟨q', rfl, rfl, fun d hd he => ?_⟩
                  rcases Nat.lt_succ_iff_lt_or_eq.mp hd with r | r
                  · exact hI d r he
                  · rw [r]; exact c5
                · left
                  rw [if_neg (nI_ge (by omega) (by omega))]
                  exact ⟨_, rfl, rfl⟩
              · right
                rw [show e.testBit j = false by simpa using c4, bI_f, if_neg (by decide), z1, nI_add]
                refine ⟨q', rfl, rfl, fun d hd he => ?_⟩
                rcases Nat.lt_succ_iff_lt_or_eq.mp hd with r | r
                · exact hI d r he
                · exact absurd (r ▸ he) c4
            · intro m' q' ⟨hq', hI⟩
              exact absurd hI c3
      · left
        rw [show x.testBit (N.wd i) = false by simpa using c1, bI_f, if_pos rfl]
        refine ⟨_, rfl, ?_⟩
        rw [if_neg (fun z => c1 z.1)] at hs
        rw [sdN_none hs hi]
        rfl
    · right
      rw [show e.testBit i = false by simpa using c, bI_f, if_neg (by decide), z1, nI_add]
      rw [if_neg c] at hs
      exact ⟨(w, q), rfl, rfl, hs⟩
  · intro n ⟨w, q⟩ ⟨hq, h1⟩
    have hq : q = M := hq
    have h1 : sdN N x m e N.nd = some w := h1
    subst hq
    show ∃ z, jMod_saidBy_h6 (n + 1) (nI e) (nI x) (nI m) (nI w) (nI N.nd) q = some z ∧ _
    rw [jMod_saidBy_h6, jMod_saidBy_b6, show x_ld (q.1 4) 2 0 = x_ld (q.1 4) 2 (nI 0) from rfl, px_ld (by omega) (by omega), hd, if_pos (nI_le (Nat.le_refl _) (by omega)), h1]
    exact ⟨_, rfl, rfl⟩
