/-! valley in the class -/
theorem draft_ok {D : Df} {S : St} (hD : CD D S) (hw : WD D) {kind : Nat} {f : Nat → Nat} (hm : mayK D kind = true) (h13 : ∀ k, k < cntK kind → S.1 13 k = nI (f k)) : ∃ S', jTelling_draft (nI kind) S = some S' ∧ (∀ r, (r < 3 ∨ 13 ≤ r) → S'.1 r = S.1 r) ∧ S'.2 = S.2 ∧ CD (putD D kind f) S' := by
  obtain ⟨q1, q2, q3, q4, q5, q6⟩ := hD
  have h6 := hw.1
  have h8 := hw.2.1.1
  unfold mayK at hm
  unfold jTelling_draft putD
  rcases of_decide_eq_true hm with ⟨rfl, m⟩ | ⟨rfl, m⟩ | ⟨rfl, m⟩
  · rw [if_pos (by decide), if_pos rfl]
    unfold jSuppers_settle
    rw [q1, if_neg (show ¬ 6 ≤ nI D.nh from (nI_ge m (by omega) : ¬ nI 6 ≤ nI D.nh)), if_pos (by decide)]
    obtain ⟨m', S1, e1, i1, i2, i3, i4⟩ := for_go (F := fun n i (q : St) => jSuppers_settle_h18 n (nI i) q) (N := 5) (I := fun i q => (∀ r, r ≠ 10 → q.1 r = S.1 r) ∧ q.2 = S.2 ∧ (∀ h, h < D.nh → ∀ k, k < 5 → q.1 10 (h * 5 + k) = nI (D.L h k)) ∧ ∀ k, k < i → q.1 10 (D.nh * 5 + k) = nI (f k)) (fun n i q hi ⟨i1, i2, i3, i4⟩ => by
      have e9 : q.1 9 3 = nI D.nh := by rw [i1 9 (by omega)]; exact q1
      rw [jSuppers_settle_h18, jSuppers_settle_b18, z5, if_neg (nI_ge hi (by decide)), px_ld (by omega) (by omega), i1 13 (by omega), h13 i hi, e9, nI_mul, nI_add, px_gd (by omega) (by omega), px_lt, nI_clamp (by omega), z1, nI_add]
      refine ⟨_, rfl, fun r hr => (upI_o r hr).trans (i1 r hr), i2, fun h hh k hk => ?_, fun k hk => ?_⟩
      · rw [upI_off (by omega)]
        exact i3 h hh k hk
      · rw [upI_at]
        by_cases c : k = i
        · rw [if_pos ⟨rfl, by rw [c]⟩, c]
        · rw [if_neg (fun z => c (by omega)), i4 k (by omega)]) (i := 0) (s := S) (Nat.zero_le _) ⟨fun _ _ => rfl, rfl, q5, fun k hk => by omega⟩ (n := FU) (by decide)
    have e1 : jSuppers_settle_h18 FU 0 S = jSuppers_settle_h18 (m' + 1) (nI 5) S1 := e1
    have e9 : S1.1 9 3 = nI D.nh := by rw [i1 9 (by omega)]; exact q1
    rw [e1, jSuppers_settle_h18, jSuppers_settle_b18, z5, if_pos (nI_le (Nat.le_refl _) (by decide)), px_lt, px_bv, e9, z1, nI_add]
    refine ⟨_, rfl, fun r hr => (upI_o r (by omega)).trans (i1 r (by omega)), i2, upI_hit, ?_, ?_, ?_, fun h hh k hk => ?_, ?_⟩
    · rw [upI_off (by omega), i1 9 (by omega)]; exact q2
    · rw [upI_off (by omega), i1 9 (by omega)]; exact q3
    · rw [upI_row (by omega), i1 3 (by omega)]; exact q4
    · rw [upI_row (by omega)]
      have hh : h < D.nh + 1 := hh
      by_cases c : h = D.nh
      · rw [c, i4 k hk]
        exact congrArg nI (if_pos rfl).symm
      · rw [i3 h (by omega) k hk]
        exact congrArg nI (if_neg c).symm
    · unfold CMn at *
      rw [upI_o 4 (by omega), upI_o (4 + 1) (by omega), upI_o (4 + 2) (by omega), upI_o (4 + 3) (by omega), upI_o (4 + 4) (by omega), i1 4 (by omega), i1 (4 + 1) (by omega), i1 (4 + 2) (by omega), i1 (4 + 3) (by omega), i1 (4 + 4) (by omega)]
      exact q6
  · rw [if_neg (by decide), if_pos (by decide), if_neg (by decide), if_pos rfl]
    unfold jMenu_list
    have e4 : S.1 4 4 = nI D.mn.nd := q6.1
    rw [e4, if_neg (show ¬ 8 ≤ nI D.mn.nd from (nI_ge m (by omega) : ¬ nI 8 ≤ nI D.mn.nd)), if_pos (by decide)]
    obtain ⟨m', S1, e1, i1, i2, i3, i4⟩ := for_go (F := fun n i (q : St) => jMenu_list_h21 n (nI (sumN f i)) (nI i) q) (N := 5) (I := fun i q => (∀ r, r ≠ 5 → q.1 r = S.1 r) ∧ q.2 = S.2 ∧ (∀ d, d < D.mn.nd → ∀ k, k < 5 → q.1 5 (d * 5 + k) = nI (D.mn.need d k)) ∧ ∀ k, k < i → q.1 5 (D.mn.nd * 5 + k) = nI (f k)) (fun n i q hi ⟨i1, i2, i3, i4⟩ => by
      have e9 : q.1 4 4 = nI D.mn.nd := by rw [i1 4 (by omega)]; exact e4
      have e13 : q.1 13 i = nI (f i) := by rw [i1 13 (by omega)]; exact h13 i (by show i < 7; omega)
      rw [jMenu_list_h21, jMenu_list_b21, z5, if_neg (nI_ge hi (by decide)), px_ld (by omega) (by omega), e13, e9, nI_mul, nI_add, px_gd (by omega) (by omega), px_lt, nI_clamp (by omega), px_ld (by omega) (by omega), upI_row (by omega), e13, px_lt, nI_add, z1, nI_add]
      refine ⟨_, rfl, fun r hr => (upI_o r hr).trans (i1 r hr), i2, fun d hd k hk => ?_, fun k hk => ?_⟩
      · rw [upI_off (by omega)]
        exact i3 d hd k hk
      · rw [upI_at]
        by_cases c : k = i
        · rw [if_pos ⟨rfl, by rw [c]⟩, c]
        · rw [if_neg (fun z => c (by omega)), i4 k (by omega)]) (i := 0) (s := S) (Nat.zero_le _) ⟨fun _ _ => rfl, rfl, fun d hd => (q6.2 d hd).1, fun k hk => by omega⟩ (n := FU) (by decide)
    have e1 : jMenu_list_h21 FU 0 0 S = jMenu_list_h21 (m' + 1) (nI (sumN f 5)) (nI 5) S1 := e1
    have e9 : S1.1 4 4 = nI D.mn.nd := by rw [i1 4 (by omega)]; exact e4
    have n5 : S1.1 13 5 = nI (f 5) := by rw [i1 13 (by omega)]; exact h13 5 (by decide)
    have n6 : S1.1 13 6 = nI (f 6) := by rw [i1 13 (by omega)]; exact h13 6 (by decide)
    obtain ⟨S2, hS2⟩ : ∃ S2, S2 = upI (upI (upI (upI S1 6 D.mn.nd (nI (sumN f 5))) 7 D.mn.nd (nI (f 5))) 8 D.mn.nd (nI (f 6))) 4 4 (nI (D.mn.nd + 1)) := ⟨_, rfl⟩
    have run : jMenu_list_h21 (m' + 1) (nI (sumN f 5)) (nI 5) S1 = some S2 := by
      rw [jMenu_list_h21, jMenu_list_b21, z5, if_pos (nI_le (Nat.le_refl _) (by decide)), e9, px_gd (by omega) (by omega), px_lt, nI_clamp (by omega), px_ld (by omega) (by omega)]
      obtain ⟨T1, hT1⟩ : ∃ T1, T1 = upI S1 6 D.mn.nd (nI (sumN f 5)) := ⟨_, rfl⟩
      rw [← hT1] at hS2 ⊢
      have a5 : T1.1 13 5 = nI (f 5) := by rw [hT1]; exact (upI_row (by omega)).trans n5
      have a6 : T1.1 13 6 = nI (f 6) := by rw [hT1]; exact (upI_row (by omega)).trans n6
      have a4 : T1.1 4 4 = nI D.mn.nd := by rw [hT1]; exact (upI_row (by omega)).trans e9
      rw [a5, a4, px_gd (by omega) (by omega), px_lt, nI_clamp (by omega), z6, px_ld (by omega) (by omega)]
      obtain ⟨T2, hT2⟩ : ∃ T2, T2 = upI T1 7 D.mn.nd (nI (f 5)) := ⟨_, rfl⟩
      rw [← hT2] at hS2 ⊢
      have b6 : T2.1 13 6 = nI (f 6) := by rw [hT2]; exact (upI_row (by omega)).trans a6
      have b4 : T2.1 4 4 = nI D.mn.nd := by rw [hT2]; exact (upI_row (by omega)).trans a4
      rw [b6, b4, px_gd (by omega) (by omega), px_lt, nI_clamp (by omega), px_lt, show (upI T2 8 D.mn.nd (nI (f 6))).1 4 4 = nI D.mn.nd from (upI_row (by omega)).trans b4, z1, nI_add, hS2]
    rw [e1, run, px_bv]
    have row : ∀ r, r ≠ 4 → r ≠ 5 → r ≠ 6 → r ≠ 7 → r ≠ 8 → S2.1 r = S.1 r := fun r a b c d e => by
      rw [hS2, upI_o r a, upI_o r e, upI_o r d, upI_o r c, i1 r b]
    refine ⟨S2, rfl, fun r hr => row r (by omega) (by omega) (by omega) (by omega) (by omega), by rw [hS2]; exact i2, ?_, ?_, ?_, ?_, fun h hh k hk => ?_, ?_⟩
    · rw [row 9 (by omega) (by omega) (by omega) (by omega) (by omega)]; exact q1
    · rw [row 9 (by omega) (by omega) (by omega) (by omega) (by omega)]; exact q2
    · rw [row 9 (by omega) (by omega) (by omega) (by omega) (by omega)]; exact q3
    · rw [row 3 (by omega) (by omega) (by omega) (by omega) (by omega)]; exact q4
    · rw [row 10 (by omega) (by omega) (by omega) (by omega) (by omega)]; exact q5 h hh k hk
    · refine ⟨by rw [hS2, upI_hit], fun d hd => ?_⟩
      have hd : d < D.mn.nd + 1 := hd
      have r5 : ∀ j, S2.1 5 j = S1.1 5 j := fun j => by rw [hS2, upI_row (by omega), upI_row (by omega), upI_row (by omega), upI_row (by omega)]
      have r6 : ∀ j, S2.1 6 j = if j = D.mn.nd then nI (sumN f 5) else S1.1 6 j := fun j => by
        rw [hS2, upI_row (by omega), upI_row (by omega), upI_row (by omega), upI_at]
        by_cases c : j = D.mn.nd
        · rw [if_pos ⟨rfl, c⟩, if_pos c]
        · rw [if_neg (fun z => c z.2), if_neg c]
      have r7 : ∀ j, S2.1 7 j = if j = D.mn.nd then nI (f 5) else S1.1 7 j := fun j => by
        rw [hS2, upI_row (by omega), upI_row (by omega), upI_at]
        by_cases c : j = D.mn.nd
        · rw [if_pos ⟨rfl, c⟩, if_pos c]
        · rw [if_neg (fun z => c z.2), if_neg c, upI_row (by omega)]
      have r8 : ∀ j, S2.1 8 j = if j = D.mn.nd then nI (f 6) else S1.1 8 j := fun j => by
        rw [hS2, upI_row (by omega), upI_at]
        by_cases c : j = D.mn.nd
        · rw [if_pos ⟨rfl, c⟩, if_pos c]
        · rw [if_neg (fun z => c z.2), if_neg c, upI_row (by omega), upI_row (by omega)]
      show (∀ k, k < 5 → S2.1 5 (d * 5 + k) = nI (if d = D.mn.nd then f k else D.mn.need d k)) ∧ S2.1 6 d = nI ((if d = D.mn.nd then f 0 else D.mn.need d 0) + (if d = D.mn.nd then f 1 else D.mn.need d 1) + (if d = D.mn.nd then f 2 else D.mn.need d 2) + (if d = D.mn.nd then f 3 else D.mn.need d 3) + (if d = D.mn.nd then f 4 else D.mn.need d 4)) ∧ S2.1 7 d = nI (if d = D.mn.nd then f 5 else D.mn.sm d) ∧ S2.1 8 d = nI (if d = D.mn.nd then f 6 else D.mn.wd d)
      by_cases c : d = D.mn.nd
      · subst c
        simp only [if_true]
        refine ⟨fun k hk => by rw [r5]; exact i4 k hk, ?_, ?_, ?_⟩
        · rw [r6, if_pos rfl]; simp [sumN]
        · rw [r7, if_pos rfl]
        · rw [r8, if_pos rfl]
      · obtain ⟨a1, a2, a3, a4⟩ := q6.2 d (by omega)
        simp only [if_neg c]
        refine ⟨fun k hk => by rw [r5]; exact i3 d (by omega) k hk, ?_, ?_, ?_⟩
        · rw [r6, if_neg c, i1 6 (by omega)]; exact a2
        · rw [r7, if_neg c, i1 7 (by omega)]; exact a3
        · rw [r8, if_neg c, i1 8 (by omega)]; exact a4
  · rw [if_neg (by decide), if_neg (by decide), if_neg (by decide), if_neg (by decide), z0, px_ld (by omega) (by omega), h13 0 (by decide), px_lt, px_lt]
    refine ⟨_, rfl, fun r hr => (upI_o r (by omega)).trans (upI_o r (by omega)), rfl, ?_, ?_, ?_, ?_, fun h hh k hk => ?_, ?_⟩
    · rw [upI_row (by omega), upI_off (by omega)]; exact q1
    · rw [upI_row (by omega), upI_off (by omega)]; exact q2
    · rw [upI_row (by omega), upI_hit]; rfl
    · rw [upI_hit]; rfl
    · rw [upI_row (by omega), upI_row (by omega)]; exact q5 h hh k hk
    · unfold CMn at *
      rw [upI_o 4 (by omega), upI_o (4 + 1) (by omega), upI_o (4 + 2) (by omega), upI_o (4 + 3) (by omega), upI_o (4 + 4) (by omega), upI_o 4 (by omega), upI_o (4 + 1) (by omega), upI_o (4 + 2) (by omega), upI_o (4 + 3) (by omega), upI_o (4 + 4) (by omega)]
      exact q6
theorem stepC {t : Tx} {S : St} (ht : CT t S) {a : Nat} (ha : a ≤ t.1) (hk : TkC t a S) : ∃ S', jText_step S = some S' ∧ tfr S S' ∧ TkC t (tkN t a) S' := by
  obtain ⟨S', e, f, g1, g2, g3, g4⟩ := step_ok ht (tk_le ha).2 hk.1
  exact ⟨S', e, f, g1, g2, g3, g4⟩
def itQ (t : Tx) (D : Df) (kind : Nat) (R : Sum Nat (Nat × (Nat → Nat))) (x : Int32) (S' : St) : Prop := match R with
  | .inl p => x = 0 ∧ S'.1 1 3 = nI p
  | .inr q => x = 1 ∧ TkC t (tkN t q.1) S' ∧ CD (putD D kind q.2) S'
def allQ (R : Sum Nat (Nat × Df)) (x : Int32) (S' : St) : Prop := match R with
  | .inl p => x = -1 ∧ S'.1 1 3 = nI p
  | .inr q => x = nI q.1 ∧ CD q.2 S'
theorem readItem_ok {t : Tx} {D : Df} {S : St} {a : Nat} (ht : CT t S) (ha : a ≤ t.1) (hk : TkC t a S) (hD : CD D S) (hw : WD D) : ∃ x S', jTelling_readItem S = some (x, S') ∧ vfr S S' ∧ itQ t D (tkK t a) (itemT t a D) x S' := by
  have hbb : ∀ j, j < t.1 → t.2 j < 256 := fun j hj => (ht.2.2 j hj).2
  have h300 := ht.2.1
  unfold jTelling_readItem itemT
  rw [px_lt, hk.2.2.1, may_ok hD hw kind_le, px_bd]
  by_cases cm : mayK D (tkK t a) = true
  · obtain ⟨S1, e1, f1, k1⟩ := stepC ht ha hk
    obtain ⟨en, cn⟩ := cnt_ok cm (S := S1)
    rw [cm, bI_t, if_neg n10, if_pos rfl, e1, px_bv, en, px_bd]
    obtain ⟨R, hR⟩ : ∃ R, R = numsT t (tkK t a) (cntK (tkK t a)) 0 (tkN t a) (fun _ => 0) := ⟨_, rfl⟩
    rw [← hR]
    have key := for_up (F := fun n i (q : St) => jTelling_readItem_h27 n (nI (tkK t a)) (nI (cntK (tkK t a))) (nI i) q) (N := cntK (tkK t a)) (I := fun i q => nfr S q ∧ ∃ b f, numsT t (tkK t a) (cntK (tkK t a) - i) i b f = R ∧ b ≤ t.1 ∧ TkC t b q ∧ ∀ k, k < i → q.1 13 k = nI (f k)) (fun r => vfr S r.2 ∧ itQ t D (tkK t a) R r.1 r.2) ?_ ?_ (i := 0) (s := S1) (Nat.zero_le _) ⟨f1.n, tkN t a, (fun _ => 0), by rw [hR, Nat.sub_zero], (tk_le ha).2, k1, fun k hk => by omega⟩ (n := FU) (Nat.lt_of_le_of_lt (Nat.le_trans (Nat.sub_le _ _) cn) (by decide))
    · obtain ⟨⟨x, S'⟩, e, v1, v2⟩ := key
      exact ⟨x, S', e, v1, v2⟩
    · intro n i q hi ⟨hs, b, f, hr, hb, hkb, h13⟩
      have htq := ht.v hs.v
      rw [jTelling_readItem_h27, jTelling_readItem_b27, if_neg (nI_ge hi (by omega)), hkb.2.2.1]
      rw [show cntK (tkK t a) - i = (cntK (tkK t a) - (i + 1)) + 1 by omega] at hr
      simp only [numsT] at hr
      by_cases c2 : tkK t b = 2
      · have hv := tkV_lt hbb c2
        rw [if_pos (show nI (tkK t b) = 2 by rw [c2]; rfl), most_ok cm hi, px_bd, hkb.2.2.2 c2]
        by_cases c3 : tkV t b ≤ mostK (tkK t a) i
        · right
          rw [if_pos ⟨c2, c3⟩] at hr
          have hmm : mostK (tkK t a) i ≤ 9 := by
            unfold mostK
            split
            · omega
            · split <;> omega
          rw [if_pos (nI_le c3 (by omega)), px_gd (by omega) (by omega), px_lt, nI_clamp (by omega)]
          have f2 : nfr q (upI q 13 i (nI (tkV t b))) := ⟨fun r h1 h2 => upI_o r h2, upI_row (by omega), rfl⟩
          have hs2 := hs.tr f2
          have ht2 := htq.v f2.v
          have hk2 : TkC t b (upI q 13 i (nI (tkV t b))) := by
            unfold TkC at *
            rw [upI_o 1 (by omega)]
            exact hkb
          obtain ⟨S3, e3, f3, k3⟩ := stepC ht2 hb hk2
          rw [e3, px_bv, z1, nI_add]
          refine ⟨S3, rfl, hs2.tr f3.n, _, _, hr, (tk_le hb).2, k3, fun k hk => ?_⟩
          rw [f3.1 13 (by omega), upI_at]
          by_cases c : k = i
          · rw [if_pos ⟨rfl, c⟩, if_pos c]
          · rw [if_neg (fun z => c z.2), if_neg c, h13 k (by omega)]
        · left
          rw [if_neg (fun z => c3 z.2)] at hr
          rw [if_neg (nI_ge (by omega) (by omega)), px_n0, ← hr]
          exact ⟨_, rfl, hs.v, rfl, hkb.2.1⟩
      · left
        have hkl := kind_le (t := t) (a := b)
        rw [if_neg (fun z => c2 z.1)] at hr
        rw [if_neg (show ¬ nI (tkK t b) = 2 from fun z => c2 ((nI_eq (b := 2) (by omega) (by omega)).mp z)), px_n0, ← hr]
        exact ⟨_, rfl, hs.v, rfl, hkb.2.1⟩
    · intro n q ⟨hs, b, f, hr, hb, hkb, h13⟩
      have hkl := kind_le (t := t) (a := b)
      have htq := ht.v hs.v
      rw [jTelling_readItem_h27, jTelling_readItem_b27, if_pos (nI_le (Nat.le_refl _) (by omega)), hkb.2.2.1]
      rw [Nat.sub_self] at hr
      simp only [numsT] at hr
      by_cases c3 : tkK t b = 3
      · rw [if_pos c3] at hr
        rw [if_pos (show nI (tkK t b) = 3 by rw [c3]; rfl), ← hr]
        obtain ⟨S2, e2, d1, d2, d3⟩ := draft_ok (hD.n hs) hw cm h13
        have v2 : vfr q S2 := ⟨fun r hr => d1 r (by omega), by rw [d1 1 (by omega)], d2⟩
        have hk2 : TkC t b S2 := by
          unfold TkC at *
          rw [d1 1 (by omega)]
          exact hkb
        obtain ⟨S3, e3, f3, k3⟩ := stepC (htq.v v2) hb hk2
        rw [e2, px_bv, e3, px_bv, px_n1]
        exact ⟨_, rfl, (hs.v.tr v2).tr f3.v, rfl, k3, d3.n f3.n⟩
      · rw [if_neg c3] at hr
        rw [if_neg (show ¬ nI (tkK t b) = 3 from fun z => c3 ((nI_eq (b := 3) (by omega) (by omega)).mp z)), px_n0, ← hr]
        exact ⟨_, rfl, hs.v, rfl, hkb.2.1⟩
  · rw [bool_f cm, bI_f, if_pos rfl, px_n0, if_neg (by decide)]
    exact ⟨_, _, rfl, vfr.rf S, rfl, hk.2.1⟩
def D0 : Df := (0, (fun _ _ => 0), (0, (fun _ _ => 0), (fun _ => 0), (fun _ => 0)), none)
def tellT (t : Tx) : Sum Nat (Nat × Df) := itemsT t 16 0 0 D0
theorem itemsT_l {t : Tx} : ∀ {n c a : Nat} {D : Df} {p : Nat}, a ≤ t.1 → itemsT t n c a D = .inl p → p ≤ t.1
  | 0, c, a, D, p, ha, h => by cases h; exact Nat.zero_le _
  | n + 1, c, a, D, p, ha, h => by
    simp only [itemsT] at h
    split at h
    · cases h
    · cases e : itemT t a D with
      | inl p' =>
        rw [e] at h
        cases h
        exact itemT_l ha e
      | inr q =>
        rw [e] at h
        exact itemsT_l (tk_le (itemT_r ha e).2.1).2 h
theorem itemsT_r {t : Tx} : ∀ {n c a : Nat} {D : Df} {r : Nat × Df}, a ≤ t.1 → WD D → c = wtD D → itemsT t n c a D = .inr r → WD r.2 ∧ r.1 = wtD r.2
  | 0, c, a, D, r, ha, hw, hc, h => by cases h
  | n + 1, c, a, D, r, ha, hw, hc, h => by
    simp only [itemsT] at h
    split at h
    · cases h
      exact ⟨hw, hc⟩
    · cases e : itemT t a D with
      | inl p' =>
        rw [e] at h
        cases h
      | inr q =>
        rw [e] at h
        obtain ⟨m1, m2, m3, m4⟩ := itemT_r ha e
        obtain ⟨w1, w2⟩ := hw.put m1 m4
        exact itemsT_r (tk_le m2).2 w1 (by omega) h
theorem WD0 : WD D0 := ⟨by decide, ⟨by decide, fun d hd => absurd hd (Nat.not_lt_zero _)⟩, fun h hh => absurd hh (Nat.not_lt_zero _), fun v hv => by cases hv⟩
theorem readAll_ok {t : Tx} {S : St} (ht : CT t S) : ∃ x S', jTelling_readAll S = some (x, S') ∧ vfr S S' ∧ allQ (tellT t) x S' := by
  have h300 := ht.2.1
  unfold jTelling_readAll
  rw [px_lt, px_lt, px_lt, px_lt, px_lt]
  obtain ⟨S1, hS1⟩ : ∃ S1, S1 = upI (upI (upI (upI (upI S 4 4 0) 9 3 0) 9 4 0) 9 5 0) 3 3 0 := ⟨_, rfl⟩
  have v1 : vfr S S1 := by
    rw [hS1]
    exact (((((vfr.rf S).up (by omega)).up (by omega)).up (by omega)).up (by omega)).up (by omega)
  have c1 : CD D0 S1 := by
    rw [hS1]
    refine ⟨?_, ?_, ?_, ?_, fun h hh => absurd hh (Nat.not_lt_zero _), ?_, fun d hd => absurd hd (Nat.not_lt_zero _)⟩
    · rw [upI_row (by omega), upI_off (by omega), upI_off (by omega), upI_hit]; rfl
    · rw [upI_row (by omega), upI_off (by omega), upI_hit]
    · rw [upI_row (by omega), upI_hit]; rfl
    · rw [upI_hit]; rfl
    · rw [upI_row (by omega), upI_row (by omega), upI_row (by omega), upI_row (by omega), upI_hit]; rfl
  rw [← hS1]
  unfold jText_rewind
  rw [px_lt]
  have f2 : tfr S1 (upI S1 1 2 0) := (tfr.rf S1).up (by omega)
  have ht2 := (ht.v v1).fr f2
  obtain ⟨S3, e3, f3, g1, g2, g3, g4⟩ := step_ok ht2 (Nat.zero_le _) (show (upI S1 1 2 0).1 1 2 = nI 0 from upI_hit)
  rw [e3, px_bv, px_bv]
  have v3 : vfr S S3 := (v1.tr f2.v).tr f3.v
  have c3 : CD D0 S3 := c1.n (f2.n.tr f3.n)
  obtain ⟨R, hR⟩ : ∃ R, R = tellT t := ⟨_, rfl⟩
  rw [← hR]
  have key := for_up (F := fun n i (q : St) => jTelling_readAll_h43 n (nI i) q) (N := 16) (I := fun i q => vfr S q ∧ ∃ a D, itemsT t (16 - i) i a D = R ∧ a ≤ t.1 ∧ TkC t a q ∧ CD D q ∧ WD D ∧ i = wtD D) (fun r => vfr S r.2 ∧ allQ R r.1 r.2) ?_ ?_ (i := 0) (s := S3) (Nat.zero_le _) ⟨v3, 0, D0, hR.symm, Nat.zero_le _, ⟨g1, g2, g3, g4⟩, c3, WD0, rfl⟩ (n := FU) (by decide)
  · obtain ⟨⟨x, S'⟩, e, k1, k2⟩ := key
    exact ⟨x, S', e, k1, k2⟩
  · intro n i q hi ⟨hs, a, D, hr, ha, hka, hcd, hwd, hwt⟩
    have htq := ht.v hs
    have hkl := kind_le (t := t) (a := a)
    rw [jTelling_readAll_h43, jTelling_readAll_b43, if_neg (show ¬ 300 < nI i from (nI_nlt (by omega) (by omega) : ¬ nI 300 < nI i)), hka.2.2.1]
    rw [show 16 - i = (16 - (i + 1)) + 1 by omega] at hr
    simp only [itemsT] at hr
    by_cases c0 : tkK t a = 0
    · left
      rw [if_pos c0] at hr
      rw [if_pos (show nI (tkK t a) = 0 by rw [c0]; rfl), ← hr]
      exact ⟨_, rfl, hs, rfl, hcd⟩
    · rw [if_neg c0] at hr
      rw [if_neg (show ¬ nI (tkK t a) = 0 from fun z => c0 ((nI_eq (b := 0) (by omega) (by omega)).mp z))]
      obtain ⟨x, S4, e4, v4, m4⟩ := readItem_ok htq ha hka hcd hwd
      rw [e4, px_bd]
      cases e : itemT t a D with
      | inl p =>
        left
        rw [e] at hr m4
        rw [m4.1, if_pos rfl, ← hr]
        exact ⟨_, rfl, hs.tr v4, rfl, m4.2⟩
      | inr r =>
        right
        rw [e] at hr m4
        obtain ⟨m1, m2, m3, m5⟩ := itemT_r ha e
        obtain ⟨w1, w2⟩ := hwd.put m1 m5
        rw [m4.1, if_neg n10, z1, nI_add]
        exact ⟨S4, rfl, hs.tr v4, _, _, hr, (tk_le m2).2, m4.2.1, m4.2.2, w1, by omega⟩
  · intro n q ⟨hs, a, D, hr, ha, hka, hcd, hwd, hwt⟩
    have := wtD_le hwd
    omega
