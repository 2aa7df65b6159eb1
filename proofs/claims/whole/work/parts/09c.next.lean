/-! tokens in the reference -/
def rsK (k : Nat) : Nat := if k = 0 then 3 else if k = 1 then 6 else if k = 2 then 4 else if k = 3 then 5 else if k = 4 then 0 else if k = 5 then 1 else 2
def mfr (S S' : St) : Prop := (∀ r, r ≠ 0 → S'.1 r = S.1 r) ∧ (∀ j, j < 10 ∨ 14 ≤ j → S'.1 0 j = S.1 0 j) ∧ S'.2 = S.2
theorem mfr.rf (S : St) : mfr S S := ⟨fun _ _ => rfl, fun _ _ => rfl, rfl⟩
theorem mfr.tr {S S' S2 : St} (h : mfr S S') (h2 : mfr S' S2) : mfr S S2 := ⟨fun r hr => (h2.1 r hr).trans (h.1 r hr), fun j hj => (h2.2.1 j hj).trans (h.2.1 j hj), h2.2.2.trans h.2.2⟩
theorem mfr.up {S S' : St} (h : mfr S S') {j : Nat} {v : Int32} (hj : 10 ≤ j ∧ j < 14) : mfr S (upI S' 0 j v) := ⟨fun r hr => (upI_o r hr).trans (h.1 r hr), fun k hk => (upI_off (by omega)).trans (h.2.1 k hk), h.2.2⟩
def MT (t : Tx) (S : St) : Prop := S.1 0 2 = nI t.1 ∧ t.1 ≤ 300 ∧ ∀ j, j < t.1 → S.1 1 j &&& 255 = nI (t.2 j) ∧ t.2 j < 256
theorem MT.fr {t : Tx} {S S' : St} (h : MT t S) (hs : mfr S S') : MT t S' := ⟨(hs.2.1 2 (by omega)).trans h.1, h.2.1, fun j hj => ⟨by rw [hs.1 1 (by omega)]; exact (h.2.2 j hj).1, (h.2.2 j hj).2⟩⟩
theorem here_t {t : Tx} {M : St} (ht : MT t M) {i : Nat} (hi : i < t.1) (h10 : M.1 0 10 = nI i) : jMod_here M = some (nI (t.2 i), M) := by
  have h300 := ht.2.1
  unfold jMod_here
  rw [ht.1, h10, if_neg (nI_ge hi (by omega)), px_ld (by omega) (by omega), (ht.2.2 i hi).1]
theorem here_f {t : Tx} {M : St} (ht : MT t M) {i : Nat} (hi : t.1 ≤ i) (hi2 : i < 1000) (h10 : M.1 0 10 = nI i) : jMod_here M = some (-1, M) := by
  unfold jMod_here
  rw [ht.1, h10, if_pos (nI_le hi (by omega))]
theorem inR {lo hi d : Nat} (hd : d < 256) (hh : hi < 256) (hl : lo < 256) {M : St} : jMod_in (nI d) (nI lo) (nI hi) M = some (bI (decide (lo ≤ d ∧ d ≤ hi)), M) := by
  by_cases c : lo ≤ d ∧ d ≤ hi
  · rw [decide_eq_true c]
    exact in_t (nI_nlt c.1 (by omega)) (nI_nlt c.2 (by omega))
  · rw [decide_eq_false c]
    refine in_f ?_
    by_cases c1 : lo ≤ d
    · exact Or.inr (nI_lt (by omega) (by omega))
    · exact Or.inl (nI_lt (by omega) (by omega))
theorem in_m1 {lo hi : Nat} (hl : lo < 256) {M : St} : jMod_in (-1) (nI lo) (nI hi) M = some (0, M) := by
  refine in_f (Or.inl ?_)
  have : ¬ nI lo < 0 := nI_pos (by omega)
  exact Int32.lt_of_lt_of_le (show (-1 : Int32) < 0 by decide) (i_nlt.mp this)
def valN (t : Tx) (s : Nat) : Nat → Nat
  | 0 => 0
  | k + 1 => if valN t s k ≤ 99 then 10 * valN t s k + t.2 (s + k) - 48 else valN t s k
theorem valN_lt {t : Tx} {s : Nat} : ∀ {k : Nat}, (∀ j, j < k → 48 ≤ t.2 (s + j) ∧ t.2 (s + j) ≤ 57) → valN t s k < 1000
  | 0, _ => by show 0 < 1000; omega
  | k + 1, h => by
    have ih := valN_lt (t := t) (s := s) (k := k) (fun j hj => h j (by omega))
    have := h k (by omega)
    simp only [valN]
    split <;> omega
/-- numbers of three places are too great -/
theorem valN_3 {t : Tx} {s : Nat} : ∀ {k : Nat}, (∀ j, j < k + 3 → 48 ≤ t.2 (s + j) ∧ t.2 (s + j) ≤ 57) → t.2 s ≠ 48 → 99 < valN t s (k + 3)
  | 0, h, h0 => by
    have h1 := h 0 (by omega)
    have h2 := h 1 (by omega)
    have h3 := h 2 (by omega)
    rw [Nat.add_zero] at h1
    have e1 : valN t s 1 = t.2 s - 48 := by simp [valN]
    have e2 : valN t s 2 = 10 * valN t s 1 + t.2 (s + 1) - 48 := if_pos (show valN t s 1 ≤ 99 by omega)
    have e3 : valN t s 3 = if valN t s 2 ≤ 99 then 10 * valN t s 2 + t.2 (s + 2) - 48 else valN t s 2 := rfl
    rw [Nat.zero_add, e3]
    split <;> omega
  | k + 1, h, h0 => by
    have ih := valN_3 (t := t) (s := s) (k := k) (fun j hj => h j (by omega)) h0
    rw [show k + 1 + 3 = (k + 3) + 1 by omega]
    show 99 < if valN t s (k + 3) ≤ 99 then _ else _
    rw [if_neg (by omega)]
    exact ih
def hashN (t : Tx) (s : Nat) : Nat → Nat
  | 0 => 0
  | k + 1 => 27 * hashN t s k + t.2 (s + k) - 96
theorem hash_lt {t : Tx} {s : Nat} : ∀ {k : Nat}, k ≤ 5 → (∀ j, j < k → 97 ≤ t.2 (s + j) ∧ t.2 (s + j) ≤ 122) → hashN t s k < 27 ^ k
  | 0, _, _ => (by decide : 0 < 27 ^ 0)
  | k + 1, hk, h => by
    have ih := hash_lt (t := t) (s := s) (k := k) (by omega) (fun j hj => h j (by omega))
    have := h k (by omega)
    simp only [hashN]
    rw [Nat.pow_succ]
    omega
theorem name_hash {t : Tx} {s e : Nat} (he : s < e) (h : ∀ j, s ≤ j → j < e → 97 ≤ t.2 j ∧ t.2 j ≤ 122) : (if (if e - s ≤ 5 then hashN t s (e - s) else 0) = 4786 then 2 else if (if e - s ≤ 5 then hashN t s (e - s) else 0) = 85814 then 1 else if (if e - s ≤ 5 then hashN t s (e - s) else 0) = 4562600 then 0 else 6) = rsK (nameK t s e) := by
  obtain ⟨n, hn⟩ : ∃ n, n = e - s := ⟨_, rfl⟩
  have hc : ∀ j, j < n → 97 ≤ t.2 (s + j) ∧ t.2 (s + j) ≤ 122 := fun j hj => h (s + j) (by omega) (by omega)
  unfold nameK
  rw [← hn]
  by_cases c5 : n ≤ 5
  · rw [if_pos c5]
    rcases (by omega : n = 1 ∨ n = 2 ∨ n = 3 ∨ n = 4 ∨ n = 5) with rfl | rfl | rfl | rfl | rfl
    · have h0 := hc 0 (by omega)
      have e1 : hashN t s 1 = 27 * 0 + t.2 (s + 0) - 96 := rfl
      rw [if_neg (by omega), if_neg (by omega), if_neg (by omega), if_neg (by omega), if_neg (by omega), if_neg (by omega)]
      rfl
    · have h0 := hc 0 (by omega)
      have h1 := hc 1 (by omega)
      have e1 : hashN t s 1 = 27 * 0 + t.2 (s + 0) - 96 := rfl
      have e2 : hashN t s 2 = 27 * hashN t s 1 + t.2 (s + 1) - 96 := rfl
      rw [if_neg (by omega), if_neg (by omega), if_neg (by omega), if_neg (by omega), if_neg (by omega), if_neg (by omega)]
      rfl
    · have h0 := hc 0 (by omega)
      have h1 := hc 1 (by omega)
      have h2 := hc 2 (by omega)
      have e1 : hashN t s 1 = 27 * 0 + t.2 s - 96 := rfl
      have e2 : hashN t s 2 = 27 * hashN t s 1 + t.2 (s + 1) - 96 := rfl
      have e3 : hashN t s 3 = 27 * hashN t s 2 + t.2 (s + 2) - 96 := rfl
      rw [Nat.add_zero] at h0
      by_cases c : hashN t s 3 = 4786
      · rw [if_pos c, if_neg (by omega), if_neg (by omega), if_pos ⟨rfl, by omega, by omega, by omega⟩]
        rfl
      · rw [if_neg c, if_neg (by omega), if_neg (by omega), if_neg (by omega), if_neg (by omega), if_neg (fun z => by omega)]
        rfl
    · have h0 := hc 0 (by omega)
      have h1 := hc 1 (by omega)
      have h2 := hc 2 (by omega)
      have h3 := hc 3 (by omega)
      have e1 : hashN t s 1 = 27 * 0 + t.2 s - 96 := rfl
      have e2 : hashN t s 2 = 27 * hashN t s 1 + t.2 (s + 1) - 96 := rfl
      have e3 : hashN t s 3 = 27 * hashN t s 2 + t.2 (s + 2) - 96 := rfl
      have e4 : hashN t s 4 = 27 * hashN t s 3 + t.2 (s + 3) - 96 := rfl
      rw [Nat.add_zero] at h0
      by_cases c : hashN t s 4 = 85814
      · rw [if_neg (by omega), if_pos c, if_neg (by omega), if_pos ⟨rfl, by omega, by omega, by omega, by omega⟩]
        rfl
      · rw [if_neg (by omega), if_neg c, if_neg (by omega), if_neg (by omega), if_neg (fun z => by omega), if_neg (by omega)]
        rfl
    · have h0 := hc 0 (by omega)
      have h1 := hc 1 (by omega)
      have h2 := hc 2 (by omega)
      have h3 := hc 3 (by omega)
      have h4 := hc 4 (by omega)
      have e1 : hashN t s 1 = 27 * 0 + t.2 s - 96 := rfl
      have e2 : hashN t s 2 = 27 * hashN t s 1 + t.2 (s + 1) - 96 := rfl
      have e3 : hashN t s 3 = 27 * hashN t s 2 + t.2 (s + 2) - 96 := rfl
      have e4 : hashN t s 4 = 27 * hashN t s 3 + t.2 (s + 3) - 96 := rfl
      have e5 : hashN t s 5 = 27 * hashN t s 4 + t.2 (s + 4) - 96 := rfl
      rw [Nat.add_zero] at h0
      by_cases c : hashN t s 5 = 4562600
      · rw [if_neg (by omega), if_neg (by omega), if_pos c, if_pos ⟨rfl, by omega, by omega, by omega, by omega, by omega⟩]
        rfl
      · rw [if_neg (by omega), if_neg (by omega), if_neg c, if_neg (fun z => by omega), if_neg (by omega), if_neg (by omega)]
        rfl
  · rw [if_neg c5, if_neg (by omega), if_neg (by omega), if_neg (by omega), if_neg (by omega), if_neg (by omega), if_neg (by omega)]
    rfl
theorem meaning_M (h : Nat) (hh : h < 2 ^ 31) {M : St} : jMod_meaning (nI h) M = some (nI (if h = 4786 then 2 else if h = 85814 then 1 else if h = 4562600 then 0 else 6), M) := by
  unfold jMod_meaning
  by_cases c1 : h = 4786
  · rw [if_pos (show nI h = 4786 by rw [c1]; rfl), if_pos c1]; rfl
  · rw [if_neg (show ¬ nI h = 4786 from fun z => c1 ((nI_eq (b := 4786) (by omega) (by omega)).mp z)), if_neg c1]
    by_cases c2 : h = 85814
    · rw [if_pos (show nI h = 85814 by rw [c2]; rfl), if_pos c2]; rfl
    · rw [if_neg (show ¬ nI h = 85814 from fun z => c2 ((nI_eq (b := 85814) (by omega) (by omega)).mp z)), if_neg c2]
      by_cases c3 : h = 4562600
      · rw [if_pos (show nI h = 4562600 by rw [c3]; rfl), if_pos c3]; rfl
      · rw [if_neg (show ¬ nI h = 4562600 from fun z => c3 ((nI_eq (b := 4562600) (by omega) (by omega)).mp z)), if_neg c3]; rfl
theorem letters_ok {t : Tx} {M : St} (ht : MT t M) {s : Nat} (hd : pLt t s = true) (h10 : M.1 0 10 = nI s) (h11 : M.1 0 11 = nI s) : ∃ M', jMod_next_h65 FU 0 M = some M' ∧ mfr M M' ∧ M'.1 0 10 = nI (spanN (pLt t) t.1 s) ∧ M'.1 0 11 = nI s ∧ M'.1 0 12 = nI (rsK (nameK t s (spanN (pLt t) t.1 s))) := by
  have hs : s < t.1 := pLt_lt s hd
  obtain ⟨w1, w2, w3, w4⟩ := span_ok (pLt_lt (t := t)) (n := t.1) (Nat.le_of_lt hs) (Nat.sub_le _ _)
  obtain ⟨e, he⟩ : ∃ e, e = spanN (pLt t) t.1 s := ⟨_, rfl⟩
  rw [← he] at w1 w2 w3 w4 ⊢
  have h300 := ht.2.1
  have hse : s < e := by
    by_cases c : s = e
    · rw [← c, hd] at w4
      cases w4
    · omega
  have dg : ∀ j, s ≤ j → j < e → 97 ≤ t.2 j ∧ t.2 j ≤ 122 := fun j h1 h2 => (of_decide_eq_true (w3 j h1 h2)).2
  have hb : ∀ i, i ≤ e → (if i - s ≤ 5 then hashN t s (i - s) else 0) < 2 ^ 31 := fun i hi => by
    split
    · have := hash_lt (t := t) (s := s) (k := i - s) (by omega) (fun j hj => dg (s + j) (by omega) (by omega))
      have : 27 ^ (i - s) ≤ 27 ^ 5 := Nat.pow_le_pow_right (by decide) (by omega)
      have : 27 ^ 5 < 2 ^ 31 := by decide
      omega
    · decide
  obtain ⟨m', M1, e1, f1, a10, a11, -⟩ := for_go (F := fun n i (q : St) => jMod_next_h65 n (nI (if i - s ≤ 5 then hashN t s (i - s) else 0)) q) (N := e) (I := fun i q => mfr M q ∧ q.1 0 10 = nI i ∧ q.1 0 11 = nI s ∧ s ≤ i) (fun n i q hi ⟨i1, i2, i3, i4⟩ => by
    have hq := ht.fr i1
    have hlt : i < t.1 := by omega
    have hb2 := (hq.2.2 i hlt).2
    have hl := dg i i4 hi
    rw [jMod_next_h65, jMod_next_b65, here_t hq hlt i2, px_bd, show jMod_in (nI (t.2 i)) 97 122 q = _ from inR (lo := 97) (hi := 122) hb2 (by omega) (by omega), px_bd, decide_eq_true hl, bI_t, if_neg n10, i2, i3, nI_sub i4]
    unfold jMod_next_b108
    have up : ∃ s', x_lt (upI q 0 10 (q.1 0 10 + 1)) (fun S29 => some S29) = some s' ∧ mfr M s' ∧ s'.1 0 10 = nI (i + 1) ∧ s'.1 0 11 = nI s ∧ s ≤ i + 1 := by
      refine ⟨_, rfl, i1.up (by omega), ?_, (upI_off (by omega)).trans i3, by omega⟩
      rw [upI_hit, i2, z1, nI_add]
    obtain ⟨s', g1, g2⟩ := up
    have g1 : upI q 0 10 (q.1 0 10 + 1) = s' := by
      rw [px_lt] at g1
      injection g1
    by_cases c : 5 ≤ i - s
    · rw [if_pos (show 5 ≤ nI (i - s) from (nI_le c (by omega) : nI 5 ≤ nI (i - s))), px_lt, g1, show (if i + 1 - s ≤ 5 then hashN t s (i + 1 - s) else 0) = 0 from if_neg (by omega)]
      exact ⟨s', rfl, g2⟩
    · rw [if_neg (show ¬ 5 ≤ nI (i - s) from (nI_ge (by omega) (by omega) : ¬ nI 5 ≤ nI (i - s))), here_t hq hlt i2, px_bd, px_lt, g1, if_pos (show i - s ≤ 5 by omega), if_pos (show i + 1 - s ≤ 5 by omega)]
      refine ⟨s', ?_, g2⟩
      rw [show (27 : Int32) = nI 27 from rfl, nI_mul, nI_add, show (96 : Int32) = nI 96 from rfl, nI_sub (by omega), show i + 1 - s = (i - s) + 1 by omega]
      simp only [hashN]
      rw [show s + (i - s) = i by omega]) (i := s) (s := M) w1 ⟨mfr.rf M, h10, h11, Nat.le_refl _⟩ (n := FU) (Nat.lt_of_le_of_lt (Nat.le_trans (Nat.sub_le _ _) (Nat.le_trans w2 h300)) (by decide))
  have hq := ht.fr f1
  rw [Nat.sub_self] at e1
  have e1 : jMod_next_h65 FU 0 M = jMod_next_h65 (m' + 1) (nI (if e - s ≤ 5 then hashN t s (e - s) else 0)) M1 := e1
  have fin : (if nI e - nI s ≤ 5 then jMod_next_b141 (nI (if e - s ≤ 5 then hashN t s (e - s) else 0)) M1 else jMod_next_b141 0 M1) = some (upI M1 0 12 (nI (rsK (nameK t s e)))) := by
    rw [nI_sub w1]
    have key : ∀ x, x = (if e - s ≤ 5 then hashN t s (e - s) else 0) → jMod_next_b141 (nI x) M1 = some (upI M1 0 12 (nI (rsK (nameK t s e)))) := fun x hx => by
      unfold jMod_next_b141
      rw [meaning_M x (hx ▸ hb e (Nat.le_refl _)), px_bd, px_lt, hx, name_hash hse dg]
    by_cases c : e - s ≤ 5
    · rw [if_pos (show nI (e - s) ≤ 5 from (nI_le c (by omega) : nI (e - s) ≤ nI 5))]
      exact key _ rfl
    · rw [if_neg (show ¬ nI (e - s) ≤ 5 from (nI_ge (by omega) (by omega) : ¬ nI (e - s) ≤ nI 5))]
      exact key 0 (if_neg c).symm
  rw [e1, jMod_next_h65, jMod_next_b65]
  refine ⟨upI M1 0 12 (nI (rsK (nameK t s e))), ?_, f1.up (by omega), (upI_off (by omega)).trans a10, (upI_off (by omega)).trans a11, upI_hit⟩
  by_cases c : e < t.1
  · have hb2 := (hq.2.2 e c).2
    rw [here_t hq c a10, px_bd, show jMod_in (nI (t.2 e)) 97 122 M1 = _ from inR (lo := 97) (hi := 122) hb2 (by omega) (by omega), px_bd, decide_eq_false (fun z => by
      have : pLt t e = true := decide_eq_true ⟨c, z⟩
      rw [this] at w4
      cases w4), bI_f, if_pos rfl, a10, a11]
    exact fin
  · rw [here_f hq (by omega) (by omega) a10, px_bd, show jMod_in (-1) 97 122 M1 = some (0, M1) from in_m1 (lo := 97) (hi := 122) (by omega), px_bd, if_pos rfl, a10, a11]
    exact fin
theorem digits_ok {t : Tx} {M : St} (ht : MT t M) {s : Nat} (hd : pDg t s = true) (h10 : M.1 0 10 = nI s) (h11 : M.1 0 11 = nI s) (h13 : M.1 0 13 = 0) : ∃ M', jMod_next_h161 FU (nI (t.2 s)) M = some M' ∧ mfr M M' ∧ M'.1 0 10 = nI (tkAt t s).2.2 ∧ M'.1 0 11 = nI s ∧ M'.1 0 12 = nI (rsK (tkAt t s).1) ∧ ((tkAt t s).1 = 2 → M'.1 0 13 = nI (tkAt t s).2.1) := by
  have hs : s < t.1 := pDg_lt s hd
  obtain ⟨w1, w2, w3, w4⟩ := span_ok (pDg_lt (t := t)) (n := t.1) (Nat.le_of_lt hs) (Nat.sub_le _ _)
  have etk : tkAt t s = (if spanN (pDg t) t.1 s - s = 1 ∨ (spanN (pDg t) t.1 s - s = 2 ∧ t.2 s ≠ 48) then 2 else 1, (if spanN (pDg t) t.1 s - s = 1 then t.2 s - 48 else 10 * (t.2 s - 48) + (t.2 (s + 1) - 48)), spanN (pDg t) t.1 s) := by
    unfold tkAt
    rw [if_neg (by omega), if_pos hd]
  rw [etk]
  obtain ⟨e, he⟩ : ∃ e, e = spanN (pDg t) t.1 s := ⟨_, rfl⟩
  rw [← he] at w1 w2 w3 w4 ⊢
  dsimp only
  have h300 := ht.2.1
  have hse : s < e := by
    by_cases c : s = e
    · rw [← c, hd] at w4
      cases w4
    · omega
  have dg : ∀ j, s ≤ j → j < e → 48 ≤ t.2 j ∧ t.2 j ≤ 57 := fun j h1 h2 => (of_decide_eq_true (w3 j h1 h2)).2
  have hb0' := (ht.2.2 s hs).2
  obtain ⟨m', M1, e1, f1, a10, a11, a13, -⟩ := for_go (F := fun n i (q : St) => jMod_next_h161 n (nI (t.2 s)) q) (N := e) (I := fun i q => mfr M q ∧ q.1 0 10 = nI i ∧ q.1 0 11 = nI s ∧ q.1 0 13 = nI (valN t s (i - s)) ∧ s ≤ i) (fun n i q hi ⟨i1, i2, i3, i5, i4⟩ => by
    have hq := ht.fr i1
    have hlt : i < t.1 := by omega
    have hb2 := (hq.2.2 i hlt).2
    have hl := dg i i4 hi
    have hv := valN_lt (t := t) (s := s) (k := i - s) (fun j hj => dg (s + j) (by omega) (by omega))
    rw [jMod_next_h161, jMod_next_b161, here_t hq hlt i2, px_bd, show jMod_in (nI (t.2 i)) 48 57 q = _ from inR (lo := 48) (hi := 57) hb2 (by omega) (by omega), px_bd, decide_eq_true hl, bI_t, if_neg n10, i5]
    have up : ∀ v, v = nI (valN t s (i + 1 - s)) → ∃ s', jMod_next_b207 (jMod_next_h161 n) (nI (t.2 s)) v q = jMod_next_h161 n (nI (t.2 s)) s' ∧ mfr M s' ∧ s'.1 0 10 = nI (i + 1) ∧ s'.1 0 11 = nI s ∧ s'.1 0 13 = nI (valN t s (i + 1 - s)) ∧ s ≤ i + 1 := fun v hv => by
      unfold jMod_next_b207
      rw [px_lt, px_lt]
      refine ⟨_, rfl, (i1.up (by omega)).up (by omega), ?_, ?_, ?_, by omega⟩
      · rw [upI_hit, upI_off (by omega), i2, z1, nI_add]
      · rw [upI_off (by omega), upI_off (by omega)]; exact i3
      · rw [upI_off (by omega), upI_hit, hv]
    have ev : valN t s (i + 1 - s) = if valN t s (i - s) ≤ 99 then 10 * valN t s (i - s) + t.2 i - 48 else valN t s (i - s) := by
      rw [show i + 1 - s = (i - s) + 1 by omega]
      simp only [valN]
      rw [show s + (i - s) = i by omega]
    by_cases c : valN t s (i - s) ≤ 99
    · rw [if_pos (show nI (valN t s (i - s)) ≤ 99 from (nI_le c (by omega) : nI _ ≤ nI 99)), here_t hq hlt i2, px_bd]
      exact up _ (by rw [ev, if_pos c, z10, nI_mul, nI_add, show (48 : Int32) = nI 48 from rfl, nI_sub (by omega)])
    · rw [if_neg (show ¬ nI (valN t s (i - s)) ≤ 99 from (nI_ge (by omega) (by omega) : ¬ nI _ ≤ nI 99))]
      exact up _ (by rw [ev, if_neg c])) (i := s) (s := M) w1 ⟨mfr.rf M, h10, h11, by rw [Nat.sub_self]; exact h13, Nat.le_refl _⟩ (n := FU) (Nat.lt_of_le_of_lt (Nat.le_trans (Nat.sub_le _ _) (Nat.le_trans w2 h300)) (by decide))
  have hq := ht.fr f1
  have e1 : jMod_next_h161 FU (nI (t.2 s)) M = jMod_next_h161 (m' + 1) (nI (t.2 s)) M1 := e1
  have hv := valN_lt (t := t) (s := s) (k := e - s) (fun j hj => dg (s + j) (by omega) (by omega))
  have d0 := dg s (Nat.le_refl _) hse
  -- what the value says
  have one : e - s = 1 → valN t s (e - s) = t.2 s - 48 := fun c => by rw [c]; show 10 * 0 + t.2 s - 48 = _; omega
  have two : e - s = 2 → valN t s (e - s) = 10 * (t.2 s - 48) + (t.2 (s + 1) - 48) := fun c => by
    have d1 := dg (s + 1) (by omega) (by omega)
    rw [c]
    show (if 10 * 0 + t.2 s - 48 ≤ 99 then 10 * (10 * 0 + t.2 s - 48) + t.2 (s + 1) - 48 else _) = _
    rw [if_pos (by omega)]
    omega
  have fin : (if 99 < M1.1 0 13 then jMod_next_b258 6 M1 else (if nI (t.2 s) = 48 then (if (M1.1 0 10) - (M1.1 0 11) ≤ 1 then jMod_next_b258 4 M1 else jMod_next_b258 6 M1) else jMod_next_b258 4 M1)) = some (upI M1 0 12 (nI (rsK (if e - s = 1 ∨ (e - s = 2 ∧ t.2 s ≠ 48) then 2 else 1)))) := by
    rw [a13, a10, a11, nI_sub w1]
    unfold jMod_next_b258
    by_cases c0 : t.2 s = 48
    · rw [if_pos (show nI (t.2 s) = 48 by rw [c0]; rfl)]
      by_cases c1 : e - s = 1
      · rw [if_neg (show ¬ 99 < nI (valN t s (e - s)) from (nI_nlt (by rw [one c1]; omega) (by omega) : ¬ nI 99 < nI _)), if_pos (show nI (e - s) ≤ 1 from (nI_le (by omega) (by omega) : nI (e - s) ≤ nI 1)), if_pos (Or.inl c1)]
        rfl
      · rw [if_neg (show ¬ nI (e - s) ≤ 1 from (nI_ge (by omega) (by omega) : ¬ nI (e - s) ≤ nI 1)), if_neg (show ¬ (e - s = 1 ∨ (e - s = 2 ∧ t.2 s ≠ 48)) by omega), ite_self]
        rfl
    · rw [if_neg (show ¬ nI (t.2 s) = 48 from fun z => c0 ((nI_eq (b := 48) (by omega) (by omega)).mp z))]
      by_cases c1 : e - s = 1
      · rw [if_neg (show ¬ 99 < nI (valN t s (e - s)) from (nI_nlt (by rw [one c1]; omega) (by omega) : ¬ nI 99 < nI _)), if_pos (Or.inl c1)]
        rfl
      · by_cases c2 : e - s = 2
        · have d1 := dg (s + 1) (by omega) (by omega)
          rw [if_neg (show ¬ 99 < nI (valN t s (e - s)) from (nI_nlt (by rw [two c2]; omega) (by omega) : ¬ nI 99 < nI _)), if_pos (Or.inr ⟨c2, c0⟩)]
          rfl
        · have v3 : 99 < valN t s (e - s) := by
            obtain ⟨k, hk⟩ : ∃ k, e - s = k + 3 := ⟨e - s - 3, by omega⟩
            rw [hk]
            exact valN_3 (fun j hj => dg (s + j) (by omega) (by omega)) c0
          rw [if_pos (show 99 < nI (valN t s (e - s)) from (nI_lt v3 (by omega) : nI 99 < nI _)), if_neg (by omega)]
          rfl
  rw [e1, jMod_next_h161, jMod_next_b161]
  refine ⟨upI M1 0 12 (nI (rsK (if e - s = 1 ∨ (e - s = 2 ∧ t.2 s ≠ 48) then 2 else 1))), ?_, f1.up (by omega), (upI_off (by omega)).trans a10, (upI_off (by omega)).trans a11, upI_hit, fun hk => ?_⟩
  · by_cases c : e < t.1
    · have hb2 := (hq.2.2 e c).2
      rw [here_t hq c a10, px_bd, show jMod_in (nI (t.2 e)) 48 57 M1 = _ from inR (lo := 48) (hi := 57) hb2 (by omega) (by omega), px_bd, decide_eq_false (fun z => by
        have : pDg t e = true := decide_eq_true ⟨c, z⟩
        rw [this] at w4
        cases w4), bI_f, if_pos rfl]
      exact fin
    · rw [here_f hq (by omega) (by omega) a10, px_bd, show jMod_in (-1) 48 57 M1 = some (0, M1) from in_m1 (lo := 48) (hi := 57) (by omega), px_bd, if_pos rfl]
      exact fin
  · rw [upI_off (by omega), a13]
    by_cases c1 : e - s = 1
    · rw [if_pos c1, one c1]
    · rw [if_neg c1]
      split at hk
      · rename_i y
        rw [two (by omega)]
      · omega
theorem next_ok {t : Tx} {M : St} (ht : MT t M) {a : Nat} (ha : a ≤ t.1) (h2 : M.1 0 10 = nI a) : ∃ M', jMod_next M = some M' ∧ mfr M M' ∧ M'.1 0 10 = nI (tkN t a) ∧ M'.1 0 11 = nI (tkS t a) ∧ M'.1 0 12 = nI (rsK (tkK t a)) ∧ (tkK t a = 2 → M'.1 0 13 = nI (tkV t a)) := by
  obtain ⟨w1, w2, w3, w4⟩ := span_ok (pSp_lt (t := t)) (n := t.1) ha (Nat.sub_le _ _)
  have h300 := ht.2.1
  unfold jMod_next
  obtain ⟨m', S1, e1, f1, a2, -⟩ := for_go (F := fun n i (q : St) => jMod_next_h0 n q) (N := tkS t a) (I := fun i q => mfr M q ∧ q.1 0 10 = nI i ∧ a ≤ i) (fun n i q hi ⟨i1, i2, i4⟩ => by
    have hq := ht.fr i1
    have hsp := of_decide_eq_true (w3 i i4 hi)
    have hlt : i < t.1 := hsp.1
    rw [jMod_next_h0, jMod_next_b0, here_t hq hlt i2, px_bd, if_pos (show nI (t.2 i) = 32 by rw [hsp.2]; rfl), px_lt]
    refine ⟨_, rfl, i1.up (by omega), ?_, by omega⟩
    rw [upI_hit, i2, z1, nI_add]) (i := a) (s := M) w1 ⟨mfr.rf M, h2, Nat.le_refl _⟩ (n := FU) (Nat.lt_of_le_of_lt (Nat.le_trans (Nat.sub_le _ _) (Nat.le_trans w2 h300)) (by decide))
  have e1 : jMod_next_h0 FU M = jMod_next_h0 (m' + 1) S1 := e1
  have hq := ht.fr f1
  have w2 : tkS t a ≤ t.1 := w2
  have w4 : pSp t (tkS t a) = false := w4
  rw [e1, jMod_next_h0, jMod_next_b0]
  unfold tkK tkV tkN
  obtain ⟨s, hs⟩ : ∃ s, s = tkS t a := ⟨_, rfl⟩
  rw [← hs] at a2 w2 w4 ⊢
  obtain ⟨S2, hS2⟩ : ∃ S2, S2 = upI (upI S1 0 11 (nI s)) 0 13 0 := ⟨_, rfl⟩
  have f2 : mfr S1 S2 := by rw [hS2]; exact ((mfr.rf S1).up (by omega)).up (by omega)
  have b10 : S2.1 0 10 = nI s := by rw [hS2, upI_off (by omega), upI_off (by omega)]; exact a2
  have b11 : S2.1 0 11 = nI s := by rw [hS2, upI_off (by omega), upI_hit]
  have b13 : S2.1 0 13 = 0 := by rw [hS2, upI_hit]
  have ht2 := hq.fr f2
  have f12 := f1.tr f2
  by_cases c : t.1 ≤ s
  · have etk : tkAt t s = (0, 0, s) := if_pos c
    rw [here_f hq c (by omega) a2, px_bd, if_neg (show ¬ (-1 : Int32) = 32 by decide), px_lt, px_lt, a2, ← hS2, here_f ht2 c (by omega) b10, px_bd, if_neg (show ¬ (0 : Int32) ≤ -1 by decide), px_lt, etk]
    exact ⟨_, rfl, f12.up (by omega), (upI_off (by omega)).trans b10, (upI_off (by omega)).trans b11, upI_hit, fun z => by cases z⟩
  · have hlt : s < t.1 := by omega
    have hb2 := (ht2.2.2 s hlt).2
    rw [here_t hq hlt a2, px_bd, if_neg (show ¬ nI (t.2 s) = 32 from fun z => by
      have : t.2 s = 32 := (nI_eq (b := 32) (by omega) (by omega)).mp z
      have : pSp t s = true := decide_eq_true ⟨hlt, this⟩
      rw [this] at w4
      cases w4), px_lt, px_lt, a2, ← hS2, here_t ht2 hlt b10, px_bd, if_pos (show 0 ≤ nI (t.2 s) from nI_pos' (by omega)), show jMod_in (nI (t.2 s)) 97 122 S2 = _ from inR (lo := 97) (hi := 122) hb2 (by omega) (by omega), px_bd]
    by_cases cl : 97 ≤ t.2 s ∧ t.2 s ≤ 122
    · have hl : pLt t s = true := decide_eq_true ⟨hlt, cl⟩
      have hd : ¬ pDg t s = true := fun z => by
        have := (of_decide_eq_true z).2
        omega
      have etk : tkAt t s = (nameK t s (spanN (pLt t) t.1 s), 0, spanN (pLt t) t.1 s) := by
        unfold tkAt
        rw [if_neg c, if_neg hd, if_pos hl]
      obtain ⟨S3, e3, f3, c10, c11, c12⟩ := letters_ok ht2 hl b10 b11
      rw [decide_eq_true cl, bI_t, if_neg n10, e3, etk]
      refine ⟨S3, rfl, f12.tr f3, c10, c11, c12, fun z => ?_⟩
      exfalso
      unfold nameK at z
      dsimp only at z
      split at z
      · omega
      · split at z
        · omega
        · split at z <;> omega
    · rw [decide_eq_false cl, bI_f, if_pos rfl, show jMod_in (nI (t.2 s)) 48 57 S2 = _ from inR (lo := 48) (hi := 57) hb2 (by omega) (by omega), px_bd]
      by_cases cd : 48 ≤ t.2 s ∧ t.2 s ≤ 57
      · have hd : pDg t s = true := decide_eq_true ⟨hlt, cd⟩
        obtain ⟨S3, e3, f3, c10, c11, c12, c13⟩ := digits_ok ht2 hd b10 b11 b13
        rw [decide_eq_true cd, bI_t, if_neg n10, e3]
        exact ⟨S3, rfl, f12.tr f3, c10, c11, c12, c13⟩
      · have hd : ¬ pDg t s = true := fun z => cd (of_decide_eq_true z).2
        have hl : ¬ pLt t s = true := fun z => cl (of_decide_eq_true z).2
        have etk : tkAt t s = (if t.2 s = 59 then 3 else 1, 0, s + 1) := by
          unfold tkAt
          rw [if_neg c, if_neg hd, if_neg hl]
        rw [decide_eq_false cd, bI_f, if_pos rfl, px_lt, etk, b10]
        unfold jMod_next_b287
        dsimp only
        by_cases c59 : t.2 s = 59
        · rw [if_pos (show nI (t.2 s) = 59 by rw [c59]; rfl), if_pos c59, px_lt]
          refine ⟨_, rfl, (f12.up (by omega)).up (by omega), ?_, ?_, upI_hit, fun z => by cases z⟩
          · rw [upI_off (by omega), upI_hit, z1, nI_add]
          · rw [upI_off (by omega), upI_off (by omega)]; exact b11
        · rw [if_neg (show ¬ nI (t.2 s) = 59 from fun z => c59 ((nI_eq (b := 59) (by omega) (by omega)).mp z)), if_neg c59, px_lt]
          refine ⟨_, rfl, (f12.up (by omega)).up (by omega), ?_, ?_, upI_hit, fun z => by cases z⟩
          · rw [upI_off (by omega), upI_hit, z1, nI_add]
          · rw [upI_off (by omega), upI_off (by omega)]; exact b11
