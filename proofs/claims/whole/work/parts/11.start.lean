/-! the worlds at the start -/
def S0C : St := (fun r => match r with
  | 9 => fun j => if j = 6 then 1 else 0
  | 19 => fun j => if j = 6 then 1 else 0
  | 23 => fun j => if j = 6 then 1 else 0
  | 27 => fun j => if j = 6 then 1 else 0
  | _ => fun _ => 0, fun _ _ => 0)
def S0M : St := (fun r => match r with
  | 9 => upd (fun _ => 0) 31 1
  | _ => fun _ => 0, fun _ _ => 0)
def g0 : Gh := ((0, fun _ => 0), (0, (fun _ _ => 0), (fun _ => 0), (fun _ => 0)), 0, ((fun _ _ => 0), 0, (fun _ => 0), (fun _ => 0), 0, 1), (fun _ => none), 0)
theorem w_0 : WG g0 := ⟨Nat.zero_le _, fun j hj => absurd hj (Nat.not_lt_zero _), ⟨Nat.zero_le _, fun d hd => absurd hd (Nat.not_lt_zero _)⟩, Nat.zero_le _, ⟨fun h hh => absurd hh (Nat.not_lt_zero _), Nat.zero_le _, fun j hj => absurd hj (Nat.not_lt_zero _), Nat.zero_le _⟩, fun i P h => by cases h⟩
theorem c_0 : CR g0 S0C := ⟨rfl, fun j hj => absurd hj (Nat.not_lt_zero _), ⟨rfl, fun d hd => absurd hd (Nat.not_lt_zero _)⟩, ⟨rfl, rfl, rfl, rfl, fun h hh => absurd hh (Nat.not_lt_zero _), fun j hj => absurd hj (Nat.not_lt_zero _)⟩, rfl, rfl, rfl⟩
theorem m_0 : MR g0 S0M := ⟨rfl, fun j hj => absurd hj (Nat.not_lt_zero _), rfl, fun d hd => absurd hd (Nat.not_lt_zero _), rfl, ⟨rfl, rfl, rfl, fun h hh => absurd hh (Nat.not_lt_zero _), fun j hj => absurd hj (Nat.not_lt_zero _)⟩, rfl, rfl, rfl⟩
def qOf (l : List Nat) : Nat → Nat := fun k => l.getD k 0
set_option maxRecDepth 100000 in
set_option maxHeartbeats 4000000 in
theorem wx6 {T : Nat → ClassId} {h0 : Nat} {w : va_W} (h : WX6 T h0 w) : ∃ q : Nat → Nat, q 0 = h0 ∧ w = wsOf 40 (cellC T q) q S0C := by
  obtain ⟨a1, a2, a3, a4, a5, a6, a7, a8, a9, a10, a11, a12, a13, a14, a15, a16, a17, a18, a19, a20, a21, a22, a23, a24, a25, a26, a27, a28, a29, a30, a31, a32, a33, a34, a35, a36, a37, a38, a39, rfl⟩ := h
  exact ⟨qOf [h0, a1, a2, a3, a4, a5, a6, a7, a8, a9, a10, a11, a12, a13, a14, a15, a16, a17, a18, a19, a20, a21, a22, a23, a24, a25, a26, a27, a28, a29, a30, a31, a32, a33, a34, a35, a36, a37, a38, a39], rfl, rfl⟩
set_option maxRecDepth 100000 in
set_option maxHeartbeats 4000000 in
theorem wx7 {T : Nat → ClassId} {h0 : Nat} {w : va_W} (h : WX7 T h0 w) : ∃ q : Nat → Nat, q 0 = h0 ∧ w = wsOf 17 (cellM T q) q S0M := by
  obtain ⟨a1, a2, a3, a4, a5, a6, a7, a8, a9, a10, a11, a12, a13, a14, a15, a16, rfl⟩ := h
  exact ⟨qOf [h0, a1, a2, a3, a4, a5, a6, a7, a8, a9, a10, a11, a12, a13, a14, a15, a16], rfl, rfl⟩
