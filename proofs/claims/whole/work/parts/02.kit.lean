/-! WHOLE WORLDS: an object and all that it holds, at addresses q 0 .. q (N - 1); what they hold is read off one pair of functions (rows of ints, rows of longs) -/
abbrev St : Type := (Nat → Nat → Int32) × (Nat → Nat → Int64)
def upI (S : St) (k j : Nat) (v : Int32) : St := (va_up S.1 k (upd (S.1 k) j v), S.2)
def upL (S : St) (k j : Nat) (v : Int64) : St := (S.1, va_up S.2 k (vp_updL (S.2 k) j v))
abbrev Cf : Type := Nat → (Nat → Int32) → (Nat → Int64) → va_E
def wsOf (N : Nat) (cell : Cf) (q : Nat → Nat) (S : St) : va_W := (List.range N).map (fun k => (q k, cell k (S.1 k) (S.2 k)))
abbrev tyz (T : Nat → ClassId) : List (ClassId × FieldType) := [(T 0, .int), (T 1, .long), (T 2, .byte), (T 3, .boolean)]
theorem wsOf_at {N : Nat} {cell : Cf} {q : Nat → Nat} {S : St} {k : Nat} (hk : k < N) : (wsOf N cell q S)[k]? = some (q k, cell k (S.1 k) (S.2 k)) := by
  simp [wsOf, hk]
theorem wsOf_len {N : Nat} {cell : Cf} {q : Nat → Nat} {S : St} : (wsOf N cell q S).length = N := by simp [wsOf]
theorem wsOf_set {N : Nat} {cell : Cf} {q : Nat → Nat} {S S' : St} {k : Nat} {e : va_E} (he : cell k (S'.1 k) (S'.2 k) = e) (h1 : ∀ j, j ≠ k → S'.1 j = S.1 j) (h2 : ∀ j, j ≠ k → S'.2 j = S.2 j) : (wsOf N cell q S).set k (q k, e) = wsOf N cell q S' := by
  subst he
  apply List.ext_getElem?
  intro j
  rw [List.getElem?_set, wsOf_len]
  by_cases hj : k = j
  · subst hj
    by_cases hk : k < N
    · rw [if_pos rfl, if_pos hk, wsOf_at hk]
    · rw [if_pos rfl, if_neg hk, List.getElem?_eq_none (by rw [wsOf_len]; omega)]
  · rw [if_neg hj]
    by_cases hk : j < N
    · rw [wsOf_at hk, wsOf_at hk, h1 j (Ne.symm hj), h2 j (Ne.symm hj)]
    · rw [List.getElem?_eq_none (by rw [wsOf_len]; omega), List.getElem?_eq_none (by rw [wsOf_len]; omega)]
theorem upI_1 {S : St} {k j : Nat} {v : Int32} : (upI S k j v).1 k = upd (S.1 k) j v := by simp [upI, va_up]
theorem upI_o {S : St} {k j : Nat} {v : Int32} : ∀ i, i ≠ k → (upI S k j v).1 i = S.1 i := fun i h => by simp [upI, va_up, h]
theorem upL_2 {S : St} {k j : Nat} {v : Int64} : (upL S k j v).2 k = vp_updL (S.2 k) j v := by simp [upL, va_up]
theorem upL_o {S : St} {k j : Nat} {v : Int64} : ∀ i, i ≠ k → (upL S k j v).2 i = S.2 i := fun i h => by simp [upL, va_up, h]
theorem wsOf_D {N : Nat} {cell : Cf} {q : Nat → Nat} {S S' : St} {A B : Nat → Prop} (h : va_D A (wsOf N cell q S)) (hB : ∀ k, k < N → B (q k)) : va_D B (wsOf N cell q S') := by
  have hlt : ∀ {S : St} {i : Nat} {x : Nat × va_E}, (wsOf N cell q S)[i]? = some x → i < N := fun h => by
    have := (List.getElem?_eq_some_iff.mp h).1
    rwa [wsOf_len] at this
  refine ⟨fun i j x y hi hj e => ?_, fun k x hk => ?_⟩
  · have li := hlt hi
    have lj := hlt hj
    rw [wsOf_at li] at hi
    rw [wsOf_at lj] at hj
    cases hi
    cases hj
    exact h.1 i j _ _ (wsOf_at li) (wsOf_at lj) e
  · have lk := hlt hk
    rw [wsOf_at lk] at hk
    cases hk
    exact hB k lk
theorem wsOf_A {N : Nat} {cell : Cf} {q : Nat → Nat} {S : St} {A : Nat → Prop} (h : va_D A (wsOf N cell q S)) {k : Nat} (hk : k < N) : A (q k) := h.2 k _ (wsOf_at hk)
/-- what stands outside of the world and is only read: texts, statics, links of nest mates -/
def XE (Ex : (Nat → Prop) → State → Heap → Prop) : Prop :=
  (∀ (A : Nat → Prop) (u U : State) (H : Heap), u.WarmedH U.vm → Ex A u H → Ex A U H) ∧ (∀ (A : Nat → Prop) (U : State) (H H1 : Heap), (∀ a : Nat, a < H.size → ¬ A a → H1[a]? = H[a]?) → Ex A U H → Ex A U H1) ∧ ∀ (A B : Nat → Prop) (U : State) (H : Heap), (∀ q, B q → A q) → Ex A U H → Ex B U H
def Xw (D : va_G) (N : Nat) (cell : Cf) (q : Nat → Nat) (T : Nat → ClassId) (Ex : (Nat → Prop) → State → Heap → Prop) (A : Nat → Prop) (s : State) (S : St) (H : Heap) (locs : List Loc) : Prop :=
  va_K D vwCl (tyz T) s ∧ va_P D vwCl (wsOf N cell q S) H ∧ va_D A (wsOf N cell q S) ∧ va_S A s.heap H locs ∧ Ex A s s.heap
def XB (p : Program) (s : State) (m : MethodId) (args : Array Value) (meth : Method) (c : Code) (A : Nat → Prop) (cc : ByteArray) (nL : Nat) (ret : Option FieldType) (own : String) : Prop :=
  p.tables.exec = Jvm.exec ∧ c.code = cc ∧ meth.sig.returnType = ret ∧ c.maxLocals = nL ∧ s.vm.findClass own = some m.cls ∧ (∀ w ∈ UU, w.before args s = true) ∧ meth.locks = false ∧ (∀ q : Nat, s.heap.size ≤ q → A q)
def XPre (D : va_G) (N : Nat) (cell : Cf) (q : Nat → Nat) (T : Nat → ClassId) (Ex : (Nat → Prop) → State → Heap → Prop) (S : St) (sz : Nat) (U : State) : Prop :=
  U.heap.size = sz ∧ va_P D vwCl (wsOf N cell q S) U.heap ∧ va_K D vwCl (tyz T) U ∧ va_D (fun _ => True) (wsOf N cell q S) ∧ Ex (va_A (wsOf N cell q S) sz) U U.heap
def XQ (D : va_G) (N : Nat) (cell : Cf) (q : Nat → Nat) (T : Nat → ClassId) (S' : St) (rv : Option Value) (A : Nat → Prop) : Array Value → State → Outcome → State → Prop := fun _ st oc t =>
  (oc = .returned rv ∧ va_P D vwCl (wsOf N cell q S') t.heap ∧ va_K D vwCl (tyz T) t) ∧ va_F A st t
def XMet (l : Launch) (D : va_G) (N : Nat) (cell : Cf) (q : Nat → Nat) (T : Nat → ClassId) (Ex : (Nat → Prop) → State → Heap → Prop) (y : MethodName) (b : ByteArray) (n : Nat) (ret : Option FieldType) (rm : Room) (av : List Value) (S : St) (rv : Option Value) (S' : St) : Prop :=
  ∀ sz : Nat, Met l y (wsY y b n ret) rm (va_Pc av (XPre D N cell q T Ex S sz)) (XQ D N cell q T S' rv (va_A (wsOf N cell q S) sz)) 0 0 (va_A (wsOf N cell q S) sz)
/-- the goal at a place of a body -/
abbrev XG (p : Program) (l : Launch) (e : Env) (rm : Room) (s : State) (m : MethodId) (args : Array Value) (below : List Frame) (meth : Method) (c : Code) (D : va_G) (N : Nat) (cell : Cf) (q : Nat → Nat) (T : Nat → ClassId) (A : Nat → Prop) (S' : St) (rv : Option Value) (H : Heap) (locs : List Loc) (pc : Nat) (ls : Array Slot) (st : List Value) : Prop :=
  W p l e rm s m args below meth c H locs 0 0 (MQ below (XQ D N cell q T S' rv A) args s 0 0 A) (F0 m pc ls st)
/-- pure words: what the rows of a body read -/
def x_ld {α β : Type} (f : Nat → α) (n : Nat) (i : Int32) (k : α → Option β) : Option β := if i < 0 ∨ n ≤ i.toNatClampNeg then none else k (f i.toNatClampNeg)
def x_gd {β : Type} (n : Nat) (i : Int32) (k : Option β) : Option β := if i < 0 ∨ n ≤ i.toNatClampNeg then none else k
def x_nz {α β : Type} (c : Prop) (d : Decidable c) (k : Option β) : Option β := @ite _ c d none k
def x_lt {α β : Type} (a : α) (k : α → Option β) : Option β := k a
def x_bd {α β γ : Type} (o : Option (α × β)) (k : α → β → Option γ) : Option γ := match o with
  | none => none
  | some z => k z.1 z.2
def x_bv {β γ : Type} (o : Option β) (k : β → Option γ) : Option γ := match o with
  | none => none
  | some z => k z
theorem x_ld_some {α β : Type} {f : Nat → α} {n : Nat} {i : Int32} {k : α → Option β} {r : β} (h : x_ld f n i k = some r) : vp_in i n ∧ k (f i.toNatClampNeg) = some r := by
  unfold x_ld at h
  by_cases hc : i < 0 ∨ n ≤ i.toNatClampNeg
  · rw [if_pos hc] at h; cases h
  · rw [if_neg hc] at h; exact ⟨hc, h⟩
theorem x_gd_some {β : Type} {n : Nat} {i : Int32} {k : Option β} {r : β} (h : x_gd n i k = some r) : vp_in i n ∧ k = some r := by
  unfold x_gd at h
  by_cases hc : i < 0 ∨ n ≤ i.toNatClampNeg
  · rw [if_pos hc] at h; cases h
  · rw [if_neg hc] at h; exact ⟨hc, h⟩
theorem x_ng {β : Type} {c : Prop} {d : Decidable c} {k : Option β} {r : β} (h : @ite _ c d none k = some r) : ¬ c ∧ k = some r := by
  by_cases hc : c
  · rw [if_pos hc] at h; cases h
  · rw [if_neg hc] at h; exact ⟨hc, h⟩
theorem x_bd_some {α β γ : Type} {o : Option (α × β)} {k : α → β → Option γ} {r : γ} (h : x_bd o k = some r) : ∃ v S, o = some (v, S) ∧ k v S = some r := by
  cases o with
  | none => cases h
  | some z => exact ⟨z.1, z.2, rfl, h⟩
theorem x_bv_some {β γ : Type} {o : Option β} {k : β → Option γ} {r : γ} (h : x_bv o k = some r) : ∃ S, o = some S ∧ k S = some r := by
  cases o with
  | none => cases h
  | some z => exact ⟨z, rfl, h⟩
theorem x_pos {γ : Type} {c : Prop} {d : Decidable c} {a b r : γ} (hc : c) (h : @ite _ c d a b = r) : a = r := by rwa [if_pos hc] at h
theorem x_neg {γ : Type} {c : Prop} {d : Decidable c} {a b r : γ} (hc : ¬ c) (h : @ite _ c d a b = r) : b = r := by rwa [if_neg hc] at h
def x_nr {β : Type} (v : Int32) (k : Option β) : Option β := if v &&& 1 = v then k else none
theorem x_nr_some {β : Type} {v : Int32} {k : Option β} {r : β} (h : x_nr v k = some r) : narrow .boolean (.int v) = .int v ∧ k = some r := by
  unfold x_nr at h
  by_cases hc : v &&& 1 = v
  · rw [if_pos hc] at h; exact ⟨by show Value.int (v &&& 1) = .int v; rw [hc], h⟩
  · rw [if_neg hc] at h; cases h
theorem xi_1 {x : Int32} : x + Int32.ofInt 1 = x + 1 := by rw [show Int32.ofInt 1 = 1 from by decide]
theorem xi_m1 {x : Int32} : x + Int32.ofInt (-1) = x + (-1) := by rw [show Int32.ofInt (-1) = -1 from by decide]
theorem xi_6 {x : Int32} : x + Int32.ofInt 6 = x + 6 := by rw [show Int32.ofInt 6 = 6 from by decide]
def x_ush (x y : Int32) : Int32 := (x.toUInt32 >>> (y.toUInt32 &&& Int32.toUInt32 31)).toInt32
def x_lushr (x : Int64) (y : Int32) : Int64 := (x.toUInt64 >>> (y.toInt64.toUInt64 &&& Int64.toUInt64 63)).toInt64
def x_lshr (x : Int64) (y : Int32) : Int64 := x >>> (y.toInt64 &&& 63)
def x_lshl (x : Int64) (y : Int32) : Int64 := x <<< (y.toInt64 &&& 63)
def x_i2b (x : Int32) : Int32 := x.toInt8.toInt32
theorem x_ne {x k : Int32} {z : Int} (h : ¬ x = k) (hk : k.toInt = z) : ¬ x.toInt = z := fun e => h (Int32.toInt_inj.mp (e.trans hk.symm))
section XROWS
variable {p : Program} {l : Launch} {e : Env} {R : Room} {s : State} {m : MethodId} {args : Array Value} {below : List Frame} {meth : Method} {c : Code} {H : Heap} {locs : List Loc} {cells slots : Nat} {Q : State → Prop}
variable {cc : ByteArray} {nL pc : Nat} {ls : Array Slot} {rest : List Value} {D : va_G} {N : Nat} {cell : Cf} {q : Nat → Nat} {T : Nat → ClassId} {Ex : (Nat → Prop) → State → Heap → Prop} {A : Nat → Prop} {S S' : St} {ret : Option FieldType} {own : String}
theorem x_get (B : XB p s m args meth c A cc nL ret own) (hw : Xw D N cell q T Ex A s S H locs) {ref C : String} {Tb : u_T} {n ci index : Nat} (hin : ∀ w ∈ u_ws C Tb n, w ∈ UU) (k : Nat) (hk : k < N) {fs : List Value} (he : cell k (S.1 k) (S.2 k) = .inr (ci, fs)) (hc : vwCl[ci]? = some (C, Tb, n)) (j : Nat) (hj : j < n) (hlink : Cond.fieldLink own index ref (Tb j).2.1 (Tb j).2.2.1 ∈ UU) (hsame : ∀ x, s.fieldFound? (Tb j).1 (Tb j).2.1 (Tb j).2.2.1 = some x → s.fieldFound? ref (Tb j).2.1 (Tb j).2.2.1 = some x) {v : Value} (hv : fs[j]? = some v) (hdg : decode cc pc = .ok (.getfield index, 3))
    (kk : W p l e R s m args below meth c H locs cells slots Q (F0 m (pc + 3) ls (v :: rest))) : W p l e R s m args below meth c H locs cells slots Q (F0 m pc ls (.ref (q k) :: rest)) := by
  obtain ⟨hx, hb, -, -, hown, hts, -, -⟩ := B
  obtain ⟨hK, hP, -, -, -⟩ := hw
  exact va_get hx hb hts hin hown hK hP k (by rw [wsOf_at hk, he]) hc j hj (hts _ hlink) hsame hv hdg kk
theorem x_put (B : XB p s m args meth c A cc nL ret own) (hw : Xw D N cell q T Ex A s S H locs) {ref C : String} {Tb : u_T} {n ci index : Nat} (hin : ∀ w ∈ u_ws C Tb n, w ∈ UU) (ty0 : Nat → FieldType) (hty : ∀ k, k < n → parseFieldDescriptor (Tb k).2.2.1 = some (ty0 k)) (hnm : ∀ a, a < n → ∀ b, b < n → a ≠ b → (Tb a).2.1 ≠ (Tb b).2.1) (k : Nat) (hk : k < N) {fs : List Value} (he : cell k (S.1 k) (S.2 k) = .inr (ci, fs)) (hc : vwCl[ci]? = some (C, Tb, n)) (j : Nat) (hj : j < n) (hlink : Cond.fieldLink own index ref (Tb j).2.1 (Tb j).2.2.1 ∈ UU) (hsame : ∀ x, s.fieldFound? (Tb j).1 (Tb j).2.1 (Tb j).2.2.1 = some x → s.fieldFound? ref (Tb j).2.1 (Tb j).2.2.1 = some x) (hfin : (Tb j).2.2.2 = false) {ty : FieldType} {v : Value} (hd : parseFieldDescriptor (Tb j).2.2.1 = some ty) (hn : narrow ty v = v) (hfit : fits ty v = true) (hl : j < fs.length) {S1 : St} (he1 : cell k (S1.1 k) (S1.2 k) = .inr (ci, fs.set j v)) (h1 : ∀ i, i ≠ k → S1.1 i = S.1 i) (h2 : ∀ i, i ≠ k → S1.2 i = S.2 i) (hdg : decode cc pc = .ok (.putfield index, 3))
    {β : Type} {kf : St → Option β} {r : β} (hf : x_lt S1 kf = some r) (kk : ∀ (S2 : St) (H1 : Heap) (locs1 : List Loc), Xw D N cell q T Ex A s S2 H1 locs1 → kf S2 = some r → W p l e R s m args below meth c H1 locs1 cells slots Q (F0 m (pc + 3) ls rest)) : W p l e R s m args below meth c H locs cells slots Q (F0 m pc ls (v :: .ref (q k) :: rest)) := by
  obtain ⟨hx, hb, -, -, hown, hts, -, -⟩ := B
  obtain ⟨hK, hP, hD, hS, hE⟩ := hw
  refine va_put hx hb hts hin ty0 hty hnm hown hK hP hD hS k (by rw [wsOf_at hk, he]) hc j hj (hts _ hlink) hsame hfin hd hn hfit hl hdg fun H1 locs1 hP1 hD1 hS1 => ?_
  rw [wsOf_set he1 h1 h2] at hP1 hD1
  exact kk S1 H1 locs1 ⟨hK, hP1, hD1, hS1, hE⟩ hf
theorem x_iald (B : XB p s m args meth c A cc nL ret own) (hw : Xw D N cell q T Ex A s S H locs) (k : Nat) (hk : k < N) {n : Nat} (he : cell k (S.1 k) (S.2 k) = .inl (T 0, n, .inl (S.1 k))) {i : Int32} (hdg : decode cc pc = .ok (.iaload, 1))
    {β : Type} {kf : Int32 → Option β} {r : β} (hf : x_ld (S.1 k) n i kf = some r) (kk : ∀ v : Int32, kf v = some r → W p l e R s m args below meth c H locs cells slots Q (F0 m (pc + 1) ls (.int v :: rest))) : W p l e R s m args below meth c H locs cells slots Q (F0 m pc ls (.int i :: .ref (q k) :: rest)) := by
  obtain ⟨hx, hb, -⟩ := B
  obtain ⟨hK, hP, -⟩ := hw
  obtain ⟨hin, hf⟩ := x_ld_some hf
  exact va_iald hx hb hK hP k 0 (by rw [wsOf_at hk, he]) rfl hin hdg (kk _ hf)
theorem x_bald (B : XB p s m args meth c A cc nL ret own) (hw : Xw D N cell q T Ex A s S H locs) (k : Nat) (hk : k < N) {n : Nat} (he : cell k (S.1 k) (S.2 k) = .inl (T 2, n, .inl (S.1 k))) {i : Int32} (hdg : decode cc pc = .ok (.baload, 1))
    {β : Type} {kf : Int32 → Option β} {r : β} (hf : x_ld (S.1 k) n i kf = some r) (kk : ∀ v : Int32, kf v = some r → W p l e R s m args below meth c H locs cells slots Q (F0 m (pc + 1) ls (.int v :: rest))) : W p l e R s m args below meth c H locs cells slots Q (F0 m pc ls (.int i :: .ref (q k) :: rest)) := by
  obtain ⟨hx, hb, -⟩ := B
  obtain ⟨hK, hP, -⟩ := hw
  obtain ⟨hin, hf⟩ := x_ld_some hf
  exact va_bald hx hb hK hP k 2 (by rw [wsOf_at hk, he]) rfl hin hdg (kk _ hf)
theorem x_zald (B : XB p s m args meth c A cc nL ret own) (hw : Xw D N cell q T Ex A s S H locs) (k : Nat) (hk : k < N) {n : Nat} (he : cell k (S.1 k) (S.2 k) = .inl (T 3, n, .inl (S.1 k))) {i : Int32} (hdg : decode cc pc = .ok (.baload, 1))
    {β : Type} {kf : Int32 → Option β} {r : β} (hf : x_ld (S.1 k) n i kf = some r) (kk : ∀ v : Int32, kf v = some r → W p l e R s m args below meth c H locs cells slots Q (F0 m (pc + 1) ls (.int v :: rest))) : W p l e R s m args below meth c H locs cells slots Q (F0 m pc ls (.int i :: .ref (q k) :: rest)) := by
  obtain ⟨hx, hb, -⟩ := B
  obtain ⟨hK, hP, -⟩ := hw
  obtain ⟨hin, hf⟩ := x_ld_some hf
  exact va_zald hx hb hK hP k 3 (by rw [wsOf_at hk, he]) rfl hin hdg (kk _ hf)
theorem x_lald (B : XB p s m args meth c A cc nL ret own) (hw : Xw D N cell q T Ex A s S H locs) (k : Nat) (hk : k < N) {n : Nat} (he : cell k (S.1 k) (S.2 k) = .inl (T 1, n, .inr (.inl (S.2 k)))) {i : Int32} (hdg : decode cc pc = .ok (.laload, 1))
    {β : Type} {kf : Int64 → Option β} {r : β} (hf : x_ld (S.2 k) n i kf = some r) (kk : ∀ v : Int64, kf v = some r → W p l e R s m args below meth c H locs cells slots Q (F0 m (pc + 1) ls (.long v :: rest))) : W p l e R s m args below meth c H locs cells slots Q (F0 m pc ls (.int i :: .ref (q k) :: rest)) := by
  obtain ⟨hx, hb, -⟩ := B
  obtain ⟨hK, hP, -⟩ := hw
  obtain ⟨hin, hf⟩ := x_ld_some hf
  exact va_lald hx hb hK hP k 1 (by rw [wsOf_at hk, he]) rfl hin hdg (kk _ hf)
theorem x_iast (B : XB p s m args meth c A cc nL ret own) (hw : Xw D N cell q T Ex A s S H locs) (k : Nat) (hk : k < N) {n : Nat} (he : ∀ f g, cell k f g = .inl (T 0, n, .inl f)) {i x : Int32} (hdg : decode cc pc = .ok (.iastore, 1))
    {β : Type} {kf : St → Option β} {r : β} (hf : x_gd n i (x_lt (upI S k i.toNatClampNeg x) kf) = some r) (kk : ∀ (S2 : St) (H1 : Heap) (locs1 : List Loc), Xw D N cell q T Ex A s S2 H1 locs1 → kf S2 = some r → W p l e R s m args below meth c H1 locs1 cells slots Q (F0 m (pc + 1) ls rest)) : W p l e R s m args below meth c H locs cells slots Q (F0 m pc ls (.int x :: .int i :: .ref (q k) :: rest)) := by
  obtain ⟨hx, hb, -⟩ := B
  obtain ⟨hK, hP, hD, hS, hE⟩ := hw
  obtain ⟨hin, hf⟩ := x_gd_some hf
  refine va_iast hx hb hK hP hD hS k 0 (by rw [wsOf_at hk, he]) rfl hin hdg fun H1 locs1 hP1 hD1 hS1 => ?_
  rw [wsOf_set (S := S) (S' := upI S k i.toNatClampNeg x) (by rw [he, upI_1]) upI_o (fun _ _ => rfl)] at hP1 hD1
  exact kk _ H1 locs1 ⟨hK, hP1, hD1, hS1, hE⟩ hf
theorem x_bast (B : XB p s m args meth c A cc nL ret own) (hw : Xw D N cell q T Ex A s S H locs) (k : Nat) (hk : k < N) {n : Nat} (he : ∀ f g, cell k f g = .inl (T 2, n, .inl f)) {i x : Int32} (hdg : decode cc pc = .ok (.bastore, 1))
    {β : Type} {kf : St → Option β} {r : β} (hf : x_gd n i (x_lt (upI S k i.toNatClampNeg (vp_nar .byte x)) kf) = some r) (kk : ∀ (S2 : St) (H1 : Heap) (locs1 : List Loc), Xw D N cell q T Ex A s S2 H1 locs1 → kf S2 = some r → W p l e R s m args below meth c H1 locs1 cells slots Q (F0 m (pc + 1) ls rest)) : W p l e R s m args below meth c H locs cells slots Q (F0 m pc ls (.int x :: .int i :: .ref (q k) :: rest)) := by
  obtain ⟨hx, hb, -⟩ := B
  obtain ⟨hK, hP, hD, hS, hE⟩ := hw
  obtain ⟨hin, hf⟩ := x_gd_some hf
  refine va_bast hx hb hK hP hD hS k 2 (by rw [wsOf_at hk, he]) rfl hin hdg fun H1 locs1 hP1 hD1 hS1 => ?_
  rw [wsOf_set (S := S) (S' := upI S k i.toNatClampNeg (vp_nar .byte x)) (by rw [he, upI_1]) upI_o (fun _ _ => rfl)] at hP1 hD1
  exact kk _ H1 locs1 ⟨hK, hP1, hD1, hS1, hE⟩ hf
theorem x_zast (B : XB p s m args meth c A cc nL ret own) (hw : Xw D N cell q T Ex A s S H locs) (k : Nat) (hk : k < N) {n : Nat} (he : ∀ f g, cell k f g = .inl (T 3, n, .inl f)) {i x : Int32} (hdg : decode cc pc = .ok (.bastore, 1))
    {β : Type} {kf : St → Option β} {r : β} (hf : x_gd n i (x_lt (upI S k i.toNatClampNeg (vp_nar .boolean x)) kf) = some r) (kk : ∀ (S2 : St) (H1 : Heap) (locs1 : List Loc), Xw D N cell q T Ex A s S2 H1 locs1 → kf S2 = some r → W p l e R s m args below meth c H1 locs1 cells slots Q (F0 m (pc + 1) ls rest)) : W p l e R s m args below meth c H locs cells slots Q (F0 m pc ls (.int x :: .int i :: .ref (q k) :: rest)) := by
  obtain ⟨hx, hb, -⟩ := B
  obtain ⟨hK, hP, hD, hS, hE⟩ := hw
  obtain ⟨hin, hf⟩ := x_gd_some hf
  refine va_zast hx hb hK hP hD hS k 3 (by rw [wsOf_at hk, he]) rfl hin hdg fun H1 locs1 hP1 hD1 hS1 => ?_
  rw [wsOf_set (S := S) (S' := upI S k i.toNatClampNeg (vp_nar .boolean x)) (by rw [he, upI_1]) upI_o (fun _ _ => rfl)] at hP1 hD1
  exact kk _ H1 locs1 ⟨hK, hP1, hD1, hS1, hE⟩ hf
theorem x_last (B : XB p s m args meth c A cc nL ret own) (hw : Xw D N cell q T Ex A s S H locs) (k : Nat) (hk : k < N) {n : Nat} (he : ∀ f g, cell k f g = .inl (T 1, n, .inr (.inl g))) {i : Int32} {x : Int64} (hdg : decode cc pc = .ok (.lastore, 1))
    {β : Type} {kf : St → Option β} {r : β} (hf : x_gd n i (x_lt (upL S k i.toNatClampNeg x) kf) = some r) (kk : ∀ (S2 : St) (H1 : Heap) (locs1 : List Loc), Xw D N cell q T Ex A s S2 H1 locs1 → kf S2 = some r → W p l e R s m args below meth c H1 locs1 cells slots Q (F0 m (pc + 1) ls rest)) : W p l e R s m args below meth c H locs cells slots Q (F0 m pc ls (.long x :: .int i :: .ref (q k) :: rest)) := by
  obtain ⟨hx, hb, -⟩ := B
  obtain ⟨hK, hP, hD, hS, hE⟩ := hw
  obtain ⟨hin, hf⟩ := x_gd_some hf
  refine va_last hx hb hK hP hD hS k 1 (by rw [wsOf_at hk, he]) rfl hin hdg fun H1 locs1 hP1 hD1 hS1 => ?_
  rw [wsOf_set (S := S) (S' := upL S k i.toNatClampNeg x) (by rw [he, upL_2]) (fun _ _ => rfl) upL_o] at hP1 hD1
  exact kk _ H1 locs1 ⟨hK, hP1, hD1, hS1, hE⟩ hf
theorem x_alen (B : XB p s m args meth c A cc nL ret own) (hw : Xw D N cell q T Ex A s S H locs) (k : Nat) (hk : k < N) (t0 : Nat) {ty : FieldType} (ht : (tyz T)[t0]? = some (T t0, ty)) {x : vp_A} (he : cell k (S.1 k) (S.2 k) = .inl (T t0, x)) {v : Int32} (hv : Int32.ofNat x.1 = v) (hdg : decode cc pc = .ok (.arraylength, 1))
    (kk : W p l e R s m args below meth c H locs cells slots Q (F0 m (pc + 1) ls (.int v :: rest))) : W p l e R s m args below meth c H locs cells slots Q (F0 m pc ls (.ref (q k) :: rest)) := by
  obtain ⟨hx, hb, -⟩ := B
  obtain ⟨hK, hP, -⟩ := hw
  exact va_alen hx hb hK hP k t0 (by rw [wsOf_at hk, he]) ht hv hdg kk
theorem x_let {α β : Type} {a : α} {kf : α → Option β} {r : β} {F : α → Prop} (hf : x_lt a kf = some r) (kk : ∀ v : α, kf v = some r → F v) : F a := kk a hf
theorem x_leti {x : Int32} {β : Type} {kf : Int32 → Option β} {r : β} (hf : x_lt x kf = some r) (kk : ∀ v : Int32, kf v = some r → W p l e R s m args below meth c H locs cells slots Q (F0 m pc ls (.int v :: rest))) : W p l e R s m args below meth c H locs cells slots Q (F0 m pc ls (.int x :: rest)) := kk x hf
theorem x_letl {x : Int64} {β : Type} {kf : Int64 → Option β} {r : β} (hf : x_lt x kf = some r) (kk : ∀ v : Int64, kf v = some r → W p l e R s m args below meth c H locs cells slots Q (F0 m pc ls (.long v :: rest))) : W p l e R s m args below meth c H locs cells slots Q (F0 m pc ls (.long x :: rest)) := kk x hf
/-! calls -/
theorem x_blind (hE : XE Ex) {av : List Value} {sz : Nat} : FrameBlind (va_Pc av (XPre D N cell q T Ex S sz)) := fun a U g mk h => by
  obtain ⟨rfl, h1, h2, h3, h4, h5⟩ := h
  exact ⟨rfl, h1, h2, va_K.moved (u := U) (U := U.calling g mk av.toArray) (Vm.Alike.refl U.vm) h3, h4, hE.1 _ U _ _ (State.WarmedH.refl U) h5⟩
theorem x_pre (hE : XE Ex) (hw : Xw D N cell q T Ex A s S H locs) (hA : ∀ q : Nat, s.heap.size ≤ q → A q) {av : List Value} : ∀ U : State, U.heap = H → s.WarmedH U.vm → va_Pc av (XPre D N cell q T Ex S H.size) av.toArray U := by
  obtain ⟨hK, hP, hD, hS, hX⟩ := hw
  intro U hU hW
  subst hU
  refine ⟨rfl, rfl, hP, va_K.moved hW.alike hK, wsOf_D hD (fun _ _ => trivial), ?_⟩
  refine hE.2.2 A _ _ _ (fun a h => ?_) (hE.2.1 A _ s.heap U.heap hS.2.1 (hE.1 A s U _ hW hX))
  rcases h with ⟨k, x, hk⟩ | h
  · exact hD.2 k _ hk
  · exact hA a (Nat.le_trans hS.1 h)
theorem x_back {rv : Option Value} {st0 : List Value} {a : Array Value} (hr : va_Run p l e R s m args below meth c H locs 0 0 0 0 (F0 m pc ls st0) rest (XQ D N cell q T S' rv (va_A (wsOf N cell q S) H.size) a) (va_A (wsOf N cell q S) H.size)) (hw : Xw D N cell q T Ex A s S H locs) (hA : ∀ q : Nat, s.heap.size ≤ q → A q)
    (kk : ∀ (H1 : Heap) (locs1 : List Loc), Xw D N cell q T Ex A s S' H1 locs1 → W p l e R s m args below meth c H1 locs1 0 0 Q (F0 m (pc + 3) ls (rv.toList ++ rest))) : W p l e R s m args below meth c H locs 0 0 Q (F0 m pc ls st0) := by
  obtain ⟨hK, hP, hD, hS, hX⟩ := hw
  have hAA : ∀ x, va_A (wsOf N cell q S) H.size x → A x := fun x h => by
    rcases h with ⟨k, x, hk⟩ | h
    · exact hD.2 k _ hk
    · exact hA x (Nat.le_trans hS.1 h)
  intro T0 hT X
  obtain ⟨v, st₀, t, T', L, h0, X', hL, e1, e2, ⟨⟨hv, hb1, hb2⟩, hz, hk⟩, st⟩ := hr T0 hT X
  cases hv
  rw [h0] at hz hk
  obtain ⟨t2, a1, b1⟩ := kk T'.heap (locs ++ L) ⟨hK, by rw [e1]; exact hb1, wsOf_D hD (fun k hk => wsOf_A hD hk), ⟨Nat.le_trans hS.1 (by rw [e1]; exact hz), fun x h1 h2 => by
      rw [e1, hk x (Nat.lt_of_lt_of_le h1 hS.1) (fun z => h2 (hAA x z))]
      exact hS.2.1 x h1 h2, fun x hx => by
      rcases List.mem_append.mp hx with h | h
      · exact hS.2.2 x h
      · exact hAA _ (hL x h)⟩, hX⟩ T' rfl X'
  exact ⟨t2, st t2 a1, b1⟩
theorem x_callV (B : XB p s m args meth c A cc nL ret own) (hE : XE Ex) (hw : Xw D N cell q T Ex A s S H locs) {y : MethodName} {bytes : ByteArray} {n maxL index : Nat} {rt : Option FieldType} {rm : Room} {rv : Option Value} {As st1 : List Value} (k : Nat) (hk : k < N) {ci : Nat} {fs : List Value} {r0 : vw_C} (he : cell k (S.1 k) (S.2 k) = .inr (ci, fs)) (hc : vwCl[ci]? = some r0) (hM : XMet l D N cell q T Ex y bytes maxL rt rm (.ref (q k) :: As) S rv S') (h1 : Cond.methodLink own index y ∈ UU) (h2 : Cond.instanceMethod y ∈ UU) (h3 : Cond.selects r0.1 y y ∈ UU) (h4 : Cond.initialized r0.1 ∈ UU) (h5 : Cond.code y bytes maxL rt ∈ UU)
    (hd : y.cls = r0.1 ∧ y.cls ≠ "java/lang/invoke/MethodHandle" ∧ y.cls ≠ "java/lang/invoke/VarHandle" ∧ (parseMethodDescriptor y.desc).map (fun d => d.parameters.length) = some n) (hn : As.length = n) (hR : rm.frames + 1 ≤ R.frames ∧ 8 + (maxL + 11) + rm.locals ≤ R.locals) (hrm : rm.cells = 0 ∧ rm.slots = 0) (hls : ls.size = nL) (hW : (rest.map fun v => v.category).sum ≤ 8) (hdg : decode cc pc = .ok (.invokevirtual index, 3))
    (kk : ∀ (H1 : Heap) (locs1 : List Loc), Xw D N cell q T Ex A s S' H1 locs1 → W p l e R s m args below meth c H1 locs1 0 0 Q (F0 m (pc + 3) ls st1)) {st0 : List Value} (hst : st0 = As.reverse ++ .ref (q k) :: rest) (hst1 : rv.toList ++ rest = st1) : W p l e R s m args below meth c H locs 0 0 Q (F0 m pc ls st0) := by
  subst hst1
  obtain ⟨hx, hb, -, hml, hown, hts, -, hA⟩ := B
  have hG : GoodIn UU (wsV own index r0.1 y (wsY y bytes maxL rt)) := fun w h => by
    unfold wsV at h
    rcases List.mem_append.mp h with h | h
    · have : w ∈ UU := by
        simp only [List.mem_cons, List.not_mem_nil, or_false] at h
        rcases h with rfl | rfl | rfl | rfl <;> assumption
      exact ⟨this, good_of_word (UU_good _ this)⟩
    · exact goodY h5 w h
  exact x_back (va_runV ⟨hx, hb, hml, hown, hts⟩ (hM H.size) (cwV n hts hG rfl hrm.1 hrm.2 hd hR) ⟨x_blind hE, va_recv hw.1 hw.2.1 hc (q0 := k) (by rw [wsOf_at hk, he]), x_pre hE hw hA⟩ rfl hn hls hst (lv_room hW) hdg ⟨Nat.zero_le _, Nat.zero_le _⟩) hw hA kk
theorem x_callS (B : XB p s m args meth c A cc nL ret own) (hE : XE Ex) (hw : Xw D N cell q T Ex A s S H locs) {y : MethodName} {bytes : ByteArray} {n maxL index : Nat} {rt : Option FieldType} {rm : Room} {rv : Option Value} {As st1 : List Value} (hM : XMet l D N cell q T Ex y bytes maxL rt rm As S rv S') (h1 : Cond.methodLink own index y ∈ UU) (h2 : Cond.static y ∈ UU) (h4 : Cond.initialized y.cls ∈ UU) (h5 : Cond.code y bytes maxL rt ∈ UU)
    (hd : y.cls ≠ "java/lang/invoke/MethodHandle" ∧ y.cls ≠ "java/lang/invoke/VarHandle" ∧ (parseMethodDescriptor y.desc).map (fun d => d.parameters.length) = some n) (hn : As.length = n) (hR : rm.frames + 1 ≤ R.frames ∧ 8 + (maxL + 11) + rm.locals ≤ R.locals) (hrm : rm.cells = 0 ∧ rm.slots = 0) (hls : ls.size = nL) (hW : (rest.map fun v => v.category).sum ≤ 8) (hdg : decode cc pc = .ok (.invokestatic index, 3))
    (kk : ∀ (H1 : Heap) (locs1 : List Loc), Xw D N cell q T Ex A s S' H1 locs1 → W p l e R s m args below meth c H1 locs1 0 0 Q (F0 m (pc + 3) ls st1)) {st0 : List Value} (hst : st0 = As.reverse ++ rest) (hst1 : rv.toList ++ rest = st1) : W p l e R s m args below meth c H locs 0 0 Q (F0 m pc ls st0) := by
  subst hst1
  obtain ⟨hx, hb, -, hml, hown, hts, -, hA⟩ := B
  have hG : GoodIn UU (va_wsS own index y (wsY y bytes maxL rt)) := fun w h => by
    unfold va_wsS at h
    rcases List.mem_append.mp h with h | h
    · have : w ∈ UU := by
        simp only [List.mem_cons, List.not_mem_nil, or_false] at h
        rcases h with rfl | rfl | rfl <;> assumption
      exact ⟨this, good_of_word (UU_good _ this)⟩
    · exact goodY h5 w h
  exact x_back (va_runS ⟨hx, hb, hml, hown, hts⟩ (hM H.size) (va_cwS n hts hG rfl hrm.1 hrm.2 hd hR) ⟨x_blind hE, x_pre hE hw hA⟩ rfl hn hls hst (lv_room hW) hdg ⟨Nat.zero_le _, Nat.zero_le _⟩) hw hA kk
theorem x_callSN (B : XB p s m args meth c A cc nL ret own) (hE : XE Ex) (hw : Xw D N cell q T Ex A s S H locs) {y : MethodName} {bytes : ByteArray} {n maxL index : Nat} {host : String} {rt : Option FieldType} {rm : Room} {rv : Option Value} {As st1 : List Value} (hM : XMet l D N cell q T Ex y bytes maxL rt rm As S rv S') (h1 : va_Nw (.methodLinkNest own index y host) s) (h2 : Cond.static y ∈ UU) (h4 : Cond.initialized y.cls ∈ UU) (h5 : Cond.code y bytes maxL rt ∈ UU)
    (hd : y.cls ≠ "java/lang/invoke/MethodHandle" ∧ y.cls ≠ "java/lang/invoke/VarHandle" ∧ (parseMethodDescriptor y.desc).map (fun d => d.parameters.length) = some n) (hn : As.length = n) (hR : rm.frames + 1 ≤ R.frames ∧ 8 + (maxL + 11) + rm.locals ≤ R.locals) (hrm : rm.cells = 0 ∧ rm.slots = 0) (hls : ls.size = nL) (hW : (rest.map fun v => v.category).sum ≤ 8) (hdg : decode cc pc = .ok (.invokestatic index, 3))
    (kk : ∀ (H1 : Heap) (locs1 : List Loc), Xw D N cell q T Ex A s S' H1 locs1 → W p l e R s m args below meth c H1 locs1 0 0 Q (F0 m (pc + 3) ls st1)) {st0 : List Value} (hst : st0 = As.reverse ++ rest) (hst1 : rv.toList ++ rest = st1) : W p l e R s m args below meth c H locs 0 0 Q (F0 m pc ls st0) := by
  subst hst1
  obtain ⟨hx, hb, -, hml, hown, hts, -, hA⟩ := B
  exact x_back (va_runSN ⟨hx, hb, hml, hown, hts⟩ (hM H.size) ⟨va_cnB n hts (goodY h5) rfl hrm.1 hrm.2 h1 (hts _ h4) hd hR, hts _ h2, trivial⟩ ⟨x_blind hE, x_pre hE hw hA⟩ rfl hn hls hst (lv_room hW) hdg ⟨Nat.zero_le _, Nat.zero_le _⟩) hw hA kk
theorem x_callStr {N0 : Nat} {len : List Nat} {byt : List (List Int32)} {aK aV : Nat → Nat} (B : XB p s m args meth c A cc nL ret own) (hE : XE Ex) (hV : vk_S N0 len byt aK aV A s s.heap) {i : Nat} (hi : i < N0) (hw : Xw D N cell q T Ex A s S H locs) {y : MethodName} {bytes : ByteArray} {n maxL index : Nat} {rt : Option FieldType} {rm : Room} {rv : Option Value} {As st1 : List Value} (hM : XMet l D N cell q T Ex y bytes maxL rt rm (.ref (aK i) :: As) S rv S') (h1 : Cond.methodLink own index y ∈ UU) (h2 : Cond.instanceMethod y ∈ UU) (h3 : Cond.selects "java/lang/String" y y ∈ UU) (h4 : Cond.initialized "java/lang/String" ∈ UU) (h5 : Cond.code y bytes maxL rt ∈ UU)
    (hd : y.cls = "java/lang/String" ∧ (parseMethodDescriptor y.desc).map (fun d => d.parameters.length) = some n) (hn : As.length = n) (hR : rm.frames + 1 ≤ R.frames ∧ 8 + (maxL + 11) + rm.locals ≤ R.locals) (hrm : rm.cells = 0 ∧ rm.slots = 0) (hls : ls.size = nL) (hW : (rest.map fun v => v.category).sum ≤ 8) (hdg : decode cc pc = .ok (.invokevirtual index, 3))
    (kk : ∀ (H1 : Heap) (locs1 : List Loc), Xw D N cell q T Ex A s S' H1 locs1 → W p l e R s m args below meth c H1 locs1 0 0 Q (F0 m (pc + 3) ls st1)) {st0 : List Value} (hst : st0 = As.reverse ++ .ref (aK i) :: rest) (hst1 : rv.toList ++ rest = st1) : W p l e R s m args below meth c H locs 0 0 Q (F0 m pc ls st0) := by
  subst hst1
  obtain ⟨hx, hb, -, hml, hown, hts, -, hA⟩ := B
  have hG : GoodIn UU (wsV own index "java/lang/String" y (wsY y bytes maxL rt)) := fun w h => by
    unfold wsV at h
    rcases List.mem_append.mp h with h | h
    · have : w ∈ UU := by
        simp only [List.mem_cons, List.not_mem_nil, or_false] at h
        rcases h with rfl | rfl | rfl | rfl <;> assumption
      exact ⟨this, good_of_word (UU_good _ this)⟩
    · exact goodY h5 w h
  exact x_back (va_runV ⟨hx, hb, hml, hown, hts⟩ (hM H.size) (cwV n hts hG rfl hrm.1 hrm.2 ⟨hd.1, by rw [hd.1]; decide, by rw [hd.1]; decide, hd.2⟩ hR) ⟨x_blind hE, vk_recv hV hi hw.2.2.2.1, x_pre hE hw hA⟩ rfl hn hls hst (lv_room hW) hdg ⟨Nat.zero_le _, Nat.zero_le _⟩) hw hA kk
/-! a method's entry and its ends -/
theorem x_enter {y : MethodName} {rm : Room} {av : List Value} {rv : Option Value} (hy : plainName y.cls = true) (hown : y.cls = own) (hlen : (lg_sl av).length ≤ nL)
    (body : ∀ (p : Program) (e : Env) (s : State) (m : MethodId) (below : List Frame) (meth : Method) (c : Code) (A : Nat → Prop), XB p s m av.toArray meth c A cc nL ret own → ∀ (ls : Array Slot), Xw D N cell q T Ex A s S s.heap [] → lv_has ls nL (lv_args 0 av) → XG p l e rm s m av.toArray below meth c D N cell q T A S' rv s.heap [] 0 ls []) :
    XMet l D N cell q T Ex y cc nL ret rm av S rv S' := by
  subst hown
  intro sz
  refine Met.ofW (cc := cc) (maxL := nL) (ret := ret) hy rfl ?_
  intro p e s m args below meth c s₁ B hml hv
  obtain ⟨rfl, hsz, hP, hK, hD0, hX⟩ := hv
  have hts := atoms_spec (ws := wsY y cc nL ret) B.pre
  subst hsz
  have hD : va_D (va_A (wsOf N cell q S) s.heap.size) (wsOf N cell q S) := hD0.self
  have hA : ∀ x : Nat, s.heap.size ≤ x → va_A (wsOf N cell q S) s.heap.size x := fun x h => Or.inr h
  have hl := lv_entry av (n := nL) hlen
  rw [lg_entry_eq]
  exact body p e s m below meth c _ ⟨B.exec, B.bytes, B.returns, hml, findClass_of_methodNamed B.named, fun w h => hts w (List.mem_cons_of_mem _ h), B.notSynchronized, hA⟩ _ ⟨hK, hP, hD, va_S.rf, hX⟩ hl
theorem x_iret (B : XB p s m args meth c A cc nL (some .int) own) (hw : Xw D N cell q T Ex A s S H locs) {v r : Int32} (hf : some (v, S) = some (r, S')) (hdg : decode cc pc = .ok (.ireturn, 1)) : XG p l e R s m args below meth c D N cell q T A S' (some (.int r)) H locs pc ls [.int v] := by
  cases hf
  obtain ⟨hx, hb, hr, -, -, -, hlocks, -⟩ := B
  obtain ⟨hK, hP, -, hS, -⟩ := hw
  exact W.iret (v := v) hx hb hr (fun t ht hW => ⟨⟨rfl, by rw [ht]; exact hP, va_K.moved hW.alike hK⟩, hS.F ht⟩) hS.2.2 hdg hlocks
theorem x_lret (B : XB p s m args meth c A cc nL (some .long) own) (hw : Xw D N cell q T Ex A s S H locs) {v r : Int64} (hf : some (v, S) = some (r, S')) (hdg : decode cc pc = .ok (.lreturn, 1)) : XG p l e R s m args below meth c D N cell q T A S' (some (.long r)) H locs pc ls [.long v] := by
  cases hf
  obtain ⟨hx, hb, hr, -, -, -, hlocks, -⟩ := B
  obtain ⟨hK, hP, -, hS, -⟩ := hw
  exact W.lret (v := v) hx hb hr (fun t ht hW => ⟨⟨rfl, by rw [ht]; exact hP, va_K.moved hW.alike hK⟩, hS.F ht⟩) hS.2.2 hdg hlocks
theorem x_vret (B : XB p s m args meth c A cc nL none own) (hw : Xw D N cell q T Ex A s S H locs) (hf : some S = some S') (hdg : decode cc pc = .ok (.return_, 1)) : XG p l e R s m args below meth c D N cell q T A S' none H locs pc ls [] := by
  cases hf
  obtain ⟨hx, hb, hr, -, -, -, hlocks, -⟩ := B
  obtain ⟨hK, hP, -, hS, -⟩ := hw
  exact W.vret hx hb hr (fun t ht hW => ⟨⟨rfl, by rw [ht]; exact hP, va_K.moved hW.alike hK⟩, hS.F ht⟩) hS.2.2 hdg hlocks
theorem x_zret (B : XB p s m args meth c A cc nL (some .boolean) own) (hw : Xw D N cell q T Ex A s S H locs) {v r : Int32} (hf : x_nr v (some (v, S)) = some (r, S')) (hdg : decode cc pc = .ok (.ireturn, 1)) : XG p l e R s m args below meth c D N cell q T A S' (some (.int r)) H locs pc ls [.int v] := by
  obtain ⟨hn, hf⟩ := x_nr_some hf
  cases hf
  obtain ⟨hx, hb, hr, -, -, -, hlocks, -⟩ := B
  obtain ⟨hK, hP, -, hS, -⟩ := hw
  exact W.zret (v := v) hx hb hr hn (fun t ht hW => ⟨⟨rfl, by rw [ht]; exact hP, va_K.moved hW.alike hK⟩, hS.F ht⟩) hS.2.2 hdg hlocks
theorem x_aret {rt : FieldType} (hrt : ∃ n, rt = .object n) (B : XB p s m args meth c A cc nL (some rt) own) (hw : Xw D N cell q T Ex A s S H locs) {v r : Nat} (hf : some (v, S) = some (r, S')) (hdg : decode cc pc = .ok (.areturn, 1)) : XG p l e R s m args below meth c D N cell q T A S' (some (.ref (q r))) H locs pc ls [.ref (q v)] := by
  cases hf
  obtain ⟨hx, hb, hr, -, -, -, hlocks, -⟩ := B
  obtain ⟨hK, hP, -, hS, -⟩ := hw
  exact W.aret (v := .ref (q v)) hx hb hr (Or.inl hrt) (Or.inr ⟨_, rfl⟩) (fun t ht hW => ⟨⟨rfl, by rw [ht]; exact hP, va_K.moved hW.alike hK⟩, hS.F ht⟩) hS.2.2 hdg hlocks
end XROWS
