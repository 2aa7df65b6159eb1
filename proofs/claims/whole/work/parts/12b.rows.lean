/-! THE LAW: two worlds beside each other -/
def AL (s : State) : Nat → Prop := fun x => s.heap.size ≤ x
/-- what stays through the whole law -/
def LC (p : Program) (s : State) (m : MethodId) (meth : Method) (c : Code) (b L : Nat) (xs : Nat → Int32) (D : va_G) (T : Nat → ClassId) (q q' : Nat → Nat) (aK aV : Nat → Nat) : Prop :=
  XB p s m #[Value.ref b] meth c (AL s) cL_law 4 ret RL ∧ va_X b L xs s s.heap ∧ b < s.heap.size ∧ L ≤ 384 ∧ (∀ i j, i < 40 → j < 17 → q i ≠ q' j) ∧ va_K D vwCl (tyz T) s ∧ ExC aK aV (AL s) s s.heap
/-- the two worlds -/
def LWS (s : State) (D : va_G) (T : Nat → ClassId) (q q' : Nat → Nat) (S M : St) (H : Heap) (locs : List Loc) : Prop :=
  va_P D vwCl (wsOf 40 (cellC T q) q S) H ∧ va_P D vwCl (wsOf 17 (cellM T q') q' M) H ∧ va_D (AL s) (wsOf 40 (cellC T q) q S) ∧ va_D (AL s) (wsOf 17 (cellM T q') q' M) ∧ va_S (AL s) s.heap H locs
section LROWS
variable {p : Program} {l : Launch} {e : Env} {R : Room} {s : State} {m : MethodId} {below : List Frame} {meth : Method} {c : Code} {H : Heap} {locs : List Loc} {cells slots : Nat} {Q : State → Prop}
variable {pc : Nat} {ls : Array Slot} {rest : List Value} {D : va_G} {T : Nat → ClassId} {q q' : Nat → Nat} {aK aV : Nat → Nat} {S M S' M' : St} {b L : Nat} {xs : Nat → Int32}
theorem y_apart {N N2 : Nat} {cell cell2 : Cf} {q q2 : Nat → Nat} {S M : St} {H H1 : Heap} {D : va_G} (hne : ∀ i j, i < N → j < N2 → q i ≠ q2 j) (hP : va_P D vwCl (wsOf N2 cell2 q2 M) H) (hk : ∀ x : Nat, x < H.size → ¬ va_A (wsOf N cell q S) H.size x → H1[x]? = H[x]?) : va_P D vwCl (wsOf N2 cell2 q2 M) H1 := by
  refine hP.kept (fun k x hx => ?_)
  have hlt := (hP k x hx).lt
  refine hk x.1 hlt (fun z => ?_)
  have hk2 : k < N2 := by
    have := (List.getElem?_eq_some_iff.mp hx).1
    rwa [wsOf_len] at this
  rw [wsOf_at hk2] at hx
  cases hx
  rcases z with ⟨i, y, hi⟩ | z
  · have hi2 : i < N := by
      have := (List.getElem?_eq_some_iff.mp hi).1
      rwa [wsOf_len] at this
    rw [wsOf_at hi2] at hi
    injection hi with hi
    exact hne i k hi2 hk2 (congrArg Prod.fst hi)
  · exact absurd hlt (Nat.not_lt.mpr z)
theorem y_back {N N2 : Nat} {cell cell2 : Cf} {q q2 : Nat → Nat} {S S' M : St} {rv : Option Value} {st0 : List Value} {a : Array Value} (hne : ∀ i j, i < N → j < N2 → q i ≠ q2 j)
    (hr : va_Run p l e R s m #[Value.ref b] below meth c H locs cells slots 0 0 (F0 m pc ls st0) rest (XQ D N cell q T S' rv (va_A (wsOf N cell q S) H.size) a) (va_A (wsOf N cell q S) H.size)) (hP2 : va_P D vwCl (wsOf N2 cell2 q2 M) H) (hD : va_D (AL s) (wsOf N cell q S)) (hS : va_S (AL s) s.heap H locs)
    (kk : ∀ (H1 : Heap) (locs1 : List Loc), va_P D vwCl (wsOf N cell q S') H1 → va_P D vwCl (wsOf N2 cell2 q2 M) H1 → va_D (AL s) (wsOf N cell q S') → va_S (AL s) s.heap H1 locs1 → W p l e R s m #[Value.ref b] below meth c H1 locs1 cells slots Q (F0 m (pc + 3) ls (rv.toList ++ rest))) : W p l e R s m #[Value.ref b] below meth c H locs cells slots Q (F0 m pc ls st0) := by
  have hAA : ∀ x, va_A (wsOf N cell q S) H.size x → AL s x := fun x h => by
    rcases h with ⟨k, x, hk⟩ | h
    · exact hD.2 k _ hk
    · exact Nat.le_trans hS.1 h
  intro T0 hT X
  obtain ⟨v, st₀, t, T', L, h0, X', hL, e1, e2, ⟨⟨hv, hb1, hb2⟩, hz, hk⟩, st⟩ := hr T0 hT X
  cases hv
  rw [h0] at hz hk
  have hP2' : va_P D vwCl (wsOf N2 cell2 q2 M) T'.heap := by
    rw [e1]
    exact y_apart hne hP2 hk
  obtain ⟨t2, a1, b1⟩ := kk T'.heap (locs ++ L) (by rw [e1]; exact hb1) hP2' (wsOf_D hD (fun k hk => wsOf_A hD hk)) ⟨Nat.le_trans hS.1 (by rw [e1]; exact hz), fun x h1 h2 => by
      rw [e1, hk x (Nat.lt_of_lt_of_le h1 hS.1) (fun z => h2 (hAA x z))]
      exact hS.2.1 x h1 h2, fun x hx => by
      rcases List.mem_append.mp hx with h | h
      · exact hS.2.2 x h
      · exact hAA _ (hL x h)⟩ T' rfl X'
  exact ⟨t2, st t2 a1, b1⟩
theorem y_good {own C : String} {y : MethodName} {bytes : ByteArray} {maxL index : Nat} {rt : Option FieldType} (h1 : Cond.methodLink own index y ∈ UU) (h2 : Cond.instanceMethod y ∈ UU) (h3 : Cond.selects C y y ∈ UU) (h4 : Cond.initialized C ∈ UU) (h5 : Cond.code y bytes maxL rt ∈ UU) : GoodIn UU (wsV own index C y (wsY y bytes maxL rt)) := fun w h => by
  unfold wsV at h
  rcases List.mem_append.mp h with h | h
  · have : w ∈ UU := by
      simp only [List.mem_cons, List.not_mem_nil, or_false] at h
      rcases h with rfl | rfl | rfl | rfl <;> assumption
    exact ⟨this, good_of_word (UU_good _ this)⟩
  · exact goodY h5 w h
/-- a call of the class -/
theorem y_callC (C : LC p s m meth c b L xs D T q q' aK aV) (W0 : LWS s D T q q' S M H locs) {y : MethodName} {bytes : ByteArray} {n maxL index : Nat} {rt : Option FieldType} {rm : Room} {rv : Option Value} {As st1 : List Value} (hM : XMet l D 40 (cellC T q) q T (ExC aK aV) y bytes maxL rt rm (.ref (q 0) :: As) S rv S') (h1 : Cond.methodLink RL index y ∈ UU) (h2 : Cond.instanceMethod y ∈ UU) (h3 : Cond.selects RX6 y y ∈ UU) (h4 : Cond.initialized RX6 ∈ UU) (h5 : Cond.code y bytes maxL rt ∈ UU)
    (hd : y.cls = RX6 ∧ y.cls ≠ "java/lang/invoke/MethodHandle" ∧ y.cls ≠ "java/lang/invoke/VarHandle" ∧ (parseMethodDescriptor y.desc).map (fun d => d.parameters.length) = some n) (hn : As.length = n) (hR : rm.frames + 1 ≤ R.frames ∧ 8 + (maxL + 11) + rm.locals ≤ R.locals) (hrm : rm.cells = 0 ∧ rm.slots = 0) (hls : ls.size = 4) (hW : (rest.map fun v => v.category).sum ≤ 8) (hdg : decode cL_law pc = .ok (.invokevirtual index, 3)) (hcs : cells ≤ R.cells ∧ slots ≤ R.slots)
    (kk : ∀ (H1 : Heap) (locs1 : List Loc), LWS s D T q q' S' M H1 locs1 → W p l e R s m #[Value.ref b] below meth c H1 locs1 cells slots Q (F0 m (pc + 3) ls st1)) {st0 : List Value} (hst : st0 = As.reverse ++ .ref (q 0) :: rest) (hst1 : rv.toList ++ rest = st1) : W p l e R s m #[Value.ref b] below meth c H locs cells slots Q (F0 m pc ls st0) := by
  subst hst1
  obtain ⟨⟨hx, hb, -, hml, hown, hts, -, hA⟩, -, -, -, hne, hK, hE⟩ := C
  obtain ⟨hP1, hP2, hD1, hD2, hS⟩ := W0
  have hXw : Xw D 40 (cellC T q) q T (ExC aK aV) (AL s) s S H locs := ⟨hK, hP1, hD1, hS, hE⟩
  exact y_back hne (va_runV ⟨hx, hb, hml, hown, hts⟩ (hM H.size) (cwV n hts (y_good h1 h2 h3 h4 h5) rfl hrm.1 hrm.2 hd hR) ⟨x_blind ExC_ok, va_recv hK hP1 (ci := 6) (q0 := 0) rfl (by rw [wsOf_at (by decide)]; rfl), x_pre ExC_ok hXw hA⟩ rfl hn hls hst (lv_room hW) hdg hcs) hP2 hD1 hS (fun H1 locs1 g1 g2 g3 g4 => kk H1 locs1 ⟨g1, g2, g3, hD2, g4⟩)
/-- a call of the reference -/
theorem y_callM (C : LC p s m meth c b L xs D T q q' aK aV) (W0 : LWS s D T q q' S M H locs) {y : MethodName} {bytes : ByteArray} {n maxL index : Nat} {rt : Option FieldType} {rm : Room} {rv : Option Value} {As st1 : List Value} (hM : XMet l D 17 (cellM T q') q' T ExM y bytes maxL rt rm (.ref (q' 0) :: As) M rv M') (h1 : Cond.methodLink RL index y ∈ UU) (h2 : Cond.instanceMethod y ∈ UU) (h3 : Cond.selects RX7 y y ∈ UU) (h4 : Cond.initialized RX7 ∈ UU) (h5 : Cond.code y bytes maxL rt ∈ UU)
    (hd : y.cls = RX7 ∧ y.cls ≠ "java/lang/invoke/MethodHandle" ∧ y.cls ≠ "java/lang/invoke/VarHandle" ∧ (parseMethodDescriptor y.desc).map (fun d => d.parameters.length) = some n) (hn : As.length = n) (hR : rm.frames + 1 ≤ R.frames ∧ 8 + (maxL + 11) + rm.locals ≤ R.locals) (hrm : rm.cells = 0 ∧ rm.slots = 0) (hls : ls.size = 4) (hW : (rest.map fun v => v.category).sum ≤ 8) (hdg : decode cL_law pc = .ok (.invokevirtual index, 3)) (hcs : cells ≤ R.cells ∧ slots ≤ R.slots)
    (kk : ∀ (H1 : Heap) (locs1 : List Loc), LWS s D T q q' S M' H1 locs1 → W p l e R s m #[Value.ref b] below meth c H1 locs1 cells slots Q (F0 m (pc + 3) ls st1)) {st0 : List Value} (hst : st0 = As.reverse ++ .ref (q' 0) :: rest) (hst1 : rv.toList ++ rest = st1) : W p l e R s m #[Value.ref b] below meth c H locs cells slots Q (F0 m pc ls st0) := by
  subst hst1
  obtain ⟨⟨hx, hb, -, hml, hown, hts, -, hA⟩, -, -, -, hne, hK, hE⟩ := C
  obtain ⟨hP1, hP2, hD1, hD2, hS⟩ := W0
  have hXw : Xw D 17 (cellM T q') q' T ExM (AL s) s M H locs := ⟨hK, hP2, hD2, hS, trivial⟩
  exact y_back (fun i j hi hj z => hne j i hj hi z.symm) (va_runV ⟨hx, hb, hml, hown, hts⟩ (hM H.size) (cwV n hts (y_good h1 h2 h3 h4 h5) rfl hrm.1 hrm.2 hd hR) ⟨x_blind ExM_ok, va_recv hK hP2 (ci := 7) (q0 := 0) rfl (by rw [wsOf_at (by decide)]; rfl), x_pre ExM_ok hXw hA⟩ rfl hn hls hst (lv_room hW) hdg hcs) hP1 hD2 hS (fun H1 locs1 g1 g2 g3 g4 => kk H1 locs1 ⟨g2, g1, hD1, g3, g4⟩)
end LROWS
