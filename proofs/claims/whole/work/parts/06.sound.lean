/-! ===== contracts over my machine ===== -/
def aRm (D : Nat) : Room := { frames := D, cells := 0, slots := 0, locals := 100 * D }
def aPre (G : aG) (sz : Nat) (args : List AV) (m : AM) : Array Value → State → Prop :=
  va_Pc (args.map (atr G.1)) (fun U => U.heap.size = sz ∧ va_P G.2.1 vwCl (wd G.1 G.2.2 m) U.heap ∧ va_K G.2.1 vwCl (atys G.2.2) U ∧ va_D (fun _ => True) (wd G.1 G.2.2 m) ∧ ∀ w ∈ aNW, va_Nw w U)
def aPost (G : aG) (sz : Nat) (m : AM) (Q : APost) : Array Value → State → Outcome → State → Prop := fun _ st oc t =>
  (∃ (r : Option Int32) (u : AM), oc = .returned (r.map Value.int) ∧ Q r u ∧ va_P G.2.1 vwCl (wd G.1 G.2.2 u) t.heap) ∧ va_F (va_A (wd G.1 G.2.2 m) sz) st t
/-- the contract: method y, called with args over the memory m, returns r and leaves u with Q r u, within the room of depth D -/
def AC (D y : Nat) (args : List AV) (m : AM) (Q : APost) : Prop := ∀ (l : Launch) (G : aG) (sz : Nat),
  Met l (mNm y) (wsY y) (aRm D) (aPre G sz args m) (aPost G sz m Q) 0 0 (va_A (wd G.1 G.2.2 m) sz)
def aCC (D : Nat) : Nat → List AV → AM → APost → Prop := fun y args m Q => ∃ d, d < D ∧ AC d y args m Q
/-- what a walk stands on -/
def AOk (D y : Nat) (Q : APost) (p : Program) (l : Launch) (e : Env) (R : Room) (s : State) (mm : MethodId) (args : Array Value) (below : List Frame) (meth : Method) (c : Code) (cells slots : Nat) (Qm : State → Prop) (A : Nat → Prop) (G : aG) : Prop :=
  p.tables.exec = Jvm.exec ∧ c.code = mCode y ∧ c.maxLocals = mMax y ∧ s.vm.findClass (cNm (mOwn y)) = some mm.cls ∧ (∀ w ∈ aGW, w.before args s = true) ∧ (∀ w ∈ aNW, va_Nw w s) ∧ va_K G.2.1 vwCl (atys G.2.2) s ∧ (∀ q, s.heap.size ≤ q → A q) ∧ (D ≤ R.frames ∧ 100 * D ≤ R.locals ∧ cells ≤ R.cells ∧ slots ≤ R.slots) ∧
  (∀ (r : Option Int32) (m : AM) (H : Heap) (locs : List Loc) (pc : Nat) (lsA : Array Slot), Q r m → va_P G.2.1 vwCl (wd G.1 G.2.2 m) H → va_S A s.heap H locs → (match r with
    | some x => decode (mCode y) pc = .ok (.ireturn, 1) ∧ (mRet y = some .int ∨ (mRet y = some .boolean ∧ (x = 0 ∨ x = 1)))
    | none => decode (mCode y) pc = .ok (.return_, 1) ∧ mRet y = none) → W p l e R s mm args below meth c H locs cells slots Qm (F0 mm pc lsA (r.toList.map Value.int)))
def AAt (y : Nat) (p : Program) (l : Launch) (e : Env) (R : Room) (s : State) (mm : MethodId) (args : Array Value) (below : List Frame) (meth : Method) (c : Code) (cells slots : Nat) (Qm : State → Prop) (A : Nat → Prop) (G : aG) (pc : Nat) (ls : AL) (st : List AV) (m : AM) : Prop :=
  ∀ (H : Heap) (locs : List Loc) (lsA : Array Slot), va_P G.2.1 vwCl (wd G.1 G.2.2 m) H → va_D A (wd G.1 G.2.2 m) → va_S A s.heap H locs → alh G.1 lsA (mMax y) ls → W p l e R s mm args below meth c H locs cells slots Qm (F0 mm pc lsA (st.map (atr G.1)))
/-- the judgement: from place pc of method y, locals ls, operands st, memory m, the method comes to its end with Q -/
def AW (D y : Nat) (Q : APost) (pc : Nat) (ls : AL) (st : List AV) (m : AM) : Prop :=
  ∀ (p : Program) (l : Launch) (e : Env) (R : Room) (s : State) (mm : MethodId) (args : Array Value) (below : List Frame) (meth : Method) (c : Code) (cells slots : Nat) (Qm : State → Prop) (A : Nat → Prop) (G : aG),
    AOk D y Q p l e R s mm args below meth c cells slots Qm A G → AAt y p l e R s mm args below meth c cells slots Qm A G pc ls st m
/-! ===== a link that stands in the tables ===== -/
theorem aFT_link {o n a b : Nat} {f : Bool} (h : (o, n, a, b, f) ∈ aFT) : ∃ (C : String) (T : u_T) (N : Nat), vwCl[a]? = some (C, T, N) ∧ b < N ∧ (T b).1 = C ∧ ((f = false ∧ Cond.fieldLink (cNm o) n C (T b).2.1 (T b).2.2.1 ∈ aGW) ∨ (f = true ∧ Cond.fieldLinkNest (cNm o) n C (T b).2.1 (T b).2.2.1 RX5 ∈ aNW)) := by
  have h1 := List.all_eq_true.mp aFT_side _ h
  obtain ⟨i, hi⟩ := pos_mem aFT_pos h
  revert h1 hi
  unfold needF
  dsimp only
  cases hv : vwCl[a]? with
  | none => intro h1; cases h1
  | some q =>
    obtain ⟨C, T, N⟩ := q
    intro h1 hi
    simp only [Bool.and_eq_true, decide_eq_true_eq] at h1
    refine ⟨C, T, N, rfl, h1.1, h1.2, ?_⟩
    cases f with
    | false => exact Or.inl ⟨rfl, aGW_of hi rfl⟩
    | true => exact Or.inr ⟨rfl, aNW_of hi rfl⟩
theorem aMC_code {y : Nat} (h : y < mT.length) : Cond.code (mNm y) (mCode y) (mMax y) (mRet y) ∈ aGW := by
  have hm : mI y ∈ mT := by
    unfold mI
    rw [List.getD_eq_getElem?_getD, List.getElem?_eq_getElem h]
    exact List.getElem_mem h
  obtain ⟨i, hi⟩ := pos_mem (f := fun q => Cond.code q.1 q.2.1 q.2.2.1 q.2.2.2.1) aMC_pos hm
  exact aGW_of hi rfl
set_option maxRecDepth 100000 in
theorem aMT_lt : aMT.all (fun q => decide (q.2.2.1 < mT.length)) = true := by decide +kernel
theorem aMT_link {o n y kd : Nat} (h : (o, n, y, kd) ∈ aMT) : Cond.code (mNm y) (mCode y) (mMax y) (mRet y) ∈ aGW ∧ Cond.initialized (mNm y).cls ∈ aGW ∧ ((mNm y).cls = cNm (mOwn y) ∧ (mNm y).cls ≠ "java/lang/invoke/MethodHandle" ∧ (mNm y).cls ≠ "java/lang/invoke/VarHandle" ∧ mMax y ≤ 60 ∧ (mOwn y < 7 ∨ kd ≠ 0)) ∧
    ((kd = 0 ∧ Cond.methodLink (cNm o) n (mNm y) ∈ aGW ∧ Cond.instanceMethod (mNm y) ∈ aGW ∧ Cond.selects (mNm y).cls (mNm y) (mNm y) ∈ aGW) ∨ (kd = 1 ∧ Cond.methodLink (cNm o) n (mNm y) ∈ aGW ∧ Cond.static (mNm y) ∈ aGW) ∨ (kd ≠ 0 ∧ kd ≠ 1 ∧ Cond.methodLinkNest (cNm o) n (mNm y) RX5 ∈ aNW ∧ Cond.static (mNm y) ∈ aGW)) := by
  have h1 := List.all_eq_true.mp aMT_side _ h
  have h2 := List.all_eq_true.mp aMT_lt _ h
  simp only [Bool.and_eq_true, Bool.or_eq_true, decide_eq_true_eq, bne_iff_ne] at h1 h2
  have g : ∀ x ∈ needM (o, n, y, kd), ∃ i : Nat, lw_tbl[i]? = some x := fun x hx => pos_mem2 aMT_pos h hx
  obtain ⟨⟨⟨⟨a1, a2⟩, a3⟩, a4⟩, a5⟩ := h1
  have hini : Cond.initialized (mNm y).cls ∈ aGW := by
    match kd with
    | 0 => obtain ⟨i, hi⟩ := g (.initialized (mNm y).cls) (by simp [needM]); exact aGW_of hi rfl
    | 1 => obtain ⟨i, hi⟩ := g (.initialized (mNm y).cls) (by simp [needM]); exact aGW_of hi rfl
    | k + 2 => obtain ⟨i, hi⟩ := g (.initialized (mNm y).cls) (by simp [needM]); exact aGW_of hi rfl
  refine ⟨aMC_code h2, hini, ⟨a1, a2, a3, a4, a5⟩, ?_⟩
  match kd, g with
  | 0, g =>
    obtain ⟨i, hi⟩ := g (.methodLink (cNm o) n (mNm y)) (by simp [needM])
    obtain ⟨j, hj⟩ := g (.instanceMethod (mNm y)) (by simp [needM])
    obtain ⟨k, hk⟩ := g (.selects (mNm y).cls (mNm y) (mNm y)) (by simp [needM])
    exact Or.inl ⟨rfl, aGW_of hi rfl, aGW_of hj rfl, aGW_of hk rfl⟩
  | 1, g =>
    obtain ⟨i, hi⟩ := g (.methodLink (cNm o) n (mNm y)) (by simp [needM])
    obtain ⟨j, hj⟩ := g (.static (mNm y)) (by simp [needM])
    exact Or.inr (Or.inl ⟨rfl, aGW_of hi rfl, aGW_of hj rfl⟩)
  | k + 2, g =>
    obtain ⟨i, hi⟩ := g (.methodLinkNest (cNm o) n (mNm y) RX5) (by simp [needM])
    obtain ⟨j, hj⟩ := g (.static (mNm y)) (by simp [needM])
    exact Or.inr (Or.inr ⟨by omega, by omega, aNW_of hi rfl, aGW_of hj rfl⟩)
/-! ===== the call ===== -/
theorem aPre_blind (G : aG) (sz : Nat) (args : List AV) (m : AM) : FrameBlind (aPre G sz args m) := by
  intro a U g mk q
  obtain ⟨q0, q1, qP, qK, qD, qN⟩ := q
  exact ⟨q0, q1, qP, va_K.moved (u := U) (U := U.calling g mk a) (Vm.Alike.refl U.vm) qK, qD, fun w hw => aNW_same (s := U) (U := U.calling g mk a) hw rfl (qN w hw)⟩
section CALL
variable {p : Program} {l : Launch} {e : Env} {R : Room} {s : State} {mm : MethodId} {args : Array Value} {below : List Frame} {meth : Method} {c : Code} {H : Heap} {locs : List Loc} {cells slots : Nat} {Qm : State → Prop}
theorem a_call {G : aG} {m : AM} {Q : APost} {A : Nat → Prop} {pc : Nat} {ls : Array Slot} {st0 rest : List Value} {a : Array Value} (hr : va_Run p l e R s mm args below meth c H locs cells slots 0 0 (F0 mm pc ls st0) rest (aPost G H.size m Q a) (va_A (wd G.1 G.2.2 m) H.size)) (hS : va_S A s.heap H locs) (hf : ∀ q, va_A (wd G.1 G.2.2 m) H.size q → A q)
    (kk : ∀ (r : Option Int32) (u : AM) (H1 : Heap) (locs1 : List Loc), Q r u → va_P G.2.1 vwCl (wd G.1 G.2.2 u) H1 → va_S A s.heap H1 locs1 → W p l e R s mm args below meth c H1 locs1 cells slots Qm (F0 mm (pc + 3) ls ((r.map Value.int).toList ++ rest))) : W p l e R s mm args below meth c H locs cells slots Qm (F0 mm pc ls st0) := by
  intro T hT X
  obtain ⟨v, st₀, t, T', L, h0, X', hL, e1, e2, ⟨⟨r, u, hv, hq, hb⟩, hz, hk⟩, st⟩ := hr T hT X
  cases hv
  rw [h0] at hz hk
  obtain ⟨t2, a1, b1⟩ := kk r u T'.heap (locs ++ L) hq (by rw [e1]; exact hb)
    ⟨Nat.le_trans hS.1 (by rw [e1]; exact hz), fun q h1 h2 => by rw [e1, hk q (Nat.lt_of_lt_of_le h1 hS.1) (fun z => h2 (hf q z))]; exact hS.2.1 q h1 h2, fun q hq => by
      rcases List.mem_append.mp hq with h | h
      · exact hS.2.2 q h
      · exact hf _ (hL q h)⟩ T' rfl X'
  exact ⟨t2, st t2 a1, b1⟩
end CALL
