/-! ===== constructors: rows over a world that grows ===== -/
theorem ra_uniq {s : State} {a b : ClassId} {ty : FieldType} (hty : ty = .int ∨ ty = .byte ∨ ty = .boolean) (h1 : va_RA s a ty) (h2 : va_RA s b ty) : a = b := by
  rcases hty with rfl | rfl | rfl
  · have e1 : s.vm.findClass ("[" ++ FieldType.int.toString) = some a := h1
    have e2 : s.vm.findClass ("[" ++ FieldType.int.toString) = some b := h2
    exact Option.some.inj (e1.symm.trans e2)
  · have e1 : s.vm.findClass ("[" ++ FieldType.byte.toString) = some a := h1
    have e2 : s.vm.findClass ("[" ++ FieldType.byte.toString) = some b := h2
    exact Option.some.inj (e1.symm.trans e2)
  · have e1 : s.vm.findClass ("[" ++ FieldType.boolean.toString) = some a := h1
    have e2 : s.vm.findClass ("[" ++ FieldType.boolean.toString) = some b := h2
    exact Option.some.inj (e1.symm.trans e2)
/-- the array classes, out of the tables -/
theorem ra_ex {s : State} {args : Array Value} {ty : FieldType} (hty : ty = .int ∨ ty = .byte ∨ ty = .boolean) (h : (Cond.arrayClass ty).before args s = true) : ∃ a : ClassId, ArrOfT s a ty ∧ va_RA s a ty := by
  obtain ⟨a, k, comp, h1, h2, h3⟩ := Cond.arrayClass_spec h
  refine ⟨a, fun n z => ⟨fun k h => (by cases h), k, h2, comp, h3⟩, ?_⟩
  rcases hty with rfl | rfl | rfl <;> exact h1
def kPre (D : va_G) (cA : Nat → ClassId) (sz : Nat) (av : List Value) (ws : va_W) : Array Value → State → Prop := va_Pc av (fun U => U.heap.size = sz ∧ va_P D vwCl ws U.heap ∧ va_K D vwCl (atys cA) U ∧ va_D (fun _ => True) ws ∧ ∀ w ∈ aNW, va_Nw w U)
def kPost {S : Type} (D : va_G) (A : Nat → Prop) (post : S → Prop) (Wf : S → va_W) : Array Value → State → Outcome → State → Prop := va_Qv post (fun u t => va_P D vwCl (Wf u) t.heap ∧ va_D A (Wf u)) A
theorem kPre_blind (D : va_G) (cA : Nat → ClassId) (sz : Nat) (av : List Value) (ws : va_W) : FrameBlind (kPre D cA sz av ws) := by
  intro a U g mk q
  obtain ⟨q0, q1, qP, qK, qD, qN⟩ := q
  exact ⟨q0, q1, qP, va_K.moved (u := U) (U := U.calling g mk a) (Vm.Alike.refl U.vm) qK, qD, fun w hw => aNW_same (s := U) (U := U.calling g mk a) hw rfl (qN w hw)⟩
section CROWS
variable {p : Program} {l : Launch} {e : Env} {R : Room} {s : State} {m : MethodId} {args : Array Value} {below : List Frame} {meth : Method} {c : Code} {H : Heap} {locs : List Loc} {cells slots : Nat} {Q : State → Prop}
variable {D : va_G} {cA : Nat → ClassId} {A : Nat → Prop} {ws : va_W} {pc : Nat} {ls : Array Slot} {rest : List Value} {cc : ByteArray}
theorem k_newa (hx : p.tables.exec = Jvm.exec) (hb : c.code = cc) (hts : ∀ w ∈ aGW, w.before args s = true) {t : Nat} {atype : ArrayType} {ty : FieldType} (hat : newarray.typeOf atype = ty) (harr : Cond.arrayClass ty ∈ aGW) (ht : (atys cA)[t]? = some (cA t, ty)) (h3 : ty = .int ∨ ty = .byte ∨ ty = .boolean) (hK : va_K D vwCl (atys cA) s) (hP : va_P D vwCl ws H) (hD : va_D A ws) (hS : va_S A s.heap H locs) (hA : ∀ q, s.heap.size ≤ q → A q)
    {n : Int32} {N' : Nat} (hn : ¬ n < 0) (hN : n.toNatClampNeg = N') (hN2 : N' ≤ 5000) (hcells : cells + 1 ≤ R.cells) (hslots : slots + N' ≤ R.slots) (hdg : decode cc pc = .ok (.newarray atype, 2))
    (kk : ∀ (q : Nat) (H1 : Heap), va_P D vwCl (ws ++ [(q, .inl (cA t, N', .inl (fun _ => 0)))]) H1 → va_D A (ws ++ [(q, .inl (cA t, N', .inl (fun _ => 0)))]) → va_S A s.heap H1 locs → W p l e R s m args below meth c H1 locs (cells + 1) (slots + N') Q (F0 m (pc + 2) ls (.ref q :: rest))) : W p l e R s m args below meth c H locs cells slots Q (F0 m pc ls (.int n :: rest)) := by
  have hdef : defaultValue ty = .int 0 := by rcases h3 with rfl | rfl | rfl <;> rfl
  have hcb : componentBytes ty ≤ 8 := by rcases h3 with rfl | rfl | rfl <;> decide
  refine va_newa (a0 := (N', .inl (fun _ => 0))) hx hb (by rw [hat]; exact hts _ harr) hat hK hP hD hS hA (fun cA => by rw [hdef]; rfl) hn hN ?_ hcells hslots hdg (fun q cA' H1 hK1 hP1 hD1 hS1 => ?_)
  · have := Nat.mul_le_mul hN2 hcb
    omega
  · have e1 := (hK1.2 3 (cA', ty) rfl).2
    have e2 := (hK.2 t (cA t, ty) ht).2
    have : cA' = cA t := ra_uniq h3 e1 e2
    subst this
    exact kk q H1 hP1 hD1 hS1
theorem k_put (fin : Bool) (hx : p.tables.exec = Jvm.exec) (hb : c.code = cc) (hts : ∀ w ∈ aGW, w.before args s = true) {C : String} {T : u_T} {N ci k idx a : Nat} (hown : s.vm.findClass C = some m.cls) (hin : meth.name = "<init>") (hK : va_K D vwCl (atys cA) s) (hP : va_P D vwCl ws H) (hD : va_D A ws) (hS : va_S A s.heap H locs) (hc : vwCl[ci]? = some (C, T, N)) (hk : k < N) (hlink : Cond.fieldLink C idx C (T k).2.1 (T k).2.2.1 ∈ aGW) (hT : (T k).1 = C) (hfin : (T k).2.2.2 = fin) {ty : FieldType} {v : Value} (hd : parseFieldDescriptor (T k).2.2.1 = some ty) (hn : narrow ty v = v) (hfit : fits ty v = true) (q0 : Nat) {fs : List Value} (he : ws[q0]? = some (a, .inr (ci, fs))) (hl : k < fs.length) (hdg : decode cc pc = .ok (.putfield idx, 3))
    (kk : ∀ (H1 : Heap) (locs1 : List Loc), va_P D vwCl (ws.set q0 (a, .inr (ci, fs.set k v))) H1 → va_D A (ws.set q0 (a, .inr (ci, fs.set k v))) → va_S A s.heap H1 locs1 → W p l e R s m args below meth c H1 locs1 cells slots Q (F0 m (pc + 3) ls rest)) : W p l e R s m args below meth c H locs cells slots Q (F0 m pc ls (v :: .ref a :: rest)) := by
  obtain ⟨ty0, t1, t2⟩ := aTy_ok _ (List.mem_of_getElem? hc)
  have hsame : ∀ x, s.fieldFound? (T k).1 (T k).2.1 (T k).2.2.1 = some x → s.fieldFound? C (T k).2.1 (T k).2.2.1 = some x := fun x h => by rw [hT] at h; exact h
  cases fin with
  | true => exact va_putF hx hb hts (aLay_ok _ (List.mem_of_getElem? hc)) ty0 t1 t2 hown hK hP hD hS q0 he hc k hk (hts _ hlink) hsame hfin hin hT hd hn hfit hl hdg kk
  | false => exact va_put hx hb hts (aLay_ok _ (List.mem_of_getElem? hc)) ty0 t1 t2 hown hK hP hD hS q0 he hc k hk (hts _ hlink) hsame hfin hd hn hfit hl hdg kk
/-- newarray and putfield into the object at the world's head -/
theorem k_na (hx : p.tables.exec = Jvm.exec) (hb : c.code = cc) (hts : ∀ w ∈ aGW, w.before args s = true) {C : String} {T : u_T} {N ci k idx h0 : Nat} (hown : s.vm.findClass C = some m.cls) (hin : meth.name = "<init>") (hK : va_K D vwCl (atys cA) s) {fs : List Value} (hP : va_P D vwCl ((h0, .inr (ci, fs)) :: ws) H) (hD : va_D A ((h0, .inr (ci, fs)) :: ws)) (hS : va_S A s.heap H locs) (hA : ∀ q, s.heap.size ≤ q → A q) (hc : vwCl[ci]? = some (C, T, N)) (hk : k < N) (hlink : Cond.fieldLink C idx C (T k).2.1 (T k).2.2.1 ∈ aGW) (hT : (T k).1 = C) (hfin : (T k).2.2.2 = true)
    {t : Nat} {atype : ArrayType} {ty : FieldType} (hat : newarray.typeOf atype = ty) (harr : Cond.arrayClass ty ∈ aGW) (ht : (atys cA)[t]? = some (cA t, ty)) (h3 : ty = .int ∨ ty = .byte ∨ ty = .boolean) (hd : parseFieldDescriptor (T k).2.2.1 = some (.array ty)) (hl : k < fs.length)
    {n : Int32} {N' : Nat} (hn : ¬ n < 0) (hN : n.toNatClampNeg = N') (hN2 : N' ≤ 5000) (hcells : cells + 1 ≤ R.cells) (hslots : slots + N' ≤ R.slots) (d1 : decode cc pc = .ok (.newarray atype, 2)) (d2 : decode cc (pc + 2) = .ok (.putfield idx, 3))
    (kk : ∀ (q : Nat) (H1 : Heap) (locs1 : List Loc), va_P D vwCl ((h0, .inr (ci, fs.set k (.ref q))) :: (ws ++ [(q, .inl (cA t, N', .inl (fun _ => 0)))])) H1 → va_D A ((h0, .inr (ci, fs.set k (.ref q))) :: (ws ++ [(q, .inl (cA t, N', .inl (fun _ => 0)))])) → va_S A s.heap H1 locs1 → W p l e R s m args below meth c H1 locs1 (cells + 1) (slots + N') Q (F0 m (pc + 2 + 3) ls rest)) : W p l e R s m args below meth c H locs cells slots Q (F0 m pc ls (.int n :: .ref h0 :: rest)) := by
  refine k_newa hx hb hts hat harr ht h3 hK hP hD hS hA hn hN hN2 hcells hslots d1 (fun q H1 hP1 hD1 hS1 => ?_)
  refine k_put true hx hb hts hown hin hK hP1 hD1 hS1 hc hk hlink hT hfin hd (by rcases h3 with rfl | rfl | rfl <;> rfl) (by rcases h3 with rfl | rfl | rfl <;> rfl) 0 (he := rfl) hl d2 (fun H2 locs2 hP2 hD2 hS2 => ?_)
  exact kk q H2 locs2 hP2 hD2 hS2
/-- Object.<init> -/
theorem k_obj (hx : p.tables.exec = Jvm.exec) (hb : c.code = cc) (hts : ∀ w ∈ aGW, w.before args s = true) {C : String} (hown : s.vm.findClass C = some m.cls) {idx h0 : Nat} (hlink : Cond.methodLink C idx objectInit ∈ aGW) (hsize : ls.size = c.maxLocals) (hfr : 1 ≤ R.frames) (hlo : 12 ≤ R.locals) (d : decode cc pc = .ok (.invokespecial idx, 3)) (kk : W p l e R s m args below meth c H locs cells slots Q (F0 m (pc + 3) ls [])) : W p l e R s m args below meth c H locs cells slots Q (F0 m pc ls [.ref h0]) :=
  W.objInit hx hb hown (hts _ hlink) (hts _ (cwk (n := 3) rfl)) (hts _ (cwk (n := 4) rfl)) rfl hsize rfl d hfr hlo kk
/-- a new object -/
theorem k_new (hx : p.tables.exec = Jvm.exec) (hb : c.code = cc) (hts : ∀ w ∈ aGW, w.before args s = true) {own C : String} {T : u_T} {N ci idx : Nat} (hown : s.vm.findClass own = some m.cls) (hK : va_K D vwCl (atys cA) s) (hP : va_P D vwCl ws H) (hD : va_D A ws) (hS : va_S A s.heap H locs) (hA : ∀ q, s.heap.size ≤ q → A q) (hc : vwCl[ci]? = some (C, T, N)) (ty : Nat → FieldType) (hty : ∀ k, k < N → parseFieldDescriptor (T k).2.2.1 = some (ty k)) {fs : List Value} (hfs : ∀ j, j < N → defaultValue (ty j) = vp_V fs j) (h1 : Cond.classLink own idx C ∈ aGW) (h2 : Cond.instantiable C N ∈ aGW) (h3 : Cond.initialized C ∈ aGW) (hcells : cells + 1 ≤ R.cells) (hslots : slots + N ≤ R.slots) (d : decode cc pc = .ok (.new idx, 3))
    (kk : ∀ (q : Nat) (H1 : Heap), va_P D vwCl (ws ++ [(q, .inr (ci, fs))]) H1 → va_D A (ws ++ [(q, .inr (ci, fs))]) → va_S A s.heap H1 locs → W p l e R s m args below meth c H1 locs (cells + 1) (slots + N) Q (F0 m (pc + 3) ls (.ref q :: rest))) : W p l e R s m args below meth c H locs cells slots Q (F0 m pc ls rest) :=
  va_new hx hb hts (aLay_ok _ (List.mem_of_getElem? hc)) ty hty hown (hts _ h1) (hts _ h2) (hts _ h3) hK hP hD hS hA hc hfs hcells hslots d kk
theorem k_ini {own : String} {nL : Nat} {y : MethodName} {bytes : ByteArray} {maxL mc ms n index : Nat} {rm : Room} {b : Addr} {As : List Value} {wc wr : va_W} {S : Type} {post : S → Prop} {Wf : S → va_W} (hx : p.tables.exec = Jvm.exec) (hb : c.code = cc) (hml : c.maxLocals = nL) (hown : s.vm.findClass own = some m.cls) (hts : ∀ w ∈ aGW, w.before args s = true) (hN : ∀ w ∈ aNW, va_Nw w s) (hK : va_K D vwCl (atys cA) s) (hP : va_P D vwCl ws H) (hD : va_D A ws) (hS : va_S A s.heap H locs) (hA : ∀ q, s.heap.size ≤ q → A q)
    (hM : Met l y (.code y bytes maxL none :: aGW) rm (kPre D cA H.size (.ref b :: As) wc) (kPost D (va_A wc H.size) post Wf) mc ms (va_A wc H.size)) (hcode : Cond.code y bytes maxL none ∈ aGW) (hini : Cond.initialized y.cls ∈ aGW) (hinst : Cond.instanceMethod y ∈ aGW) (hy1 : y.name = "<init>") (hd : y.cls ≠ "java/lang/invoke/MethodHandle" ∧ y.cls ≠ "java/lang/invoke/VarHandle" ∧ (parseMethodDescriptor y.desc).map (fun d => d.parameters.length) = some As.length) (hlink : Cond.methodLink own index y ∈ aGW ∨ Cond.methodLinkNest own index y RX5 ∈ aNW)
    (hrc : rm.cells = mc) (hrs : rm.slots = ms) (hR : rm.frames + 1 ≤ R.frames ∧ 8 + (maxL + 11) + rm.locals ≤ R.locals) (hsize : ls.size = nL) (hrest : (rest.map fun v => v.category).sum ≤ 8) (hdg : decode cc pc = .ok (.invokespecial index, 3)) (hf : cells + mc ≤ R.cells ∧ slots + ms ≤ R.slots) (isC isR : List Nat) (hC : isC.map (fun i => ws[i]?) = wc.map some) (hRr : isR.map (fun i => ws[i]?) = wr.map some) (hCn : va_nd isC = true) (hn : va_nd isR = true) (hdis : ∀ i ∈ isR, i ∉ isC)
    (kk : ∀ (u : S) (H1 : Heap) (locs1 : List Loc), post u → va_P D vwCl (wr ++ Wf u) H1 → va_D A (wr ++ Wf u) → va_S A s.heap H1 locs1 → W p l e R s m args below meth c H1 locs1 (cells + mc) (slots + ms) Q (F0 m (pc + 3) ls rest)) : W p l e R s m args below meth c H locs cells slots Q (F0 m pc ls (As.reverse ++ .ref b :: rest)) := by
  have hG : GoodIn aGW (.code y bytes maxL none :: aGW) := by
    intro w hw
    rcases List.mem_cons.mp hw with rfl | h2
    · exact aGood hcode
    · exact aGood h2
  have hC' : isC.filterMap (fun i => ws[i]?) = wc := by
    have e : isC.filterMap (fun i => ws[i]?) = (isC.map (fun i => ws[i]?)).filterMap id := by rw [List.filterMap_map]; rfl
    rw [e, hC, List.filterMap_map]
    exact List.filterMap_some
  have hPc := hP.sub (ws' := wc) isC hC'
  have hDc := hD.sub (ws' := wc) isC hCn hC
  have hFc := va_free (wc := wc) hD hS hA isC hC
  have hp : PreS s H (kPre D cA H.size (.ref b :: As) wc) (.ref b :: As) := ⟨kPre_blind _ _ _ _ _, fun U hU hW => ⟨rfl, by rw [hU], by rw [hU]; exact hPc, va_K.moved hW.alike hK, hDc.weaken (fun _ _ _ _ => trivial), fun w hw => aNW_warm hw hW (hN w hw)⟩⟩
  have run : va_Run p l e R s m args below meth c H locs cells slots mc ms (F0 m pc ls (As.reverse ++ .ref b :: rest)) rest (kPost D (va_A wc H.size) post Wf (Value.ref b :: As).toArray) (va_A wc H.size) := by
    rcases hlink with hl | hl
    · exact va_runI (As := As) (rest := rest) (n := As.length) (nL := nL) (Ts := aGW) (own := own) ⟨hx, hb, hml, hown, hts⟩ hM ⟨callB_of As.length hts hG rfl hrc hrs (hts _ hini) (hts _ hl) hd hR, hy1, hts _ hinst⟩ hp rfl rfl hsize rfl (lv_room hrest) hdg hf
    · exact va_runIN (As := As) (rest := rest) (n := As.length) (nL := nL) (Ts := aGW) (own := own) ⟨hx, hb, hml, hown, hts⟩ hM ⟨va_cnB As.length hts hG rfl hrc hrs (hN _ hl) (hts _ hini) hd hR, hy1, hts _ hinst⟩ hp rfl rfl hsize rfl (lv_room hrest) hdg hf
  refine va_callv run hS (fun q _ h => hFc q h) hFc (fun u t H1 locs1 ht hvm hw hB hz1 hk1 hS1 => ?_)
  obtain ⟨hP1, hD1⟩ := hB
  rw [ht] at hP1
  obtain ⟨hP2, hD2⟩ := va_join (wr := wr) (w1 := Wf u) hP hD isC isR hC hRr hn hdis hk1 hFc hP1 hD1
  exact kk u H1 locs1 hw hP2 hD2 hS1
end CROWS
