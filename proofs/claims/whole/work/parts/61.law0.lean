/-! THE CLAIM OUT OF ONE WALK OF THE LAW'S BODY. Your part is whole_start (and what it stands on); all else here is the same for every law, but numbers. -/
def R_law : String := "DeedBenchLaw"
def lw_P (b : Addr) (xs : List Int32) (args : Array Value) (s : State) : Prop := args = #[.ref b] ∧ s.IntsAt b xs ∧ xs.length ≤ 3072 ∧ (Jvm.Cond.and given_1 narrow_1).before args s = true
def lw_Q (_ : Array Value) (s : State) (o : Outcome) (t : State) : Prop := o = .returned (some (.int 1)) ∧ Framed s o t [] 600000 7302250
def lw_Z (below : List Frame) (a : Array Value) (s : State) : State → Prop := fun t => ∃ o, t.status = .running ∧ Ended t below o ∧ lw_Q a s o t
/-- the law's own end, with 1 on the stack, nothing written that was there before, its room as the claim has it -/
theorem lw_ret {p : Program} {l : Launch} {e : Env} {s : State} {m : MethodId} {below : List Frame} {meth : Method} {c : Code} {b : Nat} (hx : p.tables.exec = Jvm.exec) (hb : c.code = code) (hr : meth.sig.returnType = ret) (hlocks : meth.locks = false) {pc : Nat} {H : Heap} {ls : Array Slot} (hdg : decode code pc = .ok (.ireturn, 1)) : W p l e room_1 s m #[Value.ref b] below meth c H [] 600000 7302250 (lw_Z below #[Value.ref b] s) (F0 m pc ls [.int 1]) := by
  intro T hT X
  obtain ⟨fs, hret, hrun, hended, hW, hframe⟩ := X.leave (v := some (.int 1)) (hlocks := hlocks) (fun h => by rw [hr] at h; cases h)
  have hmeth' : T.vm.method? m = some meth := X.method'
  refine ⟨T.setFrames fs, ?_, .returned (some (.int 1)), hrun, hended, rfl, ⟨_, rfl⟩, hW, hframe⟩
  jvm_step X.here [X.here.top, hx, hb, hdg, hmeth', hr, ret, narrow_b1]
  (try refine ⟨rfl, ?_⟩); (try refine ⟨rfl, ?_⟩)
  first | (intro acts; rw [hret _ acts rfl rfl rfl]) | rw [hret _ _ rfl rfl rfl]
  exact Steps.refl _
/-- what holds at the law's entry: the machine, the code, the tables' words (any of lw_tbl by 'hts w (by decide +kernel)'), the script of L ints xs at the cell b, what the Statement gives of the start (any of its parts by flat_of_before) -/
def lw_At (p : Program) (s : State) (m : MethodId) (meth : Method) (c : Code) (b L : Nat) (xs : Nat → Int32) : Prop :=
  p.tables.exec = Jvm.exec ∧ c.code = code ∧ meth.sig.returnType = ret ∧ c.maxLocals = 4 ∧ s.vm.findClass R_law = some m.cls ∧ (∀ w ∈ lw_tbl, w.before #[Value.ref b] s = true) ∧ va_X b L xs s s.heap ∧ b < s.heap.size ∧ meth.locks = false ∧ (Jvm.Cond.and given_1 narrow_1).before #[Value.ref b] s = true
/-! ===== the memory of two new objects ===== -/
def m0 (f : Nat → Int32) : AM := fun k => match k with
  | 15 => fun j => if j = 9 then 40 else if j = 10 then -1 else 0
  | 27 => fun j => if j = 4 then -1 else 0
  | 34 => fun j => if j = 2 then 40 else 0
  | 50 => f
  | _ => fun _ => 0
def adr0 (h0 h1 : Nat) (u v : Nat → Nat) : Nat → Nat := fun k => if k = 0 then h0 else if k < 34 then u (k - 1) else if k = 34 then h1 else v (k - 35)
set_option maxRecDepth 100000 in
set_option maxHeartbeats 4000000 in
theorem wd0 (h0 h1 : Nat) (u v : Nat → Nat) (cA : Nat → ClassId) (f : Nat → Int32) : wd (adr0 h0 h1 u v) cA (m0 f) = wX5 cA h0 u ++ wX6 cA h1 (v, f) := by
  unfold wd shp
  simp only [List.mapIdx_cons, List.mapIdx_nil, wd1, afl, Nat.zero_add, Nat.reduceAdd]
  rfl
theorem INV_new {f : Nat → Int32} (hf : ∀ i, i < 12 → f i = -1) : INV (m0 f) := by
  have z : (0 : Int32).toInt = 0 := rfl
  have z0 : nI 0 = 0 := rfl
  refine ⟨0, 0, 0, 0, 0, ?_, Or.inl rfl, Or.inl rfl⟩
  unfold BASE
  refine ⟨⟨by omega, by omega, by omega, by omega⟩, ⟨rfl, rfl, rfl⟩, ⟨rfl, rfl, rfl⟩, ?_, ?_, ?_, ?_, fun d hd => by omega, fun d hd => by omega, ?_, ?_, ?_, ?_⟩
  · refine ⟨by omega, rfl, fun i _ => ?_, fun i _ => ?_, fun i _ => ?_, fun i _ => ?_, ?_, fun i _ => ?_, fun i hi => by omega⟩
    · show 0 ≤ (0 : Int32).toInt ∧ (0 : Int32).toInt ≤ 3000 ∧ 0 ≤ (0 : Int32).toInt ∧ (0 : Int32).toInt ≤ 3000
      decide
    · show 0 ≤ (0 : Int32).toInt ∧ (0 : Int32).toInt ≤ 3000 ∧ 0 ≤ (0 : Int32).toInt ∧ (0 : Int32).toInt ≤ 3000
      decide
    · show 0 ≤ (0 : Int32).toInt ∧ (0 : Int32).toInt ≤ 3000 ∧ 0 ≤ (0 : Int32).toInt ∧ (0 : Int32).toInt ≤ 3000
      decide
    · show 0 ≤ (0 : Int32).toInt ∧ (0 : Int32).toInt ≤ 3000 ∧ 0 ≤ (0 : Int32).toInt ∧ (0 : Int32).toInt ≤ 3000
      decide
    · show 0 ≤ (40 : Int32).toInt ∧ (40 : Int32).toInt ≤ 200
      decide
    · show 0 ≤ (0 : Int32).toInt ∧ (0 : Int32).toInt ≤ 99
      decide
  · exact ⟨by omega, rfl, fun d hd => by omega⟩
  · exact ⟨fun d hd => by omega, fun d hd => by omega⟩
  · exact ⟨fun i _ => ⟨rfl, rfl⟩, fun i _ => ⟨rfl, rfl⟩, fun i _ => ⟨rfl, rfl⟩, fun i _ => ⟨rfl, rfl, rfl⟩, rfl⟩
  · exact fun d _ _ => ⟨rfl, fun k _ => rfl⟩
  · exact ⟨rfl, rfl, fun i _ => ⟨by show (0 : Int32) = 0 &&& 255; decide, by show (0 : Int32) = (0 : Int32).toInt8.toInt32; decide⟩⟩
  · exact fun d _ => ⟨0, by omega, rfl, rfl, fun _ => rfl, fun i hi => by omega⟩
  · exact fun d hd => ⟨rfl, rfl, fun q => by omega, fun _ => ⟨hf d hd, rfl⟩, fun _ => rfl⟩
/-! ===== the law's own rows ===== -/
theorem law_ok {p : Program} {s : State} {m : MethodId} {meth : Method} {c : Code} {b L : Nat} {xs : Nat → Int32} (C0 : lw_At p s m meth c b L xs) : p.tables.exec = Jvm.exec ∧ c.code = code ∧ c.maxLocals = 4 ∧ s.vm.findClass RL = some m.cls ∧ (∀ w ∈ aGW, w.before #[Value.ref b] s = true) ∧ ∀ w ∈ aNW, va_Nw w s := by
  obtain ⟨hx, hb, hr, hml, hown, hts, -⟩ := C0
  refine ⟨hx, hb, hml, hown, fun w hw => hts w (List.mem_filter.mp hw).1, fun w hw => ?_⟩
  have h1 := (List.mem_filter.mp hw).2
  have h2 := hts w (List.mem_filter.mp hw).1
  have ht : w.onTables = true := by cases w <;> first | rfl | (simp [isNestW] at h1)
  exact va_tabs ht rfl h2
section LROWS
variable {p : Program} {l : Launch} {e : Env} {s : State} {m : MethodId} {below : List Frame} {meth : Method} {c : Code} {H : Heap} {locs : List Loc} {cells slots : Nat} {Q : State → Prop} {G : aG} {b L i : Nat} {xs : Nat → Int32} {ls : Array Slot} {pc : Nat} {st : List Value}
/-- script[i + j] -/
theorem l_ld (hL : L ≤ 3072) (C0 : lw_At p s m meth c b L xs) (hi : i + 6 ≤ L) (hS : va_S (fun q : Nat => s.heap.size ≤ q) s.heap H locs) {r1 r2 : Value} (hl : lv_has ls 4 [(0, .ref b), (1, r1), (2, r2), (3, .int (nI i))]) {j : Nat} {jn : Int} (hj : j ≤ 5) (hjn : Int32.ofInt jn = nI j) (d0 : decode code pc = .ok (.aload_n 0, 1)) (d1 : decode code (pc + 1) = .ok (.iload_n 3, 1)) (d2 : decode code (pc + 1 + 1) = .ok (.iconst jn, 1)) (d3 : decode code (pc + 1 + 1 + 1) = .ok (.iadd, 1)) (d4 : decode code (pc + 1 + 1 + 1 + 1) = .ok (.iaload, 1))
    (kk : W p l e room_1 s m #[Value.ref b] below meth c H locs cells slots Q (F0 m (pc + 1 + 1 + 1 + 1 + 1) ls (.int (xs (i + j)) :: st))) : W p l e room_1 s m #[Value.ref b] below meth c H locs cells slots Q (F0 m pc ls st) := by
  obtain ⟨hx, hb, hr, hml, hown, hts, hX, hbl, hlocks, hgv⟩ := C0
  refine lv_aload_n hx hb d0 rfl (lv_at hl 0 rfl) ?_
  refine lv_iload_n hx hb d1 rfl (lv_at hl 3 rfl) ?_
  refine lv_iconst (v := nI j) hx hb d2 hjn ?_
  refine lv_iadd hx hb d3 ?_
  rw [nI_add]
  refine va_sld hx hb hX hbl (A := fun q : Nat => s.heap.size ≤ q) (Nat.not_le.mpr hbl) hS (vp_in_nI (show i + j < L by omega) (by omega)) d4 ?_
  rw [nI_clamp (show i + j < 2 ^ 31 by omega)]
  exact kk
/-- a call of a method of my table -/
theorem l_call (C0 : lw_At p s m meth c b L xs) (hK : va_K G.2.1 vwCl (atys G.2.2) s) (hc : cells ≤ 600000) (hs2 : slots ≤ 7302250) {mm : AM} (hP : va_P G.2.1 vwCl (wd G.1 G.2.2 mm) H) (hD : va_D (fun q : Nat => s.heap.size ≤ q) (wd G.1 G.2.2 mm)) (hS : va_S (fun q : Nat => s.heap.size ≤ q) s.heap H locs) {idx y d q : Nat} {as : List AV} {Q' : APost} {rest : List Value} {fs : List (Option Nat)} (hm : (9, idx, y, 0) ∈ lMT) (hd : d < 30) (hC : AC d y (.inr q :: as) mm Q') (hsh : shp[q]? = some (.inr (mOwn y, fs))) (hpar : ((parseMethodDescriptor (mNm y).desc).map (fun d => d.parameters.length)) = some as.length) (hsz : ls.size = 4) (hrest : (rest.map fun v => v.category).sum ≤ 8) (hdec : decode code pc = .ok (.invokevirtual idx, 3))
    (kk : ∀ (r : Option Int32) (u : AM) (H1 : Heap) (locs1 : List Loc), Q' r u → va_P G.2.1 vwCl (wd G.1 G.2.2 u) H1 → va_D (fun q : Nat => s.heap.size ≤ q) (wd G.1 G.2.2 u) → va_S (fun q : Nat => s.heap.size ≤ q) s.heap H1 locs1 → W p l e room_1 s m #[Value.ref b] below meth c H1 locs1 cells slots Q (F0 m (pc + 3) ls ((r.map Value.int).toList ++ rest))) : W p l e room_1 s m #[Value.ref b] below meth c H locs cells slots Q (F0 m pc ls ((as.map (atr G.1)).reverse ++ .ref (G.1 q) :: rest)) := by
  obtain ⟨hx, hb, hml, hown, hts, hN⟩ := law_ok C0
  obtain ⟨hcode, hini, ⟨hcls, hd1, hd2, hmax, hown7⟩, hl1, hl2, hl3⟩ := lMT_link hm
  obtain ⟨qc, hqc, hqn⟩ := cNm_cl (mOwn y) hown7
  refine a_call (A := fun q : Nat => s.heap.size ≤ q) (G := G) (m := mm) (Q := Q') (a := (Value.ref (G.1 q) :: as.map (atr G.1)).toArray) (va_runV (As := as.map (atr G.1)) (C := (mNm y).cls) (b := G.1 q) (Ts := aGW) (own := RL) (nL := 4) (n := as.length) (bytes := mCode y) (maxL := mMax y) (ret := mRet y) ⟨hx, hb, hml, hown, hts⟩ (hC l G H.size) ⟨callB_of as.length hts (wsY_good hcode) rfl rfl rfl (hts _ hini) (hts _ hl1) ⟨hd1, hd2, hpar⟩ ⟨show d + 1 ≤ 2048 by omega, show 8 + (mMax y + 11) + 100 * d ≤ 84000 by omega⟩, hts _ hl2, hts _ hl3⟩ ⟨aPre_blind _ _ _ _, ?_, fun U hU hW => a_pre hK hN hP hD (.inr q :: as) U hU hW⟩ rfl (by rw [List.length_map]) hsz rfl (lv_room hrest) hdec ⟨show cells + 0 ≤ 600000 by omega, show slots + 0 ≤ 7302250 by omega⟩) hS (a_join hD hS (fun q h => h)) (fun r u H1 locs1 hq hP1 hS1 => ?_)
  · rw [hcls, ← hqn]
    exact va_recv hK hP hqc (wd_obj hsh)
  · exact kk r u H1 locs1 hq hP1 (wd_D _ hD) hS1
theorem cat_opt (r : Option Int32) : (((r.map Value.int).toList ++ []).map fun v : Value => v.category).sum ≤ 8 := by
  cases r with
  | none => decide
  | some x => exact Nat.le_of_ble_eq_true rfl
end LROWS
