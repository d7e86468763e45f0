/-! ===== what the tables say ===== -/
theorem aGW_of {i : Nat} {w : Cond} (h : lw_tbl[i]? = some w) (hg : goodWord w = true) : w ∈ aGW := List.mem_filter.mpr ⟨List.mem_of_getElem? h, hg⟩
theorem aNW_of {i : Nat} {w : Cond} (h : lw_tbl[i]? = some w) (hg : isNestW w = true) : w ∈ aNW := List.mem_filter.mpr ⟨List.mem_of_getElem? h, hg⟩
def needF (q : Nat × Nat × Nat × Nat × Bool) : Cond := match vwCl[q.2.2.1]? with
  | some (C, T, _) => (match q.2.2.2.2 with
    | false => Cond.fieldLink (cNm q.1) q.2.1 C (T q.2.2.2.1).2.1 (T q.2.2.2.1).2.2.1
    | true => Cond.fieldLinkNest (cNm q.1) q.2.1 C (T q.2.2.2.1).2.1 (T q.2.2.2.1).2.2.1 RX5)
  | none => Cond.tt
def needM (q : Nat × Nat × Nat × Nat) : List Cond := match q.2.2.2 with
  | 0 => [.initialized (mNm q.2.2.1).cls, .methodLink (cNm q.1) q.2.1 (mNm q.2.2.1), .instanceMethod (mNm q.2.2.1), .selects (mNm q.2.2.1).cls (mNm q.2.2.1) (mNm q.2.2.1)]
  | 1 => [.initialized (mNm q.2.2.1).cls, .methodLink (cNm q.1) q.2.1 (mNm q.2.2.1), .static (mNm q.2.2.1)]
  | _ => [.initialized (mNm q.2.2.1).cls, .static (mNm q.2.2.1), .methodLinkNest (cNm q.1) q.2.1 (mNm q.2.2.1) RX5]
set_option maxRecDepth 100000 in
theorem aFT_pos : aFTp.map (fun i => lw_tbl[i]?) = aFT.map (fun q => some (needF q)) := by decide +kernel
set_option maxRecDepth 100000 in
theorem aMC_pos : aMCp.map (fun i => lw_tbl[i]?) = mT.map (fun q => some (Cond.code q.1 q.2.1 q.2.2.1 q.2.2.2.1)) := by rfl
set_option maxRecDepth 100000 in
theorem aMT_pos : aMTp.map (fun ps => ps.map (fun i => lw_tbl[i]?)) = aMT.map (fun q => (needM q).map some) := by decide +kernel
set_option maxRecDepth 100000 in
theorem aLp_pos : aLp0.map (fun i => lw_tbl[i]?) = (u_ws RX0 TX0 1).map some ∧ aLp1.map (fun i => lw_tbl[i]?) = (u_ws RX1 TX1 4).map some ∧ aLp2.map (fun i => lw_tbl[i]?) = (u_ws RX2 TX2 3).map some ∧ aLp3.map (fun i => lw_tbl[i]?) = (u_ws RX3 TX3 11).map some ∧ aLp4.map (fun i => lw_tbl[i]?) = (u_ws RX4 TX4 8).map some ∧ aLp5.map (fun i => lw_tbl[i]?) = (u_ws RX5 TX5 13).map some ∧ aLp6.map (fun i => lw_tbl[i]?) = (u_ws RX6 TX6 34).map some := by decide +kernel
set_option maxRecDepth 100000 in
theorem aKT_pos : aKTp.map (fun i => lw_tbl[i]?) = aKT.map (fun q => some (Cond.constant (cNm q.1) q.2.1 q.2.2)) := by decide +kernel
set_option maxRecDepth 100000 in
theorem aAT_pos : aATp.map (fun i => lw_tbl[i]?) = aAT.map (fun q => some (Cond.methodLink (cNm q.1) q.2 arraycopyName)) := by decide +kernel
set_option maxRecDepth 100000 in
theorem aXT_pos : aXTp.map (fun i => lw_tbl[i]?) = aXT.map (fun q => some (Cond.methodLink (cNm q.1) q.2 Lib.Math.max.name)) := by decide +kernel
set_option maxRecDepth 100000 in
theorem aNT_pos : aNTp.map (fun i => lw_tbl[i]?) = aNT.map (fun q => some (Cond.methodLink (cNm q.1) q.2 Lib.Math.min.name)) := by decide +kernel
set_option maxRecDepth 100000 in
theorem aXT_w : aXTw.map (fun i => lw_tbl[i]?) = [Cond.static Lib.Math.max.name, Cond.initialized "java/lang/Math", Cond.code Lib.Math.max.name Lib.Math.max.code 2 (some .int)].map some := by decide +kernel
set_option maxRecDepth 100000 in
theorem aNT_w : aNTw.map (fun i => lw_tbl[i]?) = [Cond.static Lib.Math.min.name, Cond.initialized "java/lang/Math", Cond.code Lib.Math.min.name Lib.Math.min.code 2 (some .int)].map some := by decide +kernel
set_option maxRecDepth 100000 in
theorem aCp_pos : aCp.map (fun i => lw_tbl[i]?) = [Cond.native arraycopyName, Cond.static arraycopyName, Cond.initialized "java/lang/System"].map some := by decide +kernel
set_option maxRecDepth 100000 in
theorem aFT_side : aFT.all (fun q => match vwCl[q.2.2.1]? with
  | some (C, T, N) => decide (q.2.2.2.1 < N) && decide ((T q.2.2.2.1).1 = C)
  | none => false) = true := by decide +kernel
set_option maxRecDepth 100000 in
theorem aMT_side : aMT.all (fun q => decide ((mNm q.2.2.1).cls = cNm (mOwn q.2.2.1)) && decide ((mNm q.2.2.1).cls ≠ "java/lang/invoke/MethodHandle") && decide ((mNm q.2.2.1).cls ≠ "java/lang/invoke/VarHandle") && decide (mMax q.2.2.1 ≤ 60) && (decide (mOwn q.2.2.1 < 7) || q.2.2.2 != 0)) = true := by decide +kernel
theorem pos_mem {α : Type} {ps : List Nat} {ws : List α} {L : List Cond} {f : α → Cond} (h : ps.map (fun (i : Nat) => L[i]?) = ws.map (fun w => some (f w))) {w : α} (hw : w ∈ ws) : ∃ i : Nat, L[i]? = some (f w) := by
  obtain ⟨k, hk⟩ := List.mem_iff_getElem?.mp hw
  have h1 : (ps.map (fun (i : Nat) => L[i]?))[k]? = some (some (f w)) := by rw [h, List.getElem?_map, hk]; rfl
  rw [List.getElem?_map] at h1
  cases hi : ps[k]? with
  | none => rw [hi] at h1; cases h1
  | some i => rw [hi] at h1; exact ⟨i, Option.some.inj h1⟩
theorem pos_mem2 {α : Type} {ps : List (List Nat)} {ws : List α} {L : List Cond} {f : α → List Cond} (h : ps.map (fun p => p.map (fun (i : Nat) => L[i]?)) = ws.map (fun w => (f w).map some)) {w : α} (hw : w ∈ ws) {x : Cond} (hx : x ∈ f w) : ∃ i : Nat, L[i]? = some x := by
  obtain ⟨k, hk⟩ := List.mem_iff_getElem?.mp hw
  have h1 : (ps.map (fun p => p.map (fun (i : Nat) => L[i]?)))[k]? = some ((f w).map some) := by rw [h, List.getElem?_map, hk]; rfl
  rw [List.getElem?_map] at h1
  cases hi : ps[k]? with
  | none => rw [hi] at h1; cases h1
  | some p =>
    rw [hi] at h1
    have h2 : p.map (fun (i : Nat) => L[i]?) = (f w).map some := Option.some.inj h1
    exact pos_mem (f := id) h2 hx
theorem aLay_ok : ∀ q ∈ vwCl, ∀ w ∈ u_ws q.1 q.2.1 q.2.2, w ∈ aGW := by
  intro q hq
  obtain ⟨h0, h1, h2, h3, h4, h5, h6⟩ := aLp_pos
  have gd : ∀ (C : String) (T : u_T) (N : Nat), ∀ w ∈ u_ws C T N, goodWord w = true := by
    intro C T N w hw
    obtain ⟨k, -, rfl⟩ := List.mem_map.mp hw
    unfold u_lay
    split <;> rfl
  simp only [vwCl, List.mem_cons, List.not_mem_nil, or_false] at hq
  rcases hq with rfl | rfl | rfl | rfl | rfl | rfl | rfl
  · intro w hw; obtain ⟨i, hi⟩ := pos_mem (f := id) h0 hw; exact aGW_of hi (gd _ _ _ w hw)
  · intro w hw; obtain ⟨i, hi⟩ := pos_mem (f := id) h1 hw; exact aGW_of hi (gd _ _ _ w hw)
  · intro w hw; obtain ⟨i, hi⟩ := pos_mem (f := id) h2 hw; exact aGW_of hi (gd _ _ _ w hw)
  · intro w hw; obtain ⟨i, hi⟩ := pos_mem (f := id) h3 hw; exact aGW_of hi (gd _ _ _ w hw)
  · intro w hw; obtain ⟨i, hi⟩ := pos_mem (f := id) h4 hw; exact aGW_of hi (gd _ _ _ w hw)
  · intro w hw; obtain ⟨i, hi⟩ := pos_mem (f := id) h5 hw; exact aGW_of hi (gd _ _ _ w hw)
  · intro w hw; obtain ⟨i, hi⟩ := pos_mem (f := id) h6 hw; exact aGW_of hi (gd _ _ _ w hw)
theorem aTy_ok : ∀ q ∈ vwCl, ∃ ty : Nat → FieldType, (∀ k, k < q.2.2 → parseFieldDescriptor (q.2.1 k).2.2.1 = some (ty k)) ∧ ∀ a, a < q.2.2 → ∀ b, b < q.2.2 → a ≠ b → (q.2.1 a).2.1 ≠ (q.2.1 b).2.1 := by
  intro q hq
  simp only [vwCl, List.mem_cons, List.not_mem_nil, or_false] at hq
  rcases hq with rfl | rfl | rfl | rfl | rfl | rfl | rfl
  · exact ⟨tyX0, tyX0_ok, nmX0⟩
  · exact ⟨tyX1, tyX1_ok, nmX1⟩
  · exact ⟨tyX2, tyX2_ok, nmX2⟩
  · exact ⟨tyX3, tyX3_ok, nmX3⟩
  · exact ⟨tyX4, tyX4_ok, nmX4⟩
  · exact ⟨tyX5, tyX5_ok, nmX5⟩
  · exact ⟨tyX6, tyX6_ok, nmX6⟩
theorem aGood {w : Cond} (h : w ∈ aGW) : w ∈ aGW ∧ ((w.onTables && w.keeps) = true ∨ ∃ ty, w = .arrayClass ty) := ⟨h, good_of_word (List.mem_filter.mp h).2⟩
theorem aNW_warm {w : Cond} (hw : w ∈ aNW) {s U : State} (hW : s.WarmedH U.vm) (h : va_Nw w s) : va_Nw w U := by
  have h1 := (List.mem_filter.mp hw).2
  cases w <;> first | exact va_Nw.warmF hW h | exact va_Nw.warmM hW h | (simp [isNestW] at h1)
theorem aNW_same {w : Cond} (hw : w ∈ aNW) {s U : State} (hW : s.vm = U.vm) (h : va_Nw w s) : va_Nw w U := by
  have h1 := (List.mem_filter.mp hw).2
  cases w <;> first | exact va_Nw.same rfl hW h | (simp [isNestW] at h1)
