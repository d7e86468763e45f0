/-! ===== my machine: what an instruction asks (stP), what a block asks (exP) ===== -/
def amask : List Bool → AL → AL
  | b :: bs, o :: os => (match b with | true => o | false => none) :: amask bs os
  | _, _ => []
def aup (m : AM) (r : Nat) (g : Nat → Int32) : AM := fun a => if a = r then g else m a
def swP (k : Nat → AL → Prop) (x : Int32) (ls : AL) : Nat → List (Nat × List Bool) → Prop
  | _, [] => False
  | i, [t] => (¬ (0 ≤ x.toInt ∧ x.toInt < i)) → k t.1 (amask t.2 ls)
  | i, t :: ts => (x = nI i → k t.1 (amask t.2 ls)) ∧ swP k x ls (i + 1) ts
def brP (k : Nat → AL → Prop) (c : Prop) (ls : AL) : List (Nat × List Bool) → Prop
  | [t, f] => (c → k t.1 (amask t.2 ls)) ∧ (¬ c → k f.1 (amask f.2 ls))
  | _ => False
def brN (k : Nat → AL → Prop) (c : Prop) (ls : AL) : List (Nat × List Bool) → Prop
  | [t, f] => (¬ c → k t.1 (amask t.2 ls)) ∧ (c → k f.1 (amask f.2 ls))
  | _ => False
def p1 (st : List AV) (f : Int32 → List AV → Prop) : Prop := match st with
  | .inl x :: r => f x r
  | _ => False
def p2 (st : List AV) (f : Int32 → Int32 → List AV → Prop) : Prop := match st with
  | .inl y :: .inl x :: r => f x y r
  | _ => False
def pr (st : List AV) (f : Nat → List AV → Prop) : Prop := match st with
  | .inr x :: r => f x r
  | _ => False
def pobj (r : Nat) (ci : Nat) (f : List (Option Nat) → Prop) : Prop := match shF r with
  | some (.inr (c, fs)) => c = ci ∧ f fs
  | _ => False
def parr (r : Nat) (f : Nat → Nat → Prop) : Prop := match shF r with
  | some (.inl (t, n)) => f t n
  | _ => False
abbrev APost : Type := Option Int32 → AM → Prop
def apush (r : Option Int32) (st : List AV) : List AV := match r with
  | some x => .inl x :: st
  | none => st
def stP (CC : Nat → List AV → AM → APost → Prop) (D : Nat) (zr : Bool) (k : Nat → AL → List AV → AM → Prop) (ret : APost) (i : Instr) (v : Int32) (a b : Nat) (ts : List (Nat × List Bool)) (ls : AL) (st : List AV) (m : AM) (K : AL → List AV → AM → Prop) : Prop := match i with
  | .nop => match ts with
    | [t] => k t.1 (amask t.2 ls) st m
    | _ => False
  | .iconst _ => K ls (.inl v :: st) m
  | .bipush _ => K ls (.inl v :: st) m
  | .sipush _ => K ls (.inl v :: st) m
  | .ldc_w _ => K ls (.inl v :: st) m
  | .iload _ => match ls[a]? with
    | some (some (.inl x)) => K ls (.inl x :: st) m
    | _ => False
  | .iload_n _ => match ls[a]? with
    | some (some (.inl x)) => K ls (.inl x :: st) m
    | _ => False
  | .aload_n _ => match ls[a]? with
    | some (some (.inr x)) => K ls (.inr x :: st) m
    | _ => False
  | .istore _ => p1 st (fun x r => K (ls.set a (some (.inl x))) r m)
  | .istore_n _ => p1 st (fun x r => K (ls.set a (some (.inl x))) r m)
  | .iinc _ _ => match ls[a]? with
    | some (some (.inl x)) => K (ls.set a (some (.inl (x + v)))) st m
    | _ => False
  | .iadd => p2 st (fun x y r => K ls (.inl (x + y) :: r) m)
  | .isub => p2 st (fun x y r => K ls (.inl (x - y) :: r) m)
  | .imul => p2 st (fun x y r => K ls (.inl (x * y) :: r) m)
  | .iand => p2 st (fun x y r => K ls (.inl (x &&& y) :: r) m)
  | .ior => p2 st (fun x y r => K ls (.inl (x ||| y) :: r) m)
  | .ixor => p2 st (fun x y r => K ls (.inl (x ^^^ y) :: r) m)
  | .ishl => p2 st (fun x y r => K ls (.inl (x <<< (y &&& 31)) :: r) m)
  | .ishr => p2 st (fun x y r => K ls (.inl (x >>> (y &&& 31)) :: r) m)
  | .iushr => p2 st (fun x y r => K ls (.inl ((x.toUInt32 >>> (y.toUInt32 &&& Int32.toUInt32 31)).toInt32) :: r) m)
  | .i2b => p1 st (fun x r => K ls (.inl (x.toInt8.toInt32) :: r) m)
  | .dup => match st with
    | x :: r => K ls (x :: x :: r) m
    | _ => False
  | .dup2 => match st with
    | x :: y :: r => K ls (x :: y :: x :: y :: r) m
    | _ => False
  | .pop => match st with
    | _ :: r => K ls r m
    | _ => False
  | .getfield _ => pr st (fun q r => pobj q a (fun fs => match fs[b]? with
    | some none => K ls (.inl (m q b) :: r) m
    | some (some q') => K ls (.inr q' :: r) m
    | none => False))
  | .putfield _ => p1 st (fun x r0 => pr r0 (fun q r => pobj q a (fun fs => match fs[b]? with
    | some none => (v = 0 ∨ x = 0 ∨ x = 1) ∧ K ls r (aup m q (upd (m q) b x))
    | _ => False)))
  | .arraylength => pr st (fun q r => parr q (fun _ n => K ls (.inl (nI n) :: r) m))
  | .iaload => p1 st (fun i r0 => pr r0 (fun q r => parr q (fun t n => t = 0 ∧ vp_in i n ∧ K ls (.inl (m q i.toNatClampNeg) :: r) m)))
  | .baload => p1 st (fun i r0 => pr r0 (fun q r => parr q (fun t n => (t = 1 ∨ t = 2) ∧ vp_in i n ∧ K ls (.inl (m q i.toNatClampNeg) :: r) m)))
  | .iastore => p2 st (fun i x r0 => pr r0 (fun q r => parr q (fun t n => t = 0 ∧ vp_in i n ∧ K ls r (aup m q (upd (m q) i.toNatClampNeg x)))))
  | .bastore => p2 st (fun i x r0 => pr r0 (fun q r => parr q (fun t n => vp_in i n ∧ (t = 1 → K ls r (aup m q (upd (m q) i.toNatClampNeg (vp_nar .byte x)))) ∧ (t = 2 → K ls r (aup m q (upd (m q) i.toNatClampNeg (vp_nar .boolean x)))) ∧ (t = 1 ∨ t = 2))))
  | .if_icmp .eq _ => p2 st (fun x y r => brP (fun t l => k t l r m) (x = y) ls ts)
  | .if_icmp .ne _ => p2 st (fun x y r => brN (fun t l => k t l r m) (x = y) ls ts)
  | .if_icmp .lt _ => p2 st (fun x y r => brP (fun t l => k t l r m) (x < y) ls ts)
  | .if_icmp .ge _ => p2 st (fun x y r => brP (fun t l => k t l r m) (y ≤ x) ls ts)
  | .if_icmp .gt _ => p2 st (fun x y r => brP (fun t l => k t l r m) (y < x) ls ts)
  | .if_icmp .le _ => p2 st (fun x y r => brP (fun t l => k t l r m) (x ≤ y) ls ts)
  | .ifCond .eq _ => p1 st (fun x r => brP (fun t l => k t l r m) (x = 0) ls ts)
  | .ifCond .ne _ => p1 st (fun x r => brN (fun t l => k t l r m) (x = 0) ls ts)
  | .ifCond .lt _ => p1 st (fun x r => brP (fun t l => k t l r m) (x < 0) ls ts)
  | .ifCond .ge _ => p1 st (fun x r => brP (fun t l => k t l r m) (0 ≤ x) ls ts)
  | .goto _ => match ts with
    | [t] => k t.1 (amask t.2 ls) st m
    | _ => False
  | .tableswitch _ _ _ _ => p1 st (fun x r => swP (fun t l => k t l r m) x ls 0 ts)
  | .invokevirtual _ => match ts with
    | [t] => (match (st.take b).reverse with
      | .inr q :: as => pobj q t.1 (fun _ => as.length + 1 = b ∧ (st.drop b).length ≤ 8 ∧ ∃ Q, CC a (.inr q :: as) m Q ∧ ∀ r m1, Q r m1 → K ls (apush r (st.drop b)) m1)
      | _ => False)
    | _ => False
  | .invokestatic _ => match ts with
    | [] => (st.take b).length = b ∧ (st.drop b).length ≤ 8 ∧ ∃ Q, CC a (st.take b).reverse m Q ∧ ∀ r m1, Q r m1 → K ls (apush r (st.drop b)) m1
    | (0, _) :: _ => (match st with
      | .inl n :: .inl dp :: .inr q1 :: .inl sp :: .inr q0 :: r => r.length ≤ 8 ∧ 1 ≤ D ∧ parr q0 (fun t0 n0 => parr q1 (fun t1 n1 => t0 = 0 ∧ t1 = 0 ∧ ¬ sp < 0 ∧ ¬ dp < 0 ∧ ¬ n < 0 ∧ sp.toNatClampNeg + n.toNatClampNeg ≤ n0 ∧ dp.toNatClampNeg + n.toNatClampNeg ≤ n1 ∧ K ls r (aup m q1 (va_cpy (m q0) (m q1) sp.toNatClampNeg dp.toNatClampNeg n.toNatClampNeg))))
      | _ => False)
    | (1, _) :: _ => p2 st (fun x y r => r.length ≤ 8 ∧ 1 ≤ D ∧ K ls (.inl (if x < y then y else x) :: r) m)
    | (2, _) :: _ => p2 st (fun x y r => r.length ≤ 8 ∧ 1 ≤ D ∧ K ls (.inl (if y < x then y else x) :: r) m)
    | _ => False
  | .ireturn => match st with
    | [.inl x] => (zr = false ∨ x = 0 ∨ x = 1) ∧ ret (some x) m
    | _ => False
  | .return_ => match st with
    | [] => ret none m
    | _ => False
  | _ => False
def exP (CC : Nat → List AV → AM → APost → Prop) (D : Nat) (zr : Bool) (k : Nat → AL → List AV → AM → Prop) (ret : APost) : List AOp → AL → List AV → AM → Prop
  | [], _, _, _ => False
  | (_, _, i, v, a, b, ts) :: rest, ls, st, m => stP CC D zr k ret i v a b ts ls st m (exP CC D zr k ret rest)
def mI (y : Nat) : MethodName × ByteArray × Nat × Option FieldType × Nat × List (Nat × List AOp) := mT.getD y (objectInit, ⟨#[]⟩, 0, none, 0, [])
abbrev mNm (y : Nat) : MethodName := (mI y).1
abbrev mCode (y : Nat) : ByteArray := (mI y).2.1
abbrev mMax (y : Nat) : Nat := (mI y).2.2.1
abbrev mRet (y : Nat) : Option FieldType := (mI y).2.2.2.1
abbrev mOwn (y : Nat) : Nat := (mI y).2.2.2.2.1
abbrev mBl (y : Nat) : List (Nat × List AOp) := (mI y).2.2.2.2.2
def lkB (pc : Nat) : List (Nat × List AOp) → List AOp
  | [] => []
  | (p, o) :: t => if p = pc then o else lkB pc t
def blkOf (y pc : Nat) : List AOp := lkB pc (mBl y)
def mZr (y : Nat) : Bool := mRet y == some .boolean
def cNm (o : Nat) : String := cNames.getD o ""
/-! ===== the words ===== -/
def isNestW : Cond → Bool
  | .fieldLinkNest _ _ _ _ _ _ => true
  | .methodLinkNest _ _ _ _ => true
  | _ => false
def aGW : List Cond := lw_tbl.filter goodWord
def aNW : List Cond := lw_tbl.filter isNestW
def wsY (y : Nat) : List Cond := .code (mNm y) (mCode y) (mMax y) (mRet y) :: aGW
/-! ===== the world of a memory ===== -/
abbrev aG : Type := (Nat → Nat) × ((Nat → ClassId) × (Nat → Nat → Nat)) × (Nat → ClassId)
def atr (adr : Nat → Nat) : AV → Value
  | .inl x => .int x
  | .inr r => .ref (adr r)
def afl (adr : Nat → Nat) (f : Nat → Int32) (j : Nat) (o : Option Nat) : Value := match o with
  | none => .int (f j)
  | some r => .ref (adr r)
def wd1 (adr : Nat → Nat) (cA : Nat → ClassId) (m : AM) (k : Nat) (e : ASh) : Nat × va_E := match e with
  | .inl (t, n) => (adr k, .inl (cA t, n, .inl (m k)))
  | .inr (ci, fs) => (adr k, .inr (ci, fs.mapIdx (afl adr (m k))))
def wd (adr : Nat → Nat) (cA : Nat → ClassId) (m : AM) : va_W := shp.mapIdx (wd1 adr cA m)
def atys (cA : Nat → ClassId) : List (ClassId × FieldType) := [(cA 0, .int), (cA 1, .byte), (cA 2, .boolean)]
theorem wd_at (adr : Nat → Nat) (cA : Nat → ClassId) (m : AM) (r : Nat) : (wd adr cA m)[r]? = (shp[r]?).map (wd1 adr cA m r) := by
  unfold wd
  rw [List.getElem?_mapIdx]
theorem wd_arr {adr : Nat → Nat} {cA : Nat → ClassId} {m : AM} {r t n : Nat} (h : shp[r]? = some (.inl (t, n))) : (wd adr cA m)[r]? = some (adr r, .inl (cA t, n, .inl (m r))) := by
  rw [wd_at, h]; rfl
theorem wd_obj {adr : Nat → Nat} {cA : Nat → ClassId} {m : AM} {r ci : Nat} {fs : List (Option Nat)} (h : shp[r]? = some (.inr (ci, fs))) : (wd adr cA m)[r]? = some (adr r, .inr (ci, fs.mapIdx (afl adr (m r)))) := by
  rw [wd_at, h]; rfl
theorem wd_set {adr : Nat → Nat} {cA : Nat → ClassId} {m : AM} {r : Nat} {g : Nat → Int32} {e : ASh} {x : Nat × va_E} (h : shp[r]? = some e) (hx : x = wd1 adr cA (aup m r g) r e) : (wd adr cA m).set r x = wd adr cA (aup m r g) := by
  apply List.ext_getElem?
  intro i
  rw [List.getElem?_set, wd_at, wd_at]
  by_cases hi : r = i
  · subst hi
    have hl : r < (wd adr cA m).length := by
      have h2 : (wd adr cA m).length = shp.length := by unfold wd; simp
      rw [h2]
      exact (List.getElem?_eq_some_iff.mp h).1
    rw [if_pos rfl, if_pos hl, h, hx]
    rfl
  · rw [if_neg hi]
    cases hs : shp[i]? with
    | none => rfl
    | some e' =>
      have hm : aup m r g i = m i := by unfold aup; rw [if_neg (fun q => hi q.symm)]
      cases e' with
      | inl q => simp [wd1, hm]
      | inr q => simp [wd1, hm]
theorem wd_set_arr {adr : Nat → Nat} {cA : Nat → ClassId} {m : AM} {r t n : Nat} {g : Nat → Int32} (h : shp[r]? = some (.inl (t, n))) : (wd adr cA m).set r (adr r, .inl (cA t, n, .inl g)) = wd adr cA (aup m r g) := by
  refine wd_set h ?_
  simp [wd1, aup]
theorem wd_set_obj {adr : Nat → Nat} {cA : Nat → ClassId} {m : AM} {r ci b : Nat} {fs : List (Option Nat)} {x : Int32} (h : shp[r]? = some (.inr (ci, fs))) (hb : fs[b]? = some none) : (wd adr cA m).set r (adr r, .inr (ci, (fs.mapIdx (afl adr (m r))).set b (.int x))) = wd adr cA (aup m r (upd (m r) b x)) := by
  refine wd_set h ?_
  have e : (fs.mapIdx (afl adr (m r))).set b (.int x) = fs.mapIdx (afl adr (upd (m r) b x)) := by
    apply List.ext_getElem?
    intro i
    rw [List.getElem?_set, List.getElem?_mapIdx, List.getElem?_mapIdx]
    by_cases hi : b = i
    · subst hi
      have hl : b < (fs.mapIdx (afl adr (m r))).length := by simp; exact (List.getElem?_eq_some_iff.mp hb).1
      rw [if_pos rfl, if_pos hl, hb]
      simp [afl, upd]
    · rw [if_neg hi]
      cases fs[i]? with
      | none => rfl
      | some o => cases o with
        | none =>
          have hi2 : ¬ i = b := fun q => hi q.symm
          simp [afl, upd, hi2]
        | some r => rfl
  simp [wd1, aup, e]
theorem wd_adr {adr : Nat → Nat} {cA : Nat → ClassId} {m m' : AM} {k : Nat} {q : Nat × va_E} (h : (wd adr cA m)[k]? = some q) : ∃ q', (wd adr cA m')[k]? = some q' ∧ q'.1 = q.1 := by
  rw [wd_at] at h ⊢
  cases hs : shp[k]? with
  | none => rw [hs] at h; cases h
  | some e =>
    rw [hs] at h
    refine ⟨wd1 adr cA m' k e, rfl, ?_⟩
    have : q = wd1 adr cA m k e := (Option.some.inj h).symm
    subst this
    cases e with
    | inl q => rfl
    | inr q => rfl
theorem wd_D {A : Nat → Prop} {adr : Nat → Nat} {cA : Nat → ClassId} {m : AM} (m' : AM) (h : va_D A (wd adr cA m)) : va_D A (wd adr cA m') := by
  refine ⟨fun i j x y hx hy hxy => ?_, fun k q hq => ?_⟩
  · obtain ⟨x', hx', ex⟩ := wd_adr (m' := m) hx
    obtain ⟨y', hy', ey⟩ := wd_adr (m' := m) hy
    exact h.1 i j x' y' hx' hy' (by rw [ex, ey]; exact hxy)
  · obtain ⟨q', hq', eq⟩ := wd_adr (m' := m) hq
    rw [← eq]; exact h.2 k q' hq'
theorem wd_A {adr : Nat → Nat} {cA : Nat → ClassId} {m m' : AM} {sz q : Nat} (h : va_A (wd adr cA m) sz q) : va_A (wd adr cA m') sz q := by
  rcases h with ⟨k, e, h⟩ | h
  · obtain ⟨q', hq', eq⟩ := wd_adr (m' := m') h
    refine Or.inl ⟨k, q'.2, ?_⟩
    have eq2 : q'.1 = q := eq
    rw [hq', ← eq2]
  · exact Or.inr h
/-! ===== locals ===== -/
def alh (adr : Nat → Nat) (lsA : Array Slot) (nL : Nat) (ls : AL) : Prop := lsA.size = nL ∧ lv_wf lsA ∧ ∀ (i : Nat) (v : AV), ls[i]? = some (some v) → lsA[i]? = some (.val (atr adr v))
def als (adr : Nat → Nat) (ls : AL) : List (Nat × Value) := (List.range ls.length).filterMap (fun i => match ls[i]? with
  | some (some v) => some (i, atr adr v)
  | _ => none)
theorem als_mem {adr : Nat → Nat} {ls : AL} {q : Nat × Value} (h : q ∈ als adr ls) : ∃ v, ls[q.1]? = some (some v) ∧ q.2 = atr adr v := by
  obtain ⟨i, hi, h2⟩ := List.mem_filterMap.mp h
  revert h2
  cases hl : ls[i]? with
  | none => intro h2; cases h2
  | some o => cases o with
    | none => intro h2; cases h2
    | some v => intro h2; cases h2; exact ⟨v, hl, rfl⟩
theorem mem_als {adr : Nat → Nat} {ls : AL} {i : Nat} {v : AV} (h : ls[i]? = some (some v)) : (i, atr adr v) ∈ als adr ls := by
  refine List.mem_filterMap.mpr ⟨i, List.mem_range.mpr (List.getElem?_eq_some_iff.mp h).1, ?_⟩
  rw [h]
theorem alh.lv {adr : Nat → Nat} {lsA : Array Slot} {nL : Nat} {ls : AL} (h : alh adr lsA nL ls) : lv_has lsA nL (als adr ls) := by
  refine ⟨h.1, h.2.1, fun q hq => ?_⟩
  obtain ⟨v, h1, h2⟩ := als_mem hq
  rw [h2]
  exact h.2.2 _ _ h1
theorem atr_cat (adr : Nat → Nat) (v : AV) : (atr adr v).category = 1 := by cases v <;> rfl
theorem alh.set {adr : Nat → Nat} {ls' : Array Slot} {nL i : Nat} {ls : AL} {v : AV} (h : lv_has ls' nL ((i, atr adr v) :: (als adr ls).filter (fun q => !(q.1 == i) && !(q.1 + 1 == i && q.2.category == 2)))) : alh adr ls' nL (ls.set i (some v)) := by
  refine ⟨h.1, h.2.1, fun j w hj => ?_⟩
  rw [List.getElem?_set] at hj
  by_cases hij : i = j
  · subst hij
    rw [if_pos rfl] at hj
    split at hj
    · cases hj
      exact h.2.2 _ List.mem_cons_self
    · cases hj
  · rw [if_neg hij] at hj
    refine h.2.2 (j, atr adr w) (List.mem_cons_of_mem _ (List.mem_filter.mpr ⟨mem_als hj, ?_⟩))
    have hij2 : ¬ j = i := fun q => hij q.symm
    simp [atr_cat, hij2]
theorem amask_at : ∀ (bs : List Bool) (ls : AL) (i : Nat) (v : AV), (amask bs ls)[i]? = some (some v) → ls[i]? = some (some v)
  | [], ls, i, v, h => by simp [amask] at h
  | b :: bs, [], i, v, h => by simp [amask] at h
  | b :: bs, o :: os, 0, v, h => by
    cases b <;> simp [amask] at h ⊢
    exact h
  | b :: bs, o :: os, i + 1, v, h => by
    simp only [amask, List.getElem?_cons_succ] at h ⊢
    exact amask_at bs os i v h
theorem alh.mask {adr : Nat → Nat} {lsA : Array Slot} {nL : Nat} {ls : AL} (bs : List Bool) (h : alh adr lsA nL ls) : alh adr lsA nL (amask bs ls) := ⟨h.1, h.2.1, fun i v hi => h.2.2 i v (amask_at bs ls i v hi)⟩
