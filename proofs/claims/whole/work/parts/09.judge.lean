/-! ===== the judgement's step; a contract out of a walk ===== -/
theorem lkB_chk {o nL : Nat} {ret : Option FieldType} {cc : ByteArray} {pc : Nat} : ∀ (bl : List (Nat × List AOp)), chkB o nL ret cc bl = true → chkO o nL ret cc pc (lkB pc bl) = true
  | [], _ => rfl
  | (p, ops) :: t, h => by
    unfold chkB at h
    simp only [List.all_cons, Bool.and_eq_true] at h
    unfold lkB
    split
    · rename_i hp
      subst hp
      exact h.1
    · exact lkB_chk t (by unfold chkB; exact h.2)
/-- the judgement goes on from a block to what the block asks -/
theorem AW_step {D y : Nat} {Q : APost} {pc : Nat} {ls : AL} {st : List AV} {m : AM} (hc : chkM y = true) (h : exP (aCC D) D (mZr y) (AW D y Q) Q (blkOf y pc) ls st m) : AW D y Q pc ls st m := by
  intro p l e R s mm args below meth c cells slots Qm A G hok
  refine a_block (k := AW D y Q) hok (fun t ls st m hk => hk p l e R s mm args below meth c cells slots Qm A G hok) (blkOf y pc) pc ls st m ?_ h
  exact lkB_chk _ hc
theorem sl_one : ∀ (adr : Nat → Nat) (as : List AV), lg_sl (as.map (atr adr)) = (as.map (atr adr)).map Slot.val
  | _, [] => rfl
  | adr, a :: as => by
    have h := sl_one adr as
    have h1 : ¬ (atr adr a).category = 2 := by rw [atr_cat]; decide
    unfold lg_sl at h ⊢
    rw [List.map_cons, List.flatMap_cons, h, if_neg h1]
    rfl
theorem AC_of {D y n z : Nat} {as : List AV} {ls : AL} {m : AM} {Q : APost} (ho : ((mNm y).cls = cNm (mOwn y) ∧ plainName (mNm y).cls = true) ∧ mMax y = n) (hlen : as.length ≤ n) (hls : ls = as.map some ++ List.replicate z none) (h : AW D y Q 0 ls [] m) : AC D y as m Q := by
  obtain ⟨ho, hn⟩ := ho
  rw [← hn] at hlen
  intro l G sz
  refine Met.ofW (cc := mCode y) (maxL := mMax y) (ret := mRet y) ho.2 rfl ?_
  intro p e s mm args below meth c s₁ B hml hv
  obtain ⟨rfl, hsz, hP, hK, hD0, hN⟩ := hv
  have hx := B.exec
  have hb := B.bytes
  have hr := B.returns
  have hts := atoms_spec (ws := wsY y) B.pre
  have hown : s.vm.findClass (cNm (mOwn y)) = some mm.cls := by rw [← ho.1]; exact findClass_of_methodNamed B.named
  have hlocks := B.notSynchronized
  subst hsz
  have hD := hD0.self (sz := s.heap.size)
  rw [lg_entry_eq]
  have hlsl : (lg_sl (as.map (atr G.1))).length ≤ mMax y := by rw [sl_one]; simpa using hlen
  have hl := lv_entry (as.map (atr G.1)) (n := mMax y) hlsl
  refine h p l e _ s mm _ below meth c 0 0 _ (va_A (wd G.1 G.2.2 m) s.heap.size) G ⟨hx, hb, hml, hown, fun w hw => hts w (List.mem_cons_of_mem _ hw), hN, hK, fun q h => Or.inr h, ⟨Nat.le_refl _, Nat.le_refl _, Nat.zero_le _, Nat.zero_le _⟩, ?_⟩ s.heap [] _ hP hD va_S.rf ⟨hl.1, hl.2.1, ?_⟩
  · intro r u H locs pc lsA hq hP1 hS1 hdc
    cases r with
    | none =>
      obtain ⟨hd, hret⟩ := hdc
      exact W.vret hx hb (hr.trans hret) (fun t ht hW => ⟨⟨none, u, rfl, hq, by rw [ht]; exact hP1⟩, hS1.F ht⟩) hS1.2.2 hd
    | some x =>
      obtain ⟨hd, hret⟩ := hdc
      rcases hret with hret | ⟨hret, hxx⟩
      · exact W.iret (v := x) hx hb (hr.trans hret) (fun t ht hW => ⟨⟨some x, u, rfl, hq, by rw [ht]; exact hP1⟩, hS1.F ht⟩) hS1.2.2 hd
      · exact W.zret (v := x) hx hb (hr.trans hret) (by rcases hxx with rfl | rfl <;> rfl) (fun t ht hW => ⟨⟨some x, u, rfl, hq, by rw [ht]; exact hP1⟩, hS1.F ht⟩) hS1.2.2 hd
  · intro i v hi
    have hi2 : as[i]? = some v := by
      rw [hls, List.getElem?_append] at hi
      split at hi
      case isFalse =>
        rw [List.getElem?_replicate] at hi
        split at hi
        · cases hi
        · cases hi
      rw [List.getElem?_map] at hi
      cases ha : as[i]? with
      | none => rw [ha] at hi; cases hi
      | some w => rw [ha] at hi; exact Option.some.inj hi
    have hil : i < as.length := (List.getElem?_eq_some_iff.mp hi2).1
    rw [List.getElem?_toArray, List.getElem?_append_left (by rw [sl_one]; simpa using hil), sl_one, List.getElem?_map, List.getElem?_map, hi2]
    rfl
theorem AC_mono {D y : Nat} {as : List AV} {m : AM} {Q Q' : APost} (h : AC D y as m Q) (hq : ∀ r u, Q r u → Q' r u) : AC D y as m Q' := by
  intro l G sz p e ha hc hk s mm args below hf hfit hP hX
  obtain ⟨n, o, h1, h2, h3, ⟨⟨⟨r, u, e1, e2, e3⟩, e4⟩, e5⟩⟩ := h l G sz p e ha hc hk s mm args below hf hfit hP hX
  exact ⟨n, o, h1, h2, h3, ⟨⟨⟨r, u, e1, hq r u e2, e3⟩, e4⟩, e5⟩⟩

