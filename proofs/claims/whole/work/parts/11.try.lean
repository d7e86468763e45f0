theorem c_holds (m : AM) (s i : Int32) : AC 0 kX5_holds [.inl s, .inl i] m (fun r u => u = m ∧ r = some (if (s >>> (i &&& 31)) &&& 1 = 0 then 0 else 1)) := by
  refine AC_of own_X5_holds (ls := [some (.inl s), some (.inl i)]) (z := 0) (Nat.le_of_ble_eq_true rfl) rfl ?_
  refine st_X5_holds_0 ?_
  simp only [bX5_holds_0, exP, stP, p1, p2, pr, pobj, parr, shF, brP, brN, swP, amask, apush, List.getElem?_cons_zero, List.getElem?_cons_succ, List.set_cons_zero, List.set_cons_succ, List.take_succ_cons, List.take_zero, List.drop_succ_cons, List.drop_zero, List.reverse_cons, List.reverse_nil, List.nil_append, List.cons_append, List.length_cons, List.length_nil, true_and, and_true]
  refine ⟨fun c => ?_, fun c => ?_⟩
  · refine st_X5_holds_12 ?_
    simp only [bX5_holds_12, exP, stP, p1, p2, pr, pobj, parr, shF, brP, brN, swP, amask, apush, List.getElem?_cons_zero, List.getElem?_cons_succ, List.set_cons_zero, List.set_cons_succ, List.take_succ_cons, List.take_zero, List.drop_succ_cons, List.drop_zero, List.reverse_cons, List.reverse_nil, List.nil_append, List.cons_append, List.length_cons, List.length_nil, true_and, and_true]
    refine st_X5_holds_13 ?_
    simp only [bX5_holds_13, exP, stP, p1, p2, pr, pobj, parr, shF, brP, brN, swP, amask, apush, List.getElem?_cons_zero, List.getElem?_cons_succ, List.set_cons_zero, List.set_cons_succ, List.take_succ_cons, List.take_zero, List.drop_succ_cons, List.drop_zero, List.reverse_cons, List.reverse_nil, List.nil_append, List.cons_append, List.length_cons, List.length_nil, true_and, and_true, c, if_true]
    simp
  · refine st_X5_holds_8 ?_
    simp only [bX5_holds_8, exP, stP, p1, p2, pr, pobj, parr, shF, brP, brN, swP, amask, apush, List.getElem?_cons_zero, List.getElem?_cons_succ, List.set_cons_zero, List.set_cons_succ, List.take_succ_cons, List.take_zero, List.drop_succ_cons, List.drop_zero, List.reverse_cons, List.reverse_nil, List.nil_append, List.cons_append, List.length_cons, List.length_nil, true_and, and_true]
    refine st_X5_holds_13 ?_
    simp only [bX5_holds_13, exP, stP, p1, p2, pr, pobj, parr, shF, brP, brN, swP, amask, apush, List.getElem?_cons_zero, List.getElem?_cons_succ, List.set_cons_zero, List.set_cons_succ, List.take_succ_cons, List.take_zero, List.drop_succ_cons, List.drop_zero, List.reverse_cons, List.reverse_nil, List.nil_append, List.cons_append, List.length_cons, List.length_nil, true_and, and_true, c, if_false]
    simp
theorem c_latestStart (m : AM) (s x : Int32) (r : Nat) (hr : r = 1 ∨ r = 4 ∨ r = 7 ∨ r = 10) : AC 1 kX2_latestStart [.inr r, .inl s, .inl x] m (fun z u => u = m) := by
  refine AC_of own_X2_latestStart (ls := [some (.inr r), some (.inl s), some (.inl x), none, none]) (z := 2) (Nat.le_of_ble_eq_true rfl) rfl ?_
  refine st_X2_latestStart_0 ?_
  simp only [bX2_latestStart_0, exP, stP, p1, p2, pr, pobj, parr, shF, brP, brN, swP, amask, apush, List.getElem?_cons_zero, List.getElem?_cons_succ, List.set_cons_zero, List.set_cons_succ, List.take_succ_cons, List.take_zero, List.drop_succ_cons, List.drop_zero, List.reverse_cons, List.reverse_nil, List.nil_append, List.cons_append, List.length_cons, List.length_nil, true_and, and_true]
  trace_state
  refine st_X2_latestStart_5 ?_
  rcases hr with rfl | rfl | rfl | rfl
  · simp only [bX2_latestStart_5, exP, stP, p1, p2, pr, pobj, parr, shF, brP, brN, swP, amask, apush, List.getElem?_cons_zero, List.getElem?_cons_succ, List.set_cons_zero, List.set_cons_succ, List.take_succ_cons, List.take_zero, List.drop_succ_cons, List.drop_zero, List.reverse_cons, List.reverse_nil, List.nil_append, List.cons_append, List.length_cons, List.length_nil, true_and, and_true]
    trace_state
    refine ⟨fun c => ?_, fun c => ?_⟩
    · sorry
    · refine st_X2_latestStart_15 ?_
      simp only [bX2_latestStart_15, exP, stP, p1, p2, pr, pobj, parr, shF, brP, brN, swP, amask, apush, List.getElem?_cons_zero, List.getElem?_cons_succ, List.set_cons_zero, List.set_cons_succ, List.take_succ_cons, List.take_zero, List.drop_succ_cons, List.drop_zero, List.reverse_cons, List.reverse_nil, List.nil_append, List.cons_append, List.length_cons, List.length_nil, true_and, and_true]
      trace_state
      sorry
  all_goals sorry
