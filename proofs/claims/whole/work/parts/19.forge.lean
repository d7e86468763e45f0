/-! ===== the search for the lightest set ===== -/
def wtm (m : AM) (i : Nat) : Int := (m 26 i).toInt
def WOK (m : AM) : Prop := ∀ i, i < 12 → 0 ≤ wtm m i ∧ wtm m i ≤ 99
theorem wsN_range {wt : Nat → Int} {t : Nat} (h : ∀ i, i < 12 → 0 ≤ wt i ∧ wt i ≤ 99) : ∀ n, n ≤ 12 → 0 ≤ wsN wt t n ∧ wsN wt t n ≤ 99 * n
  | 0, _ => ⟨Int.le_refl _, by show (0 : Int) ≤ _; omega⟩
  | n + 1, hn => by
    have h1 := wsN_range (t := t) h n (by omega)
    have h2 := h n (by omega)
    unfold wsN
    split <;> omega
theorem c_weigh (m : AM) (hw : WOK m) (t : Nat) (ht : t < 4096) : AC 1 kX1_weigh [.inr 25, .inl (nI t)] m (fun z u => m = u ∧ ∃ x, z = some x ∧ x.toInt = ws (wtm m) t) := by
  refine AC_of own_X1_weigh (ls := [some (.inr 25), some (.inl (nI t)), none, none]) (z := 2) (Nat.le_of_ble_eq_true rfl) rfl ?_
  have loop : ∀ (n j : Nat) (x : Int32), j + n = 12 → x.toInt = wsN (wtm m) t j → AW 1 kX1_weigh (fun z u => m = u ∧ ∃ x, z = some x ∧ x.toInt = ws (wtm m) t) 4 [some (.inr 25), some (.inl (nI t)), some (.inl x), some (.inl (nI j))] [] m := by
    intro n
    induction n with
    | zero =>
      intro j x h hx
      obtain rfl : j = 12 := by omega
      refine st_X1_weigh_4 ?_; simp only [bX1_weigh_4, exP, stP, p1, p2, pr, pobj, parr, sh0, sh1, sh2, sh3, sh4, sh5, sh6, sh7, sh8, sh9, sh10, sh11, sh12, sh13, sh14, sh15, sh16, sh17, sh18, sh19, sh20, sh21, sh22, sh23, sh24, sh25, sh26, sh27, sh28, sh29, sh30, sh31, sh32, sh33, sh34, sh35, sh36, sh37, sh38, sh39, sh40, sh41, sh42, sh43, sh44, sh45, sh46, sh47, sh48, sh49, sh50, sh51, sh52, sh53, sh54, sh55, sh56, sh57, sh58, sh59, brP, brN, swP, amask, apush, List.getElem?_cons_zero, List.getElem?_cons_succ, List.set_cons_zero, List.set_cons_succ, List.take_succ_cons, List.take_zero, List.drop_succ_cons, List.drop_zero, List.reverse_cons, List.reverse_nil, List.nil_append, List.cons_append, List.length_cons, List.length_nil, true_and, and_true, Nat.zero_le, Nat.reduceLeDiff, Nat.reduceAdd, Nat.reduceEqDiff, false_imp_iff, true_imp_iff, not_false_eq_true, not_true_eq_false, imp_self, forall_const, lit_le (k := 12) (n := 12) (by omega) (by omega)]
      refine st_X1_weigh_33 ?_; simp only [bX1_weigh_33, exP, stP, p1, p2, pr, pobj, parr, sh0, sh1, sh2, sh3, sh4, sh5, sh6, sh7, sh8, sh9, sh10, sh11, sh12, sh13, sh14, sh15, sh16, sh17, sh18, sh19, sh20, sh21, sh22, sh23, sh24, sh25, sh26, sh27, sh28, sh29, sh30, sh31, sh32, sh33, sh34, sh35, sh36, sh37, sh38, sh39, sh40, sh41, sh42, sh43, sh44, sh45, sh46, sh47, sh48, sh49, sh50, sh51, sh52, sh53, sh54, sh55, sh56, sh57, sh58, sh59, brP, brN, swP, amask, apush, List.getElem?_cons_zero, List.getElem?_cons_succ, List.set_cons_zero, List.set_cons_succ, List.take_succ_cons, List.take_zero, List.drop_succ_cons, List.drop_zero, List.reverse_cons, List.reverse_nil, List.nil_append, List.cons_append, List.length_cons, List.length_nil, true_and, and_true, Nat.zero_le, Nat.reduceLeDiff, Nat.reduceAdd, Nat.reduceEqDiff, false_imp_iff, true_imp_iff, not_false_eq_true, not_true_eq_false, imp_self, forall_const]
      exact ⟨Or.inl trivial, x, rfl, hx⟩
    | succ n ih =>
      intro j x h hx
      have hj : j < 12 := by omega
      have vj := eq_true (vp_in_nI (show j < 12 by omega) (show 12 < 2 ^ 31 by omega))
      have cj := nI_clamp (show j < 2 ^ 31 by omega)
      have hr := wsN_range (t := t) hw j (by omega)
      have hwj := hw j hj
      refine st_X1_weigh_4 ?_; simp only [bX1_weigh_4, exP, stP, p1, p2, pr, pobj, parr, sh0, sh1, sh2, sh3, sh4, sh5, sh6, sh7, sh8, sh9, sh10, sh11, sh12, sh13, sh14, sh15, sh16, sh17, sh18, sh19, sh20, sh21, sh22, sh23, sh24, sh25, sh26, sh27, sh28, sh29, sh30, sh31, sh32, sh33, sh34, sh35, sh36, sh37, sh38, sh39, sh40, sh41, sh42, sh43, sh44, sh45, sh46, sh47, sh48, sh49, sh50, sh51, sh52, sh53, sh54, sh55, sh56, sh57, sh58, sh59, brP, brN, swP, amask, apush, List.getElem?_cons_zero, List.getElem?_cons_succ, List.set_cons_zero, List.set_cons_succ, List.take_succ_cons, List.take_zero, List.drop_succ_cons, List.drop_zero, List.reverse_cons, List.reverse_nil, List.nil_append, List.cons_append, List.length_cons, List.length_nil, true_and, and_true, Nat.zero_le, Nat.reduceLeDiff, Nat.reduceAdd, Nat.reduceEqDiff, false_imp_iff, true_imp_iff, not_false_eq_true, not_true_eq_false, imp_self, forall_const, lit_nle (k := 12) (n := j) hj (by omega)]
      refine st_X1_weigh_10 ?_; simp only [bX1_weigh_10, exP, stP, p1, p2, pr, pobj, parr, sh0, sh1, sh2, sh3, sh4, sh5, sh6, sh7, sh8, sh9, sh10, sh11, sh12, sh13, sh14, sh15, sh16, sh17, sh18, sh19, sh20, sh21, sh22, sh23, sh24, sh25, sh26, sh27, sh28, sh29, sh30, sh31, sh32, sh33, sh34, sh35, sh36, sh37, sh38, sh39, sh40, sh41, sh42, sh43, sh44, sh45, sh46, sh47, sh48, sh49, sh50, sh51, sh52, sh53, sh54, sh55, sh56, sh57, sh58, sh59, brP, brN, swP, amask, apush, List.getElem?_cons_zero, List.getElem?_cons_succ, List.set_cons_zero, List.set_cons_succ, List.take_succ_cons, List.take_zero, List.drop_succ_cons, List.drop_zero, List.reverse_cons, List.reverse_nil, List.nil_append, List.cons_append, List.length_cons, List.length_nil, true_and, and_true, Nat.zero_le, Nat.reduceLeDiff, Nat.reduceAdd, Nat.reduceEqDiff, false_imp_iff, true_imp_iff, not_false_eq_true, not_true_eq_false, imp_self, forall_const]
      refine ⟨_, ⟨0, by decide, c_holds _ _ j (by omega)⟩, ?_⟩; rintro _ _ ⟨rfl, rfl⟩; simp only [exP, stP, p1, p2, pr, pobj, parr, sh0, sh1, sh2, sh3, sh4, sh5, sh6, sh7, sh8, sh9, sh10, sh11, sh12, sh13, sh14, sh15, sh16, sh17, sh18, sh19, sh20, sh21, sh22, sh23, sh24, sh25, sh26, sh27, sh28, sh29, sh30, sh31, sh32, sh33, sh34, sh35, sh36, sh37, sh38, sh39, sh40, sh41, sh42, sh43, sh44, sh45, sh46, sh47, sh48, sh49, sh50, sh51, sh52, sh53, sh54, sh55, sh56, sh57, sh58, sh59, brP, brN, swP, amask, apush, List.getElem?_cons_zero, List.getElem?_cons_succ, List.set_cons_zero, List.set_cons_succ, List.take_succ_cons, List.take_zero, List.drop_succ_cons, List.drop_zero, List.reverse_cons, List.reverse_nil, List.nil_append, List.cons_append, List.length_cons, List.length_nil, true_and, and_true, Nat.zero_le, Nat.reduceLeDiff, Nat.reduceAdd, Nat.reduceEqDiff, false_imp_iff, true_imp_iff, not_false_eq_true, not_true_eq_false, imp_self, forall_const, b01_0, bt_nI (show t < 4294967296 by omega)]
      refine ⟨fun c => ?_, fun c => ?_⟩
      · refine st_X1_weigh_27 ?_; simp only [bX1_weigh_27, exP, stP, p1, p2, pr, pobj, parr, sh0, sh1, sh2, sh3, sh4, sh5, sh6, sh7, sh8, sh9, sh10, sh11, sh12, sh13, sh14, sh15, sh16, sh17, sh18, sh19, sh20, sh21, sh22, sh23, sh24, sh25, sh26, sh27, sh28, sh29, sh30, sh31, sh32, sh33, sh34, sh35, sh36, sh37, sh38, sh39, sh40, sh41, sh42, sh43, sh44, sh45, sh46, sh47, sh48, sh49, sh50, sh51, sh52, sh53, sh54, sh55, sh56, sh57, sh58, sh59, brP, brN, swP, amask, apush, List.getElem?_cons_zero, List.getElem?_cons_succ, List.set_cons_zero, List.set_cons_succ, List.take_succ_cons, List.take_zero, List.drop_succ_cons, List.drop_zero, List.reverse_cons, List.reverse_nil, List.nil_append, List.cons_append, List.length_cons, List.length_nil, true_and, and_true, Nat.zero_le, Nat.reduceLeDiff, Nat.reduceAdd, Nat.reduceEqDiff, false_imp_iff, true_imp_iff, not_false_eq_true, not_true_eq_false, imp_self, forall_const]
        rw [nI_1]
        refine ih (j + 1) x (by omega) ?_
        unfold wsN
        rw [c, hx]; simp
      · refine st_X1_weigh_18 ?_; simp only [bX1_weigh_18, exP, stP, p1, p2, pr, pobj, parr, sh0, sh1, sh2, sh3, sh4, sh5, sh6, sh7, sh8, sh9, sh10, sh11, sh12, sh13, sh14, sh15, sh16, sh17, sh18, sh19, sh20, sh21, sh22, sh23, sh24, sh25, sh26, sh27, sh28, sh29, sh30, sh31, sh32, sh33, sh34, sh35, sh36, sh37, sh38, sh39, sh40, sh41, sh42, sh43, sh44, sh45, sh46, sh47, sh48, sh49, sh50, sh51, sh52, sh53, sh54, sh55, sh56, sh57, sh58, sh59, brP, brN, swP, amask, apush, List.getElem?_cons_zero, List.getElem?_cons_succ, List.set_cons_zero, List.set_cons_succ, List.take_succ_cons, List.take_zero, List.drop_succ_cons, List.drop_zero, List.reverse_cons, List.reverse_nil, List.nil_append, List.cons_append, List.length_cons, List.length_nil, true_and, and_true, Nat.zero_le, Nat.reduceLeDiff, Nat.reduceAdd, Nat.reduceEqDiff, false_imp_iff, true_imp_iff, not_false_eq_true, not_true_eq_false, imp_self, forall_const, vj, cj]
        refine st_X1_weigh_27 ?_; simp only [bX1_weigh_27, exP, stP, p1, p2, pr, pobj, parr, sh0, sh1, sh2, sh3, sh4, sh5, sh6, sh7, sh8, sh9, sh10, sh11, sh12, sh13, sh14, sh15, sh16, sh17, sh18, sh19, sh20, sh21, sh22, sh23, sh24, sh25, sh26, sh27, sh28, sh29, sh30, sh31, sh32, sh33, sh34, sh35, sh36, sh37, sh38, sh39, sh40, sh41, sh42, sh43, sh44, sh45, sh46, sh47, sh48, sh49, sh50, sh51, sh52, sh53, sh54, sh55, sh56, sh57, sh58, sh59, brP, brN, swP, amask, apush, List.getElem?_cons_zero, List.getElem?_cons_succ, List.set_cons_zero, List.set_cons_succ, List.take_succ_cons, List.take_zero, List.drop_succ_cons, List.drop_zero, List.reverse_cons, List.reverse_nil, List.nil_append, List.cons_append, List.length_cons, List.length_nil, true_and, and_true, Nat.zero_le, Nat.reduceLeDiff, Nat.reduceAdd, Nat.reduceEqDiff, false_imp_iff, true_imp_iff, not_false_eq_true, not_true_eq_false, imp_self, forall_const]
        rw [nI_1]
        refine ih (j + 1) _ (by omega) ?_
        have c2 : t.testBit j = true := by simpa using c
        unfold wtm at hwj
        unfold wsN
        rw [if_pos c2, i32_add (by omega) (by omega), hx]
        rfl
  refine st_X1_weigh_0 ?_; simp only [bX1_weigh_0, exP, stP, p1, p2, pr, pobj, parr, sh0, sh1, sh2, sh3, sh4, sh5, sh6, sh7, sh8, sh9, sh10, sh11, sh12, sh13, sh14, sh15, sh16, sh17, sh18, sh19, sh20, sh21, sh22, sh23, sh24, sh25, sh26, sh27, sh28, sh29, sh30, sh31, sh32, sh33, sh34, sh35, sh36, sh37, sh38, sh39, sh40, sh41, sh42, sh43, sh44, sh45, sh46, sh47, sh48, sh49, sh50, sh51, sh52, sh53, sh54, sh55, sh56, sh57, sh58, sh59, brP, brN, swP, amask, apush, List.getElem?_cons_zero, List.getElem?_cons_succ, List.set_cons_zero, List.set_cons_succ, List.take_succ_cons, List.take_zero, List.drop_succ_cons, List.drop_zero, List.reverse_cons, List.reverse_nil, List.nil_append, List.cons_append, List.length_cons, List.length_nil, true_and, and_true, Nat.zero_le, Nat.reduceLeDiff, Nat.reduceAdd, Nat.reduceEqDiff, false_imp_iff, true_imp_iff, not_false_eq_true, not_true_eq_false, imp_self, forall_const]
  exact loop 12 0 0 rfl rfl
theorem c_compare (m : AM) (x y : Int32) : AC 0 kJ6_compare [.inl x, .inl y] m (fun z u => m = u ∧ z = some (if x < y then -1 else if x = y then 0 else 1)) := by
  refine AC_of own_J6_compare (ls := [some (.inl x), some (.inl y)]) (z := 0) (Nat.le_of_ble_eq_true rfl) rfl ?_
  refine st_J6_compare_0 ?_; simp only [bJ6_compare_0, exP, stP, p1, p2, pr, pobj, parr, sh0, sh1, sh2, sh3, sh4, sh5, sh6, sh7, sh8, sh9, sh10, sh11, sh12, sh13, sh14, sh15, sh16, sh17, sh18, sh19, sh20, sh21, sh22, sh23, sh24, sh25, sh26, sh27, sh28, sh29, sh30, sh31, sh32, sh33, sh34, sh35, sh36, sh37, sh38, sh39, sh40, sh41, sh42, sh43, sh44, sh45, sh46, sh47, sh48, sh49, sh50, sh51, sh52, sh53, sh54, sh55, sh56, sh57, sh58, sh59, brP, brN, swP, amask, apush, List.getElem?_cons_zero, List.getElem?_cons_succ, List.set_cons_zero, List.set_cons_succ, List.take_succ_cons, List.take_zero, List.drop_succ_cons, List.drop_zero, List.reverse_cons, List.reverse_nil, List.nil_append, List.cons_append, List.length_cons, List.length_nil, true_and, and_true, Nat.zero_le, Nat.reduceLeDiff, Nat.reduceAdd, Nat.reduceEqDiff, false_imp_iff, true_imp_iff, not_false_eq_true, not_true_eq_false, imp_self, forall_const]
  refine ⟨fun c => ?_, fun c => ?_⟩
  · have c1 : ¬ x < y := by rw [Int32.lt_iff_toInt_lt]; rw [Int32.le_iff_toInt_le] at c; omega
    refine st_J6_compare_9 ?_; simp only [bJ6_compare_9, exP, stP, p1, p2, pr, pobj, parr, sh0, sh1, sh2, sh3, sh4, sh5, sh6, sh7, sh8, sh9, sh10, sh11, sh12, sh13, sh14, sh15, sh16, sh17, sh18, sh19, sh20, sh21, sh22, sh23, sh24, sh25, sh26, sh27, sh28, sh29, sh30, sh31, sh32, sh33, sh34, sh35, sh36, sh37, sh38, sh39, sh40, sh41, sh42, sh43, sh44, sh45, sh46, sh47, sh48, sh49, sh50, sh51, sh52, sh53, sh54, sh55, sh56, sh57, sh58, sh59, brP, brN, swP, amask, apush, List.getElem?_cons_zero, List.getElem?_cons_succ, List.set_cons_zero, List.set_cons_succ, List.take_succ_cons, List.take_zero, List.drop_succ_cons, List.drop_zero, List.reverse_cons, List.reverse_nil, List.nil_append, List.cons_append, List.length_cons, List.length_nil, true_and, and_true, Nat.zero_le, Nat.reduceLeDiff, Nat.reduceAdd, Nat.reduceEqDiff, false_imp_iff, true_imp_iff, not_false_eq_true, not_true_eq_false, imp_self, forall_const]
    refine ⟨fun c2 => ?_, fun c2 => ?_⟩
    · refine st_J6_compare_18 ?_; simp only [bJ6_compare_18, exP, stP, p1, p2, pr, pobj, parr, sh0, sh1, sh2, sh3, sh4, sh5, sh6, sh7, sh8, sh9, sh10, sh11, sh12, sh13, sh14, sh15, sh16, sh17, sh18, sh19, sh20, sh21, sh22, sh23, sh24, sh25, sh26, sh27, sh28, sh29, sh30, sh31, sh32, sh33, sh34, sh35, sh36, sh37, sh38, sh39, sh40, sh41, sh42, sh43, sh44, sh45, sh46, sh47, sh48, sh49, sh50, sh51, sh52, sh53, sh54, sh55, sh56, sh57, sh58, sh59, brP, brN, swP, amask, apush, List.getElem?_cons_zero, List.getElem?_cons_succ, List.set_cons_zero, List.set_cons_succ, List.take_succ_cons, List.take_zero, List.drop_succ_cons, List.drop_zero, List.reverse_cons, List.reverse_nil, List.nil_append, List.cons_append, List.length_cons, List.length_nil, true_and, and_true, Nat.zero_le, Nat.reduceLeDiff, Nat.reduceAdd, Nat.reduceEqDiff, false_imp_iff, true_imp_iff, not_false_eq_true, not_true_eq_false, imp_self, forall_const]
      refine st_J6_compare_19 ?_; simp only [bJ6_compare_19, exP, stP, p1, p2, pr, pobj, parr, sh0, sh1, sh2, sh3, sh4, sh5, sh6, sh7, sh8, sh9, sh10, sh11, sh12, sh13, sh14, sh15, sh16, sh17, sh18, sh19, sh20, sh21, sh22, sh23, sh24, sh25, sh26, sh27, sh28, sh29, sh30, sh31, sh32, sh33, sh34, sh35, sh36, sh37, sh38, sh39, sh40, sh41, sh42, sh43, sh44, sh45, sh46, sh47, sh48, sh49, sh50, sh51, sh52, sh53, sh54, sh55, sh56, sh57, sh58, sh59, brP, brN, swP, amask, apush, List.getElem?_cons_zero, List.getElem?_cons_succ, List.set_cons_zero, List.set_cons_succ, List.take_succ_cons, List.take_zero, List.drop_succ_cons, List.drop_zero, List.reverse_cons, List.reverse_nil, List.nil_append, List.cons_append, List.length_cons, List.length_nil, true_and, and_true, Nat.zero_le, Nat.reduceLeDiff, Nat.reduceAdd, Nat.reduceEqDiff, false_imp_iff, true_imp_iff, not_false_eq_true, not_true_eq_false, imp_self, forall_const]
      rw [if_neg c1, if_neg c2]; simp
    · refine st_J6_compare_14 ?_; simp only [bJ6_compare_14, exP, stP, p1, p2, pr, pobj, parr, sh0, sh1, sh2, sh3, sh4, sh5, sh6, sh7, sh8, sh9, sh10, sh11, sh12, sh13, sh14, sh15, sh16, sh17, sh18, sh19, sh20, sh21, sh22, sh23, sh24, sh25, sh26, sh27, sh28, sh29, sh30, sh31, sh32, sh33, sh34, sh35, sh36, sh37, sh38, sh39, sh40, sh41, sh42, sh43, sh44, sh45, sh46, sh47, sh48, sh49, sh50, sh51, sh52, sh53, sh54, sh55, sh56, sh57, sh58, sh59, brP, brN, swP, amask, apush, List.getElem?_cons_zero, List.getElem?_cons_succ, List.set_cons_zero, List.set_cons_succ, List.take_succ_cons, List.take_zero, List.drop_succ_cons, List.drop_zero, List.reverse_cons, List.reverse_nil, List.nil_append, List.cons_append, List.length_cons, List.length_nil, true_and, and_true, Nat.zero_le, Nat.reduceLeDiff, Nat.reduceAdd, Nat.reduceEqDiff, false_imp_iff, true_imp_iff, not_false_eq_true, not_true_eq_false, imp_self, forall_const]
      refine st_J6_compare_19 ?_; simp only [bJ6_compare_19, exP, stP, p1, p2, pr, pobj, parr, sh0, sh1, sh2, sh3, sh4, sh5, sh6, sh7, sh8, sh9, sh10, sh11, sh12, sh13, sh14, sh15, sh16, sh17, sh18, sh19, sh20, sh21, sh22, sh23, sh24, sh25, sh26, sh27, sh28, sh29, sh30, sh31, sh32, sh33, sh34, sh35, sh36, sh37, sh38, sh39, sh40, sh41, sh42, sh43, sh44, sh45, sh46, sh47, sh48, sh49, sh50, sh51, sh52, sh53, sh54, sh55, sh56, sh57, sh58, sh59, brP, brN, swP, amask, apush, List.getElem?_cons_zero, List.getElem?_cons_succ, List.set_cons_zero, List.set_cons_succ, List.take_succ_cons, List.take_zero, List.drop_succ_cons, List.drop_zero, List.reverse_cons, List.reverse_nil, List.nil_append, List.cons_append, List.length_cons, List.length_nil, true_and, and_true, Nat.zero_le, Nat.reduceLeDiff, Nat.reduceAdd, Nat.reduceEqDiff, false_imp_iff, true_imp_iff, not_false_eq_true, not_true_eq_false, imp_self, forall_const]
      rw [if_neg c1, if_pos c2]; simp
  · have c1 : x < y := by rw [Int32.lt_iff_toInt_lt]; rw [Int32.le_iff_toInt_le] at c; omega
    refine st_J6_compare_5 ?_; simp only [bJ6_compare_5, exP, stP, p1, p2, pr, pobj, parr, sh0, sh1, sh2, sh3, sh4, sh5, sh6, sh7, sh8, sh9, sh10, sh11, sh12, sh13, sh14, sh15, sh16, sh17, sh18, sh19, sh20, sh21, sh22, sh23, sh24, sh25, sh26, sh27, sh28, sh29, sh30, sh31, sh32, sh33, sh34, sh35, sh36, sh37, sh38, sh39, sh40, sh41, sh42, sh43, sh44, sh45, sh46, sh47, sh48, sh49, sh50, sh51, sh52, sh53, sh54, sh55, sh56, sh57, sh58, sh59, brP, brN, swP, amask, apush, List.getElem?_cons_zero, List.getElem?_cons_succ, List.set_cons_zero, List.set_cons_succ, List.take_succ_cons, List.take_zero, List.drop_succ_cons, List.drop_zero, List.reverse_cons, List.reverse_nil, List.nil_append, List.cons_append, List.length_cons, List.length_nil, true_and, and_true, Nat.zero_le, Nat.reduceLeDiff, Nat.reduceAdd, Nat.reduceEqDiff, false_imp_iff, true_imp_iff, not_false_eq_true, not_true_eq_false, imp_self, forall_const]
    refine st_J6_compare_19 ?_; simp only [bJ6_compare_19, exP, stP, p1, p2, pr, pobj, parr, sh0, sh1, sh2, sh3, sh4, sh5, sh6, sh7, sh8, sh9, sh10, sh11, sh12, sh13, sh14, sh15, sh16, sh17, sh18, sh19, sh20, sh21, sh22, sh23, sh24, sh25, sh26, sh27, sh28, sh29, sh30, sh31, sh32, sh33, sh34, sh35, sh36, sh37, sh38, sh39, sh40, sh41, sh42, sh43, sh44, sh45, sh46, sh47, sh48, sh49, sh50, sh51, sh52, sh53, sh54, sh55, sh56, sh57, sh58, sh59, brP, brN, swP, amask, apush, List.getElem?_cons_zero, List.getElem?_cons_succ, List.set_cons_zero, List.set_cons_succ, List.take_succ_cons, List.take_zero, List.drop_succ_cons, List.drop_zero, List.reverse_cons, List.reverse_nil, List.nil_append, List.cons_append, List.length_cons, List.length_nil, true_and, and_true, Nat.zero_le, Nat.reduceLeDiff, Nat.reduceAdd, Nat.reduceEqDiff, false_imp_iff, true_imp_iff, not_false_eq_true, not_true_eq_false, imp_self, forall_const]
    rw [if_pos c1]; simp
set_option maxRecDepth 100000 in
theorem bc_64 : (List.range 64).all (fun a => (List.range 64).all (fun b => decide (f_bc (nI (a * 64 + b)) = nI (sz (a * 64 + b))))) = true := by decide +kernel
theorem bc_sz {t : Nat} (h : t < 4096) : f_bc (nI t) = nI (sz t) := by
  have h1 := List.all_eq_true.mp bc_64 (t / 64) (List.mem_range.mpr (by omega))
  have h2 := List.all_eq_true.mp h1 (t % 64) (List.mem_range.mpr (by omega))
  have e : t / 64 * 64 + t % 64 = t := by omega
  rw [e] at h2
  simpa using h2
/-- the best so far -/
def SB (m u : AM) (b : Nat) : Prop := low12 b ∧ u 25 2 = nI b ∧ (u 25 3).toInt = ws (wtm m) b
def SM (m u : AM) : Prop := (∀ j, j ≠ 15 → j ≠ 22 → j ≠ 23 → j ≠ 24 → j ≠ 25 → u j = m j) ∧ ∀ j, j ≠ 10 → u 15 j = m 15 j
theorem SM.rf (m : AM) : SM m m := ⟨fun _ _ _ _ _ _ => rfl, fun _ _ => rfl⟩
theorem SM.tr {m u v : AM} (h1 : SM m u) (h2 : SM u v) : SM m v := ⟨fun j a b c d e => (h2.1 j a b c d e).trans (h1.1 j a b c d e), fun j a => (h2.2 j a).trans (h1.2 j a)⟩
theorem RM.sm {m u : AM} (h : RM m u) : SM m u := ⟨fun j a b c d _ => h.1 j a b c d, h.2⟩
theorem SM.eF {m u : AM} (h : SM m u) : nF u = nF m := by funext d; unfold nF; rw [h.1 16 (by omega) (by omega) (by omega) (by omega) (by omega)]
theorem SM.eL {m u : AM} (h : SM m u) : nL u = nL m := by funext d; unfold nL; rw [h.1 17 (by omega) (by omega) (by omega) (by omega) (by omega)]
theorem SM.eC {m u : AM} (h : SM m u) : nC u = nC m := by
  funext a b
  have e1 := h.1 19 (by omega) (by omega) (by omega) (by omega) (by omega)
  have e2 := h.1 18 (by omega) (by omega) (by omega) (by omega) (by omega)
  have e3 := h.2 9 (by omega)
  unfold nC
  rw [e1, e2, e3]
theorem SM.eW {m u : AM} (h : SM m u) : wtm u = wtm m := by funext d; unfold wtm; rw [h.1 26 (by omega) (by omega) (by omega) (by omega) (by omega)]
theorem SM.tw {m u : AM} (h : SM m u) (hm : TW m) : TW u := by
  unfold TW
  rw [h.eF, h.eL, h.2 9 (by omega)]
  exact hm
theorem SM.wok {m u : AM} (h : SM m u) (hm : WOK m) : WOK u := by
  unfold WOK
  rw [h.eW]
  exact hm
def KB (m : AM) (x b : Nat) : APost := fun z u => z = none ∧ (∀ j, j ≠ 25 → u j = m j) ∧ ∃ b', (b' = x ∨ b' = b) ∧ SB m u b' ∧ nw (wtm m) b' x ∧ nw (wtm m) b' b
theorem c_keepBetter (m : AM) (hw : WOK m) (x b : Nat) (hx : low12 x) (hS : SB m m b) : AC 2 kX1_keepBetter [.inr 25, .inl (nI x)] m (KB m x b) := by
  have hx2 := low12_lt hx
  obtain ⟨hb, hb1, hb2⟩ := hS
  have hb3 := low12_lt hb
  have hsx := pcN_le x 12
  have hsb := pcN_le b 12
  have hsx2 : sz x ≤ 12 := hsx
  have hsb2 : sz b ≤ 12 := hsb
  refine AC_of own_X1_keepBetter (ls := [some (.inr 25), some (.inl (nI x)), none]) (z := 1) (Nat.le_of_ble_eq_true rfl) rfl ?_
  have stay : nw (wtm m) b x → AW 2 kX1_keepBetter (KB m x b) 62 [none, none, none] [] m := by
    intro h
    refine st_X1_keepBetter_62 ?_; simp only [bX1_keepBetter_62, exP, stP, p1, p2, pr, pobj, parr, sh0, sh1, sh2, sh3, sh4, sh5, sh6, sh7, sh8, sh9, sh10, sh11, sh12, sh13, sh14, sh15, sh16, sh17, sh18, sh19, sh20, sh21, sh22, sh23, sh24, sh25, sh26, sh27, sh28, sh29, sh30, sh31, sh32, sh33, sh34, sh35, sh36, sh37, sh38, sh39, sh40, sh41, sh42, sh43, sh44, sh45, sh46, sh47, sh48, sh49, sh50, sh51, sh52, sh53, sh54, sh55, sh56, sh57, sh58, sh59, brP, brN, swP, amask, apush, List.getElem?_cons_zero, List.getElem?_cons_succ, List.set_cons_zero, List.set_cons_succ, List.take_succ_cons, List.take_zero, List.drop_succ_cons, List.drop_zero, List.reverse_cons, List.reverse_nil, List.nil_append, List.cons_append, List.length_cons, List.length_nil, true_and, and_true, Nat.zero_le, Nat.reduceLeDiff, Nat.reduceAdd, Nat.reduceEqDiff, false_imp_iff, true_imp_iff, not_false_eq_true, not_true_eq_false, imp_self, forall_const]
    exact ⟨rfl, fun _ _ => rfl, b, Or.inr rfl, ⟨hb, hb1, hb2⟩, h, nw_refl _ _⟩
  have take : nw (wtm m) x b → AW 2 kX1_keepBetter (KB m x b) 48 [some (.inr 25), some (.inl (nI x)), none] [] m := by
    intro h
    refine st_X1_keepBetter_48 ?_; simp only [bX1_keepBetter_48, exP, stP, p1, p2, pr, pobj, parr, sh0, sh1, sh2, sh3, sh4, sh5, sh6, sh7, sh8, sh9, sh10, sh11, sh12, sh13, sh14, sh15, sh16, sh17, sh18, sh19, sh20, sh21, sh22, sh23, sh24, sh25, sh26, sh27, sh28, sh29, sh30, sh31, sh32, sh33, sh34, sh35, sh36, sh37, sh38, sh39, sh40, sh41, sh42, sh43, sh44, sh45, sh46, sh47, sh48, sh49, sh50, sh51, sh52, sh53, sh54, sh55, sh56, sh57, sh58, sh59, brP, brN, swP, amask, apush, List.getElem?_cons_zero, List.getElem?_cons_succ, List.set_cons_zero, List.set_cons_succ, List.take_succ_cons, List.take_zero, List.drop_succ_cons, List.drop_zero, List.reverse_cons, List.reverse_nil, List.nil_append, List.cons_append, List.length_cons, List.length_nil, true_and, and_true, Nat.zero_le, Nat.reduceLeDiff, Nat.reduceAdd, Nat.reduceEqDiff, false_imp_iff, true_imp_iff, not_false_eq_true, not_true_eq_false, imp_self, forall_const, true_or]
    have e26 : wtm (aup m 25 (upd (m 25) 2 (nI x))) = wtm m := by funext i; unfold wtm; rw [aup_ne (by omega)]
    refine ⟨_, ⟨1, by decide, c_weigh _ (by unfold WOK; rw [e26]; exact hw) x hx2⟩, ?_⟩
    rintro z u ⟨rfl, w, rfl, hwx⟩
    simp only [exP, stP, p1, p2, pr, pobj, parr, sh0, sh1, sh2, sh3, sh4, sh5, sh6, sh7, sh8, sh9, sh10, sh11, sh12, sh13, sh14, sh15, sh16, sh17, sh18, sh19, sh20, sh21, sh22, sh23, sh24, sh25, sh26, sh27, sh28, sh29, sh30, sh31, sh32, sh33, sh34, sh35, sh36, sh37, sh38, sh39, sh40, sh41, sh42, sh43, sh44, sh45, sh46, sh47, sh48, sh49, sh50, sh51, sh52, sh53, sh54, sh55, sh56, sh57, sh58, sh59, brP, brN, swP, amask, apush, List.getElem?_cons_zero, List.getElem?_cons_succ, List.set_cons_zero, List.set_cons_succ, List.take_succ_cons, List.take_zero, List.drop_succ_cons, List.drop_zero, List.reverse_cons, List.reverse_nil, List.nil_append, List.cons_append, List.length_cons, List.length_nil, true_and, and_true, Nat.zero_le, Nat.reduceLeDiff, Nat.reduceAdd, Nat.reduceEqDiff, false_imp_iff, true_imp_iff, not_false_eq_true, not_true_eq_false, imp_self, forall_const, true_or]
    refine st_X1_keepBetter_62 ?_; simp only [bX1_keepBetter_62, exP, stP, p1, p2, pr, pobj, parr, sh0, sh1, sh2, sh3, sh4, sh5, sh6, sh7, sh8, sh9, sh10, sh11, sh12, sh13, sh14, sh15, sh16, sh17, sh18, sh19, sh20, sh21, sh22, sh23, sh24, sh25, sh26, sh27, sh28, sh29, sh30, sh31, sh32, sh33, sh34, sh35, sh36, sh37, sh38, sh39, sh40, sh41, sh42, sh43, sh44, sh45, sh46, sh47, sh48, sh49, sh50, sh51, sh52, sh53, sh54, sh55, sh56, sh57, sh58, sh59, brP, brN, swP, amask, apush, List.getElem?_cons_zero, List.getElem?_cons_succ, List.set_cons_zero, List.set_cons_succ, List.take_succ_cons, List.take_zero, List.drop_succ_cons, List.drop_zero, List.reverse_cons, List.reverse_nil, List.nil_append, List.cons_append, List.length_cons, List.length_nil, true_and, and_true, Nat.zero_le, Nat.reduceLeDiff, Nat.reduceAdd, Nat.reduceEqDiff, false_imp_iff, true_imp_iff, not_false_eq_true, not_true_eq_false, imp_self, forall_const]
    rw [e26] at hwx
    refine ⟨rfl, fun j hj => by rw [aup_ne hj, aup_ne hj], x, Or.inl rfl, ⟨hx, ?_, ?_⟩, nw_refl _ _, h⟩
    · rw [aup_eq, upd_ne (by omega), aup_eq, upd_eq]
    · rw [aup_eq, upd_eq]; exact hwx
  have cmp : ∀ p q : Int32, ((if p < q then (-1 : Int32) else if p = q then 0 else 1) < 0 ↔ p.toInt < q.toInt) ∧ ((if p < q then (-1 : Int32) else if p = q then 0 else 1) = 0 ↔ p.toInt = q.toInt) := by
    intro p q
    rw [← Int32.lt_iff_toInt_lt, Int32.toInt_inj]
    by_cases h1 : p < q
    · rw [if_pos h1]
      have h2 : ¬ p = q := fun h => by rw [h, Int32.lt_iff_toInt_lt] at h1; omega
      simp [h1, h2]
    · rw [if_neg h1]
      by_cases h2 : p = q
      · rw [if_pos h2]; simp [h1, h2]
      · rw [if_neg h2]; simp [h1, h2]
  have ti : ∀ n : Nat, n < 4096 → (nI n).toInt = n := fun n hn => nI_toInt (by omega)
  refine st_X1_keepBetter_0 ?_; simp only [bX1_keepBetter_0, exP, stP, p1, p2, pr, pobj, parr, sh0, sh1, sh2, sh3, sh4, sh5, sh6, sh7, sh8, sh9, sh10, sh11, sh12, sh13, sh14, sh15, sh16, sh17, sh18, sh19, sh20, sh21, sh22, sh23, sh24, sh25, sh26, sh27, sh28, sh29, sh30, sh31, sh32, sh33, sh34, sh35, sh36, sh37, sh38, sh39, sh40, sh41, sh42, sh43, sh44, sh45, sh46, sh47, sh48, sh49, sh50, sh51, sh52, sh53, sh54, sh55, sh56, sh57, sh58, sh59, brP, brN, swP, amask, apush, List.getElem?_cons_zero, List.getElem?_cons_succ, List.set_cons_zero, List.set_cons_succ, List.take_succ_cons, List.take_zero, List.drop_succ_cons, List.drop_zero, List.reverse_cons, List.reverse_nil, List.nil_append, List.cons_append, List.length_cons, List.length_nil, true_and, and_true, Nat.zero_le, Nat.reduceLeDiff, Nat.reduceAdd, Nat.reduceEqDiff, false_imp_iff, true_imp_iff, not_false_eq_true, not_true_eq_false, imp_self, forall_const]
  refine ⟨_, ⟨1, by decide, c_weigh m hw x hx2⟩, ?_⟩
  rintro z u ⟨rfl, wx, rfl, hwx⟩
  simp only [exP, stP, p1, p2, pr, pobj, parr, sh0, sh1, sh2, sh3, sh4, sh5, sh6, sh7, sh8, sh9, sh10, sh11, sh12, sh13, sh14, sh15, sh16, sh17, sh18, sh19, sh20, sh21, sh22, sh23, sh24, sh25, sh26, sh27, sh28, sh29, sh30, sh31, sh32, sh33, sh34, sh35, sh36, sh37, sh38, sh39, sh40, sh41, sh42, sh43, sh44, sh45, sh46, sh47, sh48, sh49, sh50, sh51, sh52, sh53, sh54, sh55, sh56, sh57, sh58, sh59, brP, brN, swP, amask, apush, List.getElem?_cons_zero, List.getElem?_cons_succ, List.set_cons_zero, List.set_cons_succ, List.take_succ_cons, List.take_zero, List.drop_succ_cons, List.drop_zero, List.reverse_cons, List.reverse_nil, List.nil_append, List.cons_append, List.length_cons, List.length_nil, true_and, and_true, Nat.zero_le, Nat.reduceLeDiff, Nat.reduceAdd, Nat.reduceEqDiff, false_imp_iff, true_imp_iff, not_false_eq_true, not_true_eq_false, imp_self, forall_const]
  refine ⟨_, ⟨0, by decide, c_compare m wx (m 25 3)⟩, ?_⟩
  rintro z u ⟨rfl, rfl⟩
  simp only [exP, stP, p1, p2, pr, pobj, parr, sh0, sh1, sh2, sh3, sh4, sh5, sh6, sh7, sh8, sh9, sh10, sh11, sh12, sh13, sh14, sh15, sh16, sh17, sh18, sh19, sh20, sh21, sh22, sh23, sh24, sh25, sh26, sh27, sh28, sh29, sh30, sh31, sh32, sh33, sh34, sh35, sh36, sh37, sh38, sh39, sh40, sh41, sh42, sh43, sh44, sh45, sh46, sh47, sh48, sh49, sh50, sh51, sh52, sh53, sh54, sh55, sh56, sh57, sh58, sh59, brP, brN, swP, amask, apush, List.getElem?_cons_zero, List.getElem?_cons_succ, List.set_cons_zero, List.set_cons_succ, List.take_succ_cons, List.take_zero, List.drop_succ_cons, List.drop_zero, List.reverse_cons, List.reverse_nil, List.nil_append, List.cons_append, List.length_cons, List.length_nil, true_and, and_true, Nat.zero_le, Nat.reduceLeDiff, Nat.reduceAdd, Nat.reduceEqDiff, false_imp_iff, true_imp_iff, not_false_eq_true, not_true_eq_false, imp_self, forall_const]
  have cw := cmp wx (m 25 3)
  generalize (if wx < m 25 3 then (-1 : Int32) else if wx = m 25 3 then 0 else 1) = o at cw ⊢
  refine ⟨fun c => ?_, fun c => ?_⟩
  · have hne : wx.toInt ≠ (m 25 3).toInt := fun h => c (cw.2.mpr h)
    refine st_X1_keepBetter_32 ?_; simp only [bX1_keepBetter_32, exP, stP, p1, p2, pr, pobj, parr, sh0, sh1, sh2, sh3, sh4, sh5, sh6, sh7, sh8, sh9, sh10, sh11, sh12, sh13, sh14, sh15, sh16, sh17, sh18, sh19, sh20, sh21, sh22, sh23, sh24, sh25, sh26, sh27, sh28, sh29, sh30, sh31, sh32, sh33, sh34, sh35, sh36, sh37, sh38, sh39, sh40, sh41, sh42, sh43, sh44, sh45, sh46, sh47, sh48, sh49, sh50, sh51, sh52, sh53, sh54, sh55, sh56, sh57, sh58, sh59, brP, brN, swP, amask, apush, List.getElem?_cons_zero, List.getElem?_cons_succ, List.set_cons_zero, List.set_cons_succ, List.take_succ_cons, List.take_zero, List.drop_succ_cons, List.drop_zero, List.reverse_cons, List.reverse_nil, List.nil_append, List.cons_append, List.length_cons, List.length_nil, true_and, and_true, Nat.zero_le, Nat.reduceLeDiff, Nat.reduceAdd, Nat.reduceEqDiff, false_imp_iff, true_imp_iff, not_false_eq_true, not_true_eq_false, imp_self, forall_const]
    refine ⟨fun c1 => take ?_, fun c1 => ?_⟩
    · have := cw.1.mp c1
      unfold nw; omega
    · have hge : ¬ wx.toInt < (m 25 3).toInt := fun h => c1 (cw.1.mpr h)
      refine st_X1_keepBetter_36 ?_; simp only [bX1_keepBetter_36, exP, stP, p1, p2, pr, pobj, parr, sh0, sh1, sh2, sh3, sh4, sh5, sh6, sh7, sh8, sh9, sh10, sh11, sh12, sh13, sh14, sh15, sh16, sh17, sh18, sh19, sh20, sh21, sh22, sh23, sh24, sh25, sh26, sh27, sh28, sh29, sh30, sh31, sh32, sh33, sh34, sh35, sh36, sh37, sh38, sh39, sh40, sh41, sh42, sh43, sh44, sh45, sh46, sh47, sh48, sh49, sh50, sh51, sh52, sh53, sh54, sh55, sh56, sh57, sh58, sh59, brP, brN, swP, amask, apush, List.getElem?_cons_zero, List.getElem?_cons_succ, List.set_cons_zero, List.set_cons_succ, List.take_succ_cons, List.take_zero, List.drop_succ_cons, List.drop_zero, List.reverse_cons, List.reverse_nil, List.nil_append, List.cons_append, List.length_cons, List.length_nil, true_and, and_true, Nat.zero_le, Nat.reduceLeDiff, Nat.reduceAdd, Nat.reduceEqDiff, false_imp_iff, true_imp_iff, not_false_eq_true, not_true_eq_false, imp_self, forall_const, c]
      refine stay ?_
      unfold nw; omega
  · have heq := cw.2.mp c
    refine st_X1_keepBetter_17 ?_; simp only [bX1_keepBetter_17, exP, stP, p1, p2, pr, pobj, parr, sh0, sh1, sh2, sh3, sh4, sh5, sh6, sh7, sh8, sh9, sh10, sh11, sh12, sh13, sh14, sh15, sh16, sh17, sh18, sh19, sh20, sh21, sh22, sh23, sh24, sh25, sh26, sh27, sh28, sh29, sh30, sh31, sh32, sh33, sh34, sh35, sh36, sh37, sh38, sh39, sh40, sh41, sh42, sh43, sh44, sh45, sh46, sh47, sh48, sh49, sh50, sh51, sh52, sh53, sh54, sh55, sh56, sh57, sh58, sh59, brP, brN, swP, amask, apush, List.getElem?_cons_zero, List.getElem?_cons_succ, List.set_cons_zero, List.set_cons_succ, List.take_succ_cons, List.take_zero, List.drop_succ_cons, List.drop_zero, List.reverse_cons, List.reverse_nil, List.nil_append, List.cons_append, List.length_cons, List.length_nil, true_and, and_true, Nat.zero_le, Nat.reduceLeDiff, Nat.reduceAdd, Nat.reduceEqDiff, false_imp_iff, true_imp_iff, not_false_eq_true, not_true_eq_false, imp_self, forall_const]
    refine ⟨_, ⟨0, by decide, c_bitCount m (nI x)⟩, ?_⟩
    rintro z u ⟨rfl, rfl⟩
    simp only [exP, stP, p1, p2, pr, pobj, parr, sh0, sh1, sh2, sh3, sh4, sh5, sh6, sh7, sh8, sh9, sh10, sh11, sh12, sh13, sh14, sh15, sh16, sh17, sh18, sh19, sh20, sh21, sh22, sh23, sh24, sh25, sh26, sh27, sh28, sh29, sh30, sh31, sh32, sh33, sh34, sh35, sh36, sh37, sh38, sh39, sh40, sh41, sh42, sh43, sh44, sh45, sh46, sh47, sh48, sh49, sh50, sh51, sh52, sh53, sh54, sh55, sh56, sh57, sh58, sh59, brP, brN, swP, amask, apush, List.getElem?_cons_zero, List.getElem?_cons_succ, List.set_cons_zero, List.set_cons_succ, List.take_succ_cons, List.take_zero, List.drop_succ_cons, List.drop_zero, List.reverse_cons, List.reverse_nil, List.nil_append, List.cons_append, List.length_cons, List.length_nil, true_and, and_true, Nat.zero_le, Nat.reduceLeDiff, Nat.reduceAdd, Nat.reduceEqDiff, false_imp_iff, true_imp_iff, not_false_eq_true, not_true_eq_false, imp_self, forall_const]
    refine ⟨_, ⟨0, by decide, c_bitCount m (m 25 2)⟩, ?_⟩
    rintro z u ⟨rfl, rfl⟩
    simp only [exP, stP, p1, p2, pr, pobj, parr, sh0, sh1, sh2, sh3, sh4, sh5, sh6, sh7, sh8, sh9, sh10, sh11, sh12, sh13, sh14, sh15, sh16, sh17, sh18, sh19, sh20, sh21, sh22, sh23, sh24, sh25, sh26, sh27, sh28, sh29, sh30, sh31, sh32, sh33, sh34, sh35, sh36, sh37, sh38, sh39, sh40, sh41, sh42, sh43, sh44, sh45, sh46, sh47, sh48, sh49, sh50, sh51, sh52, sh53, sh54, sh55, sh56, sh57, sh58, sh59, brP, brN, swP, amask, apush, List.getElem?_cons_zero, List.getElem?_cons_succ, List.set_cons_zero, List.set_cons_succ, List.take_succ_cons, List.take_zero, List.drop_succ_cons, List.drop_zero, List.reverse_cons, List.reverse_nil, List.nil_append, List.cons_append, List.length_cons, List.length_nil, true_and, and_true, Nat.zero_le, Nat.reduceLeDiff, Nat.reduceAdd, Nat.reduceEqDiff, false_imp_iff, true_imp_iff, not_false_eq_true, not_true_eq_false, imp_self, forall_const]
    refine ⟨_, ⟨0, by decide, c_compare m _ _⟩, ?_⟩
    rintro z u ⟨rfl, rfl⟩
    simp only [exP, stP, p1, p2, pr, pobj, parr, sh0, sh1, sh2, sh3, sh4, sh5, sh6, sh7, sh8, sh9, sh10, sh11, sh12, sh13, sh14, sh15, sh16, sh17, sh18, sh19, sh20, sh21, sh22, sh23, sh24, sh25, sh26, sh27, sh28, sh29, sh30, sh31, sh32, sh33, sh34, sh35, sh36, sh37, sh38, sh39, sh40, sh41, sh42, sh43, sh44, sh45, sh46, sh47, sh48, sh49, sh50, sh51, sh52, sh53, sh54, sh55, sh56, sh57, sh58, sh59, brP, brN, swP, amask, apush, List.getElem?_cons_zero, List.getElem?_cons_succ, List.set_cons_zero, List.set_cons_succ, List.take_succ_cons, List.take_zero, List.drop_succ_cons, List.drop_zero, List.reverse_cons, List.reverse_nil, List.nil_append, List.cons_append, List.length_cons, List.length_nil, true_and, and_true, Nat.zero_le, Nat.reduceLeDiff, Nat.reduceAdd, Nat.reduceEqDiff, false_imp_iff, true_imp_iff, not_false_eq_true, not_true_eq_false, imp_self, forall_const]
    rw [hb1, bc_sz hx2, bc_sz hb3]
    have cs := cmp (nI (sz x)) (nI (sz b))
    rw [ti (sz x) (by omega), ti (sz b) (by omega)] at cs
    generalize (if nI (sz x) < nI (sz b) then (-1 : Int32) else if nI (sz x) = nI (sz b) then 0 else 1) = o2 at cs ⊢
    refine st_X1_keepBetter_32 ?_; simp only [bX1_keepBetter_32, exP, stP, p1, p2, pr, pobj, parr, sh0, sh1, sh2, sh3, sh4, sh5, sh6, sh7, sh8, sh9, sh10, sh11, sh12, sh13, sh14, sh15, sh16, sh17, sh18, sh19, sh20, sh21, sh22, sh23, sh24, sh25, sh26, sh27, sh28, sh29, sh30, sh31, sh32, sh33, sh34, sh35, sh36, sh37, sh38, sh39, sh40, sh41, sh42, sh43, sh44, sh45, sh46, sh47, sh48, sh49, sh50, sh51, sh52, sh53, sh54, sh55, sh56, sh57, sh58, sh59, brP, brN, swP, amask, apush, List.getElem?_cons_zero, List.getElem?_cons_succ, List.set_cons_zero, List.set_cons_succ, List.take_succ_cons, List.take_zero, List.drop_succ_cons, List.drop_zero, List.reverse_cons, List.reverse_nil, List.nil_append, List.cons_append, List.length_cons, List.length_nil, true_and, and_true, Nat.zero_le, Nat.reduceLeDiff, Nat.reduceAdd, Nat.reduceEqDiff, false_imp_iff, true_imp_iff, not_false_eq_true, not_true_eq_false, imp_self, forall_const]
    refine ⟨fun c1 => take ?_, fun c1 => ?_⟩
    · have := cs.1.mp c1
      unfold nw; omega
    · have hge : ¬ (sz x : Int) < (sz b : Int) := fun h => c1 (cs.1.mpr h)
      refine st_X1_keepBetter_36 ?_; simp only [bX1_keepBetter_36, exP, stP, p1, p2, pr, pobj, parr, sh0, sh1, sh2, sh3, sh4, sh5, sh6, sh7, sh8, sh9, sh10, sh11, sh12, sh13, sh14, sh15, sh16, sh17, sh18, sh19, sh20, sh21, sh22, sh23, sh24, sh25, sh26, sh27, sh28, sh29, sh30, sh31, sh32, sh33, sh34, sh35, sh36, sh37, sh38, sh39, sh40, sh41, sh42, sh43, sh44, sh45, sh46, sh47, sh48, sh49, sh50, sh51, sh52, sh53, sh54, sh55, sh56, sh57, sh58, sh59, brP, brN, swP, amask, apush, List.getElem?_cons_zero, List.getElem?_cons_succ, List.set_cons_zero, List.set_cons_succ, List.take_succ_cons, List.take_zero, List.drop_succ_cons, List.drop_zero, List.reverse_cons, List.reverse_nil, List.nil_append, List.cons_append, List.length_cons, List.length_nil, true_and, and_true, Nat.zero_le, Nat.reduceLeDiff, Nat.reduceAdd, Nat.reduceEqDiff, false_imp_iff, true_imp_iff, not_false_eq_true, not_true_eq_false, imp_self, forall_const]
      refine ⟨fun c2 => stay ?_, fun c2 => ?_⟩
      · have hne : (sz x : Int) ≠ (sz b : Int) := fun h => c2 (cs.2.mpr h)
        unfold nw; omega
      · have hse := cs.2.mp c2
        refine st_X1_keepBetter_40 ?_; simp only [bX1_keepBetter_40, exP, stP, p1, p2, pr, pobj, parr, sh0, sh1, sh2, sh3, sh4, sh5, sh6, sh7, sh8, sh9, sh10, sh11, sh12, sh13, sh14, sh15, sh16, sh17, sh18, sh19, sh20, sh21, sh22, sh23, sh24, sh25, sh26, sh27, sh28, sh29, sh30, sh31, sh32, sh33, sh34, sh35, sh36, sh37, sh38, sh39, sh40, sh41, sh42, sh43, sh44, sh45, sh46, sh47, sh48, sh49, sh50, sh51, sh52, sh53, sh54, sh55, sh56, sh57, sh58, sh59, brP, brN, swP, amask, apush, List.getElem?_cons_zero, List.getElem?_cons_succ, List.set_cons_zero, List.set_cons_succ, List.take_succ_cons, List.take_zero, List.drop_succ_cons, List.drop_zero, List.reverse_cons, List.reverse_nil, List.nil_append, List.cons_append, List.length_cons, List.length_nil, true_and, and_true, Nat.zero_le, Nat.reduceLeDiff, Nat.reduceAdd, Nat.reduceEqDiff, false_imp_iff, true_imp_iff, not_false_eq_true, not_true_eq_false, imp_self, forall_const]
        rw [hb1]
        refine ⟨fun c3 => stay ?_, fun c3 => take ?_⟩
        · rw [Int32.le_iff_toInt_le, ti x hx2, ti b hb3] at c3
          unfold nw; omega
        · rw [Int32.le_iff_toInt_le, ti x hx2, ti b hb3] at c3
          unfold nw; omega
def vld (m : AM) (A X : Nat) : Prop := sub X A ∧ agr (nF m) (nL m) (nC m) (dif A X)
theorem SM.vld {m u : AM} (h : SM m u) (A X : Nat) : vld u A X = vld m A X := by show (sub X A ∧ agr (nF u) (nL u) (nC u) (dif A X)) = (sub X A ∧ agr (nF m) (nL m) (nC m) (dif A X)); rw [h.eF, h.eL, h.eC]
def FQ (m : AM) (A gone held b : Nat) : APost := fun z u => z = none ∧ SM m u ∧ ∃ b', SB m u b' ∧ vld m A b' ∧ nw (wtm m) b' b ∧ ∀ X, vld m A X → sub gone X → (∀ i, held.testBit i = true → X.testBit i = false) → nw (wtm m) b' X
theorem or_bit {f j : Nat} (hf : f < 4096) (hj : j < 12) : nI f ||| nI (2 ^ j) = nI (insB f j) := by
  rw [← or_shl hf hj]
  congr 1
  apply b_ext
  intro i hi
  have h2 : 2 ^ j < 2 ^ 12 := Nat.pow_lt_pow_right (by omega) hj
  rw [bt_shl1 (by omega) hi, bt_nI (by omega), Nat.testBit_two_pow]
  by_cases q : j = i
  · subst q; simp
  · have q2 : ¬ i = j := fun r => q r.symm
    simp [q, q2]
theorem shl_pow {j : Nat} (hj : j < 12) : ((1 : Int32) <<< (nI j &&& 31)) = nI (2 ^ j) := by
  apply b_ext
  intro i hi
  have h2 : 2 ^ j < 2 ^ 12 := Nat.pow_lt_pow_right (by omega) hj
  rw [bt_shl1 (by omega) hi, bt_nI (by omega), Nat.testBit_two_pow]
  by_cases q : j = i
  · subst q; simp
  · have q2 : ¬ i = j := fun r => q r.symm
    simp [q, q2]
theorem and3_0 {C T j : Nat} (hC : C < 4096) (hT : T < 4096) (hj : j < 12) : (nI C &&& (nI T ^^^ (-1)) &&& nI (2 ^ j) = 0) ↔ ¬ (C.testBit j = true ∧ T.testBit j = false) := by
  have h2 : 2 ^ j < 2 ^ 12 := Nat.pow_lt_pow_right (by omega) hj
  constructor
  · intro h hh
    have h3 : bt (nI C &&& (nI T ^^^ (-1)) &&& nI (2 ^ j)) j = true := by
      rw [b_and, b_and, bt_not _ (by omega), bt_nI (by omega), bt_nI (by omega), bt_nI (by omega), Nat.testBit_two_pow, hh.1, hh.2]
      simp
    rw [h, b_0] at h3
    cases h3
  · intro h
    apply b_ext
    intro i hi
    rw [b_and, b_and, bt_not _ hi, bt_nI (by omega), bt_nI (by omega), bt_nI (by omega), Nat.testBit_two_pow, b_0]
    by_cases q : j = i
    · subst q
      cases hc : C.testBit j <;> cases ht : T.testBit j <;> simp_all
    · simp [q]
theorem SB.cast {m u v : AM} {b : Nat} (hS : SB m v b) (h : SM m u) : SB u v b := by
  obtain ⟨h1, h2, h3⟩ := hS
  exact ⟨h1, h2, by rw [h.eW]; exact h3⟩
theorem SB.back {m u v : AM} {b : Nat} (hS : SB u v b) (h : SM m u) : SB m v b := by
  obtain ⟨h1, h2, h3⟩ := hS
  exact ⟨h1, h2, by rw [← h.eW]; exact h3⟩
theorem forge_core (A : Nat) (hA : low12 A) (D D' : Nat) (hD : 4 ≤ D') (hDD : D' < D) (m : AM) (gone held b : Nat) (hm : TW m) (hw : WOK m) (hpos : ∀ i, A.testBit i = true → 1 ≤ wtm m i) (hgA : sub gone A) (hheld : low12 held) (hS : SB m m b) (hv : vld m A b)
    (rec : ∀ (u : AM) (gone' held' b' : Nat), TW u → WOK u → (∀ i, A.testBit i = true → 1 ≤ wtm u i) → sz gone' = sz gone + 1 → sub gone' A → low12 held' → SB u u b' → vld u A b' → AC D' kX1_forge [.inr 25, .inl (nI (dif A gone')), .inl (nI gone'), .inl (nI held'), .inl (nI (sz gone'))] u (FQ u A gone' held' b')) :
    AC D kX1_forge [.inr 25, .inl (nI (dif A gone)), .inl (nI gone), .inl (nI held), .inl (nI (sz gone))] m (FQ m A gone held b) := by
  have hg12 : low12 gone := fun i hi => hA i (hgA i hi)
  have hg := low12_lt hg12
  have hl12 : low12 (dif A gone) := fun i hi => by rw [dif_bit] at hi; simp at hi; exact hA i hi.1
  have hl := low12_lt hl12
  have hszg : sz gone ≤ 12 := pcN_le gone 12
  have hheld2 := low12_lt hheld
  refine AC_of own_X1_forge (ls := [some (.inr 25), some (.inl (nI (dif A gone))), some (.inl (nI gone)), some (.inl (nI held)), some (.inl (nI (sz gone))), none, none, none, none]) (z := 4) (Nat.le_of_ble_eq_true rfl) rfl ?_
  refine st_X1_forge_0 ?_; simp only [bX1_forge_0, exP, stP, p1, p2, pr, pobj, parr, sh0, sh1, sh2, sh3, sh4, sh5, sh6, sh7, sh8, sh9, sh10, sh11, sh12, sh13, sh14, sh15, sh16, sh17, sh18, sh19, sh20, sh21, sh22, sh23, sh24, sh25, sh26, sh27, sh28, sh29, sh30, sh31, sh32, sh33, sh34, sh35, sh36, sh37, sh38, sh39, sh40, sh41, sh42, sh43, sh44, sh45, sh46, sh47, sh48, sh49, sh50, sh51, sh52, sh53, sh54, sh55, sh56, sh57, sh58, sh59, brP, brN, swP, amask, apush, List.getElem?_cons_zero, List.getElem?_cons_succ, List.set_cons_zero, List.set_cons_succ, List.take_succ_cons, List.take_zero, List.drop_succ_cons, List.drop_zero, List.reverse_cons, List.reverse_nil, List.nil_append, List.cons_append, List.length_cons, List.length_nil, true_and, and_true, Nat.zero_le, Nat.reduceLeDiff, Nat.reduceAdd, Nat.reduceEqDiff, false_imp_iff, true_imp_iff, not_false_eq_true, not_true_eq_false, imp_self, forall_const, lit_nlt (k := 12) (n := sz gone) hszg (by omega)]
  refine st_X1_forge_7 ?_; simp only [bX1_forge_7, exP, stP, p1, p2, pr, pobj, parr, sh0, sh1, sh2, sh3, sh4, sh5, sh6, sh7, sh8, sh9, sh10, sh11, sh12, sh13, sh14, sh15, sh16, sh17, sh18, sh19, sh20, sh21, sh22, sh23, sh24, sh25, sh26, sh27, sh28, sh29, sh30, sh31, sh32, sh33, sh34, sh35, sh36, sh37, sh38, sh39, sh40, sh41, sh42, sh43, sh44, sh45, sh46, sh47, sh48, sh49, sh50, sh51, sh52, sh53, sh54, sh55, sh56, sh57, sh58, sh59, brP, brN, swP, amask, apush, List.getElem?_cons_zero, List.getElem?_cons_succ, List.set_cons_zero, List.set_cons_succ, List.take_succ_cons, List.take_zero, List.drop_succ_cons, List.drop_zero, List.reverse_cons, List.reverse_nil, List.nil_append, List.cons_append, List.length_cons, List.length_nil, true_and, and_true, Nat.zero_le, Nat.reduceLeDiff, Nat.reduceAdd, Nat.reduceEqDiff, false_imp_iff, true_imp_iff, not_false_eq_true, not_true_eq_false, imp_self, forall_const]
  refine ⟨_, ⟨1, by omega, c_weigh m hw gone hg⟩, ?_⟩
  rintro z u ⟨rfl, wg, rfl, hwg⟩
  simp only [exP, stP, p1, p2, pr, pobj, parr, sh0, sh1, sh2, sh3, sh4, sh5, sh6, sh7, sh8, sh9, sh10, sh11, sh12, sh13, sh14, sh15, sh16, sh17, sh18, sh19, sh20, sh21, sh22, sh23, sh24, sh25, sh26, sh27, sh28, sh29, sh30, sh31, sh32, sh33, sh34, sh35, sh36, sh37, sh38, sh39, sh40, sh41, sh42, sh43, sh44, sh45, sh46, sh47, sh48, sh49, sh50, sh51, sh52, sh53, sh54, sh55, sh56, sh57, sh58, sh59, brP, brN, swP, amask, apush, List.getElem?_cons_zero, List.getElem?_cons_succ, List.set_cons_zero, List.set_cons_succ, List.take_succ_cons, List.take_zero, List.drop_succ_cons, List.drop_zero, List.reverse_cons, List.reverse_nil, List.nil_append, List.cons_append, List.length_cons, List.length_nil, true_and, and_true, Nat.zero_le, Nat.reduceLeDiff, Nat.reduceAdd, Nat.reduceEqDiff, false_imp_iff, true_imp_iff, not_false_eq_true, not_true_eq_false, imp_self, forall_const]
  refine ⟨fun c => ?_, fun c => ?_⟩
  · -- the set isn't too heavy
    refine st_X1_forge_20 ?_; simp only [bX1_forge_20, exP, stP, p1, p2, pr, pobj, parr, sh0, sh1, sh2, sh3, sh4, sh5, sh6, sh7, sh8, sh9, sh10, sh11, sh12, sh13, sh14, sh15, sh16, sh17, sh18, sh19, sh20, sh21, sh22, sh23, sh24, sh25, sh26, sh27, sh28, sh29, sh30, sh31, sh32, sh33, sh34, sh35, sh36, sh37, sh38, sh39, sh40, sh41, sh42, sh43, sh44, sh45, sh46, sh47, sh48, sh49, sh50, sh51, sh52, sh53, sh54, sh55, sh56, sh57, sh58, sh59, brP, brN, swP, amask, apush, List.getElem?_cons_zero, List.getElem?_cons_succ, List.set_cons_zero, List.set_cons_succ, List.take_succ_cons, List.take_zero, List.drop_succ_cons, List.drop_zero, List.reverse_cons, List.reverse_nil, List.nil_append, List.cons_append, List.length_cons, List.length_nil, true_and, and_true, Nat.zero_le, Nat.reduceLeDiff, Nat.reduceAdd, Nat.reduceEqDiff, false_imp_iff, true_imp_iff, not_false_eq_true, not_true_eq_false, imp_self, forall_const]
    refine ⟨_, ⟨3, by omega, c_conflictIn m hm (dif A gone) hl⟩, ?_⟩
    rintro z u ⟨hRM, hz⟩
    have hSM := hRM.sm
    have hSu : SB m u b := by
      obtain ⟨h1, h2, h3⟩ := hS
      have e := hRM.1 25 (by omega) (by omega) (by omega) (by omega)
      exact ⟨h1, by rw [e]; exact h2, by rw [e]; exact h3⟩
    rcases hz with ⟨rfl, hag⟩ | ⟨C, rfl, hC, hC0, hCl, hCn⟩
    · simp only [exP, stP, p1, p2, pr, pobj, parr, sh0, sh1, sh2, sh3, sh4, sh5, sh6, sh7, sh8, sh9, sh10, sh11, sh12, sh13, sh14, sh15, sh16, sh17, sh18, sh19, sh20, sh21, sh22, sh23, sh24, sh25, sh26, sh27, sh28, sh29, sh30, sh31, sh32, sh33, sh34, sh35, sh36, sh37, sh38, sh39, sh40, sh41, sh42, sh43, sh44, sh45, sh46, sh47, sh48, sh49, sh50, sh51, sh52, sh53, sh54, sh55, sh56, sh57, sh58, sh59, brP, brN, swP, amask, apush, List.getElem?_cons_zero, List.getElem?_cons_succ, List.set_cons_zero, List.set_cons_succ, List.take_succ_cons, List.take_zero, List.drop_succ_cons, List.drop_zero, List.reverse_cons, List.reverse_nil, List.nil_append, List.cons_append, List.length_cons, List.length_nil, true_and, and_true, Nat.zero_le, Nat.reduceLeDiff, Nat.reduceAdd, Nat.reduceEqDiff, false_imp_iff, true_imp_iff, not_false_eq_true, not_true_eq_false, imp_self, forall_const]
      refine st_X1_forge_35 ?_; simp only [bX1_forge_35, exP, stP, p1, p2, pr, pobj, parr, sh0, sh1, sh2, sh3, sh4, sh5, sh6, sh7, sh8, sh9, sh10, sh11, sh12, sh13, sh14, sh15, sh16, sh17, sh18, sh19, sh20, sh21, sh22, sh23, sh24, sh25, sh26, sh27, sh28, sh29, sh30, sh31, sh32, sh33, sh34, sh35, sh36, sh37, sh38, sh39, sh40, sh41, sh42, sh43, sh44, sh45, sh46, sh47, sh48, sh49, sh50, sh51, sh52, sh53, sh54, sh55, sh56, sh57, sh58, sh59, brP, brN, swP, amask, apush, List.getElem?_cons_zero, List.getElem?_cons_succ, List.set_cons_zero, List.set_cons_succ, List.take_succ_cons, List.take_zero, List.drop_succ_cons, List.drop_zero, List.reverse_cons, List.reverse_nil, List.nil_append, List.cons_append, List.length_cons, List.length_nil, true_and, and_true, Nat.zero_le, Nat.reduceLeDiff, Nat.reduceAdd, Nat.reduceEqDiff, false_imp_iff, true_imp_iff, not_false_eq_true, not_true_eq_false, imp_self, forall_const]
      refine ⟨_, ⟨2, by omega, c_keepBetter u (hSM.wok hw) gone b hg12 (hSu.cast hSM)⟩, ?_⟩
      rintro z v ⟨rfl, hv1, b', hb', hSb, hn1, hn2⟩
      simp only [exP, stP, p1, p2, pr, pobj, parr, sh0, sh1, sh2, sh3, sh4, sh5, sh6, sh7, sh8, sh9, sh10, sh11, sh12, sh13, sh14, sh15, sh16, sh17, sh18, sh19, sh20, sh21, sh22, sh23, sh24, sh25, sh26, sh27, sh28, sh29, sh30, sh31, sh32, sh33, sh34, sh35, sh36, sh37, sh38, sh39, sh40, sh41, sh42, sh43, sh44, sh45, sh46, sh47, sh48, sh49, sh50, sh51, sh52, sh53, sh54, sh55, sh56, sh57, sh58, sh59, brP, brN, swP, amask, apush, List.getElem?_cons_zero, List.getElem?_cons_succ, List.set_cons_zero, List.set_cons_succ, List.take_succ_cons, List.take_zero, List.drop_succ_cons, List.drop_zero, List.reverse_cons, List.reverse_nil, List.nil_append, List.cons_append, List.length_cons, List.length_nil, true_and, and_true, Nat.zero_le, Nat.reduceLeDiff, Nat.reduceAdd, Nat.reduceEqDiff, false_imp_iff, true_imp_iff, not_false_eq_true, not_true_eq_false, imp_self, forall_const]
      rw [hSM.eW] at hn1 hn2
      have hSMv : SM m v := hSM.tr ⟨fun j _ _ _ _ j5 => hv1 j j5, fun j _ => by rw [hv1 15 (by omega)]⟩
      refine ⟨rfl, hSMv, b', hSb.back hSM, ?_, hn2, fun X hX hgX _ => ?_⟩
      · rcases hb' with rfl | rfl
        · exact ⟨hgA, hag⟩
        · exact hv
      · refine nw_trans hn1 (nw_sub (fun i _ hi => hpos i (hX.1 i hi)) hg12 (fun i hi => hA i (hX.1 i hi)) hgX)
    · have hCne : ¬ nI C = 0 := fun q => hC0 (by
        have h1 := nI_eq (a := C) (b := 0) (by have := low12_lt hC; omega) (by omega)
        exact h1.mp (by rw [q]; rfl))
      have hClt := low12_lt hC
      simp only [exP, stP, p1, p2, pr, pobj, parr, sh0, sh1, sh2, sh3, sh4, sh5, sh6, sh7, sh8, sh9, sh10, sh11, sh12, sh13, sh14, sh15, sh16, sh17, sh18, sh19, sh20, sh21, sh22, sh23, sh24, sh25, sh26, sh27, sh28, sh29, sh30, sh31, sh32, sh33, sh34, sh35, sh36, sh37, sh38, sh39, sh40, sh41, sh42, sh43, sh44, sh45, sh46, sh47, sh48, sh49, sh50, sh51, sh52, sh53, sh54, sh55, sh56, sh57, sh58, sh59, brP, brN, swP, amask, apush, List.getElem?_cons_zero, List.getElem?_cons_succ, List.set_cons_zero, List.set_cons_succ, List.take_succ_cons, List.take_zero, List.drop_succ_cons, List.drop_zero, List.reverse_cons, List.reverse_nil, List.nil_append, List.cons_append, List.length_cons, List.length_nil, true_and, and_true, Nat.zero_le, Nat.reduceLeDiff, Nat.reduceAdd, Nat.reduceEqDiff, false_imp_iff, true_imp_iff, not_false_eq_true, not_true_eq_false, imp_self, forall_const, hCne]
      have loop : ∀ (k j tried b' : Nat) (u : AM), j + k = 12 → SM m u → SB m u b' → vld m A b' → nw (wtm m) b' b → low12 tried → (∀ i, tried.testBit i = true ↔ (held.testBit i = true ∨ (i < j ∧ C.testBit i = true))) → (∀ X, vld m A X → sub gone X → (∀ i, held.testBit i = true → X.testBit i = false) → (∃ i, i < j ∧ C.testBit i = true ∧ X.testBit i = true) → nw (wtm m) b' X) → AW D kX1_forge (FQ m A gone held b) 47 [some (.inr 25), some (.inl (nI (dif A gone))), some (.inl (nI gone)), none, some (.inl (nI (sz gone))), some (.inl (nI C)), some (.inl (nI tried)), some (.inl (nI j)), none] [] u := by
        intro k
        induction k with
        | zero =>
          intro j tried b' u hj hSMu hSb hvb hnb htr htb hX
          obtain rfl : j = 12 := by omega
          refine st_X1_forge_47 ?_; simp only [bX1_forge_47, exP, stP, p1, p2, pr, pobj, parr, sh0, sh1, sh2, sh3, sh4, sh5, sh6, sh7, sh8, sh9, sh10, sh11, sh12, sh13, sh14, sh15, sh16, sh17, sh18, sh19, sh20, sh21, sh22, sh23, sh24, sh25, sh26, sh27, sh28, sh29, sh30, sh31, sh32, sh33, sh34, sh35, sh36, sh37, sh38, sh39, sh40, sh41, sh42, sh43, sh44, sh45, sh46, sh47, sh48, sh49, sh50, sh51, sh52, sh53, sh54, sh55, sh56, sh57, sh58, sh59, brP, brN, swP, amask, apush, List.getElem?_cons_zero, List.getElem?_cons_succ, List.set_cons_zero, List.set_cons_succ, List.take_succ_cons, List.take_zero, List.drop_succ_cons, List.drop_zero, List.reverse_cons, List.reverse_nil, List.nil_append, List.cons_append, List.length_cons, List.length_nil, true_and, and_true, Nat.zero_le, Nat.reduceLeDiff, Nat.reduceAdd, Nat.reduceEqDiff, false_imp_iff, true_imp_iff, not_false_eq_true, not_true_eq_false, imp_self, forall_const, lit_le (k := 12) (n := 12) (by omega) (by omega)]
          refine st_X1_forge_106 ?_; simp only [bX1_forge_106, exP, stP, p1, p2, pr, pobj, parr, sh0, sh1, sh2, sh3, sh4, sh5, sh6, sh7, sh8, sh9, sh10, sh11, sh12, sh13, sh14, sh15, sh16, sh17, sh18, sh19, sh20, sh21, sh22, sh23, sh24, sh25, sh26, sh27, sh28, sh29, sh30, sh31, sh32, sh33, sh34, sh35, sh36, sh37, sh38, sh39, sh40, sh41, sh42, sh43, sh44, sh45, sh46, sh47, sh48, sh49, sh50, sh51, sh52, sh53, sh54, sh55, sh56, sh57, sh58, sh59, brP, brN, swP, amask, apush, List.getElem?_cons_zero, List.getElem?_cons_succ, List.set_cons_zero, List.set_cons_succ, List.take_succ_cons, List.take_zero, List.drop_succ_cons, List.drop_zero, List.reverse_cons, List.reverse_nil, List.nil_append, List.cons_append, List.length_cons, List.length_nil, true_and, and_true, Nat.zero_le, Nat.reduceLeDiff, Nat.reduceAdd, Nat.reduceEqDiff, false_imp_iff, true_imp_iff, not_false_eq_true, not_true_eq_false, imp_self, forall_const]
          refine ⟨rfl, hSMu, b', hSb, hvb, hnb, fun X hvX hgX hhX => hX X hvX hgX hhX ?_⟩
          rcases Classical.em (∃ i, i < 12 ∧ C.testBit i = true ∧ X.testBit i = true) with q | q
          · exact q
          · exfalso
            refine hCn (agr_sub (t := dif A X) (fun i hi => ?_) hvX.2)
            have h1 := hCl i hi
            rw [dif_bit] at h1 ⊢
            simp at h1 ⊢
            refine ⟨h1.1, ?_⟩
            cases r : X.testBit i with
            | false => rfl
            | true => exact absurd ⟨i, hC i hi, hi, r⟩ q
        | succ k ihk =>
          intro j tried b' u hj hSMu hSb hvb hnb htr htb hX
          have hj12 : j < 12 := by omega
          have htr2 := low12_lt htr
          have htj : tried.testBit j = true ↔ held.testBit j = true := by
            rw [htb j]
            constructor
            · rintro (q | q)
              · exact q
              · omega
            · intro q; exact Or.inl q
          refine st_X1_forge_47 ?_; simp only [bX1_forge_47, exP, stP, p1, p2, pr, pobj, parr, sh0, sh1, sh2, sh3, sh4, sh5, sh6, sh7, sh8, sh9, sh10, sh11, sh12, sh13, sh14, sh15, sh16, sh17, sh18, sh19, sh20, sh21, sh22, sh23, sh24, sh25, sh26, sh27, sh28, sh29, sh30, sh31, sh32, sh33, sh34, sh35, sh36, sh37, sh38, sh39, sh40, sh41, sh42, sh43, sh44, sh45, sh46, sh47, sh48, sh49, sh50, sh51, sh52, sh53, sh54, sh55, sh56, sh57, sh58, sh59, brP, brN, swP, amask, apush, List.getElem?_cons_zero, List.getElem?_cons_succ, List.set_cons_zero, List.set_cons_succ, List.take_succ_cons, List.take_zero, List.drop_succ_cons, List.drop_zero, List.reverse_cons, List.reverse_nil, List.nil_append, List.cons_append, List.length_cons, List.length_nil, true_and, and_true, Nat.zero_le, Nat.reduceLeDiff, Nat.reduceAdd, Nat.reduceEqDiff, false_imp_iff, true_imp_iff, not_false_eq_true, not_true_eq_false, imp_self, forall_const, lit_nle (k := 12) (n := j) hj12 (by omega)]
          refine st_X1_forge_54 ?_; simp only [bX1_forge_54, exP, stP, p1, p2, pr, pobj, parr, sh0, sh1, sh2, sh3, sh4, sh5, sh6, sh7, sh8, sh9, sh10, sh11, sh12, sh13, sh14, sh15, sh16, sh17, sh18, sh19, sh20, sh21, sh22, sh23, sh24, sh25, sh26, sh27, sh28, sh29, sh30, sh31, sh32, sh33, sh34, sh35, sh36, sh37, sh38, sh39, sh40, sh41, sh42, sh43, sh44, sh45, sh46, sh47, sh48, sh49, sh50, sh51, sh52, sh53, sh54, sh55, sh56, sh57, sh58, sh59, brP, brN, swP, amask, apush, List.getElem?_cons_zero, List.getElem?_cons_succ, List.set_cons_zero, List.set_cons_succ, List.take_succ_cons, List.take_zero, List.drop_succ_cons, List.drop_zero, List.reverse_cons, List.reverse_nil, List.nil_append, List.cons_append, List.length_cons, List.length_nil, true_and, and_true, Nat.zero_le, Nat.reduceLeDiff, Nat.reduceAdd, Nat.reduceEqDiff, false_imp_iff, true_imp_iff, not_false_eq_true, not_true_eq_false, imp_self, forall_const, shl_pow hj12]
          rw [and3_0 hClt htr2 hj12]
          refine ⟨fun c1 => ?_, fun c1 => ?_⟩
          · refine st_X1_forge_100 ?_; simp only [bX1_forge_100, exP, stP, p1, p2, pr, pobj, parr, sh0, sh1, sh2, sh3, sh4, sh5, sh6, sh7, sh8, sh9, sh10, sh11, sh12, sh13, sh14, sh15, sh16, sh17, sh18, sh19, sh20, sh21, sh22, sh23, sh24, sh25, sh26, sh27, sh28, sh29, sh30, sh31, sh32, sh33, sh34, sh35, sh36, sh37, sh38, sh39, sh40, sh41, sh42, sh43, sh44, sh45, sh46, sh47, sh48, sh49, sh50, sh51, sh52, sh53, sh54, sh55, sh56, sh57, sh58, sh59, brP, brN, swP, amask, apush, List.getElem?_cons_zero, List.getElem?_cons_succ, List.set_cons_zero, List.set_cons_succ, List.take_succ_cons, List.take_zero, List.drop_succ_cons, List.drop_zero, List.reverse_cons, List.reverse_nil, List.nil_append, List.cons_append, List.length_cons, List.length_nil, true_and, and_true, Nat.zero_le, Nat.reduceLeDiff, Nat.reduceAdd, Nat.reduceEqDiff, false_imp_iff, true_imp_iff, not_false_eq_true, not_true_eq_false, imp_self, forall_const]
            rw [nI_1]
            refine ihk (j + 1) tried b' u (by omega) hSMu hSb hvb hnb htr (fun i => ?_) (fun X hvX hgX hhX hex => ?_)
            · rw [htb i]
              constructor
              · rintro (q | ⟨q1, q2⟩)
                · exact Or.inl q
                · exact Or.inr ⟨by omega, q2⟩
              · rintro (q | ⟨q1, q2⟩)
                · exact Or.inl q
                · by_cases r : i = j
                  · subst r
                    left
                    cases s : tried.testBit i with
                    | true => exact htj.mp s
                    | false => exact absurd ⟨q2, s⟩ c1
                  · exact Or.inr ⟨by omega, q2⟩
            · obtain ⟨i, hi, hiC, hiX⟩ := hex
              refine hX X hvX hgX hhX ⟨i, ?_, hiC, hiX⟩
              by_cases r : i = j
              · subst r
                exfalso
                cases s : tried.testBit i with
                | true =>
                  have := hhX i (htj.mp s)
                  rw [hiX] at this; cases this
                | false => exact c1 ⟨hiC, s⟩
              · omega
          · have c2 : C.testBit j = true ∧ tried.testBit j = false := Classical.not_not.mp c1
            have hjl := hCl j c2.1
            rw [dif_bit] at hjl
            simp at hjl
            have hszi : sz (insB gone j) = sz gone + 1 := pcN_ins (s := gone) (t := insB gone j) (d := j) 12 hj12 hjl.2 (fun i _ => insB_bit gone j i)
            have hgi : sub (insB gone j) A := fun i hi => by
              rw [insB_bit] at hi
              simp at hi
              rcases hi with hi | rfl
              · exact hgA i hi
              · exact hjl.1
            have edif : nI (dif A gone) &&& (nI (2 ^ j) ^^^ (-1)) = nI (dif A (insB gone j)) := by
              rw [← shl_pow hj12, and_not hl hj12]
              congr 1
              apply Nat.eq_of_testBit_eq
              intro i
              rw [dif_bit, dif_bit, dif_bit, insB_bit, Nat.testBit_two_pow]
              by_cases q : j = i
              · subst q; simp
              · have q2 : ¬ i = j := fun r => q r.symm
                simp [q, q2]
            refine st_X1_forge_73 ?_; simp only [bX1_forge_73, exP, stP, p1, p2, pr, pobj, parr, sh0, sh1, sh2, sh3, sh4, sh5, sh6, sh7, sh8, sh9, sh10, sh11, sh12, sh13, sh14, sh15, sh16, sh17, sh18, sh19, sh20, sh21, sh22, sh23, sh24, sh25, sh26, sh27, sh28, sh29, sh30, sh31, sh32, sh33, sh34, sh35, sh36, sh37, sh38, sh39, sh40, sh41, sh42, sh43, sh44, sh45, sh46, sh47, sh48, sh49, sh50, sh51, sh52, sh53, sh54, sh55, sh56, sh57, sh58, sh59, brP, brN, swP, amask, apush, List.getElem?_cons_zero, List.getElem?_cons_succ, List.set_cons_zero, List.set_cons_succ, List.take_succ_cons, List.take_zero, List.drop_succ_cons, List.drop_zero, List.reverse_cons, List.reverse_nil, List.nil_append, List.cons_append, List.length_cons, List.length_nil, true_and, and_true, Nat.zero_le, Nat.reduceLeDiff, Nat.reduceAdd, Nat.reduceEqDiff, false_imp_iff, true_imp_iff, not_false_eq_true, not_true_eq_false, imp_self, forall_const]
            rw [edif, or_bit hg hj12, nI_1, ← hszi]
            have hSMu2 := hSMu
            refine ⟨_, ⟨D', hDD, rec u (insB gone j) tried b' (hSMu.tw hm) (hSMu.wok hw) (by rw [hSMu.eW]; exact hpos) hszi hgi htr (hSb.cast hSMu) (by rw [hSMu.vld]; exact hvb)⟩, ?_⟩
            rintro z v ⟨rfl, hSMv, b2, hSb2, hvb2, hnb2, hall⟩
            rw [hSMu.eW] at hnb2
            rw [hSMu.vld] at hvb2
            simp only [exP, stP, p1, p2, pr, pobj, parr, sh0, sh1, sh2, sh3, sh4, sh5, sh6, sh7, sh8, sh9, sh10, sh11, sh12, sh13, sh14, sh15, sh16, sh17, sh18, sh19, sh20, sh21, sh22, sh23, sh24, sh25, sh26, sh27, sh28, sh29, sh30, sh31, sh32, sh33, sh34, sh35, sh36, sh37, sh38, sh39, sh40, sh41, sh42, sh43, sh44, sh45, sh46, sh47, sh48, sh49, sh50, sh51, sh52, sh53, sh54, sh55, sh56, sh57, sh58, sh59, brP, brN, swP, amask, apush, List.getElem?_cons_zero, List.getElem?_cons_succ, List.set_cons_zero, List.set_cons_succ, List.take_succ_cons, List.take_zero, List.drop_succ_cons, List.drop_zero, List.reverse_cons, List.reverse_nil, List.nil_append, List.cons_append, List.length_cons, List.length_nil, true_and, and_true, Nat.zero_le, Nat.reduceLeDiff, Nat.reduceAdd, Nat.reduceEqDiff, false_imp_iff, true_imp_iff, not_false_eq_true, not_true_eq_false, imp_self, forall_const]
            refine st_X1_forge_100 ?_; simp only [bX1_forge_100, exP, stP, p1, p2, pr, pobj, parr, sh0, sh1, sh2, sh3, sh4, sh5, sh6, sh7, sh8, sh9, sh10, sh11, sh12, sh13, sh14, sh15, sh16, sh17, sh18, sh19, sh20, sh21, sh22, sh23, sh24, sh25, sh26, sh27, sh28, sh29, sh30, sh31, sh32, sh33, sh34, sh35, sh36, sh37, sh38, sh39, sh40, sh41, sh42, sh43, sh44, sh45, sh46, sh47, sh48, sh49, sh50, sh51, sh52, sh53, sh54, sh55, sh56, sh57, sh58, sh59, brP, brN, swP, amask, apush, List.getElem?_cons_zero, List.getElem?_cons_succ, List.set_cons_zero, List.set_cons_succ, List.take_succ_cons, List.take_zero, List.drop_succ_cons, List.drop_zero, List.reverse_cons, List.reverse_nil, List.nil_append, List.cons_append, List.length_cons, List.length_nil, true_and, and_true, Nat.zero_le, Nat.reduceLeDiff, Nat.reduceAdd, Nat.reduceEqDiff, false_imp_iff, true_imp_iff, not_false_eq_true, not_true_eq_false, imp_self, forall_const]
            rw [nI_1]
            have hSMv2 := hSMu.tr hSMv
            rw [or_bit htr2 hj12]
            have key := ihk (j + 1) (insB tried j) b2 v (by omega) hSMv2 (hSb2.back hSMu) hvb2 (nw_trans hnb2 hnb) (insB_low htr hj12) (fun i => by
              rw [insB_bit, Bool.or_eq_true, htb i, decide_eq_true_eq]
              constructor
              · rintro ((q | ⟨q1, q2⟩) | rfl)
                · exact Or.inl q
                · exact Or.inr ⟨by omega, q2⟩
                · exact Or.inr ⟨by omega, c2.1⟩
              · rintro (q | ⟨q1, q2⟩)
                · exact Or.inl (Or.inl q)
                · by_cases r : i = j
                  · exact Or.inr r
                  · exact Or.inl (Or.inr ⟨by omega, q2⟩)) (fun X hvX hgX hhX hex => by
              by_cases q : ∃ i, i < j ∧ C.testBit i = true ∧ X.testBit i = true
              · exact nw_trans hnb2 (hX X hvX hgX hhX q)
              · obtain ⟨i, hi, hiC, hiX⟩ := hex
                have hij : i = j := by
                  by_cases r : i = j
                  · exact r
                  · exact absurd ⟨i, by omega, hiC, hiX⟩ q
                subst hij
                have := hall X (by rw [hSMu.vld]; exact hvX) (fun x hx => by
                  rw [insB_bit] at hx
                  simp at hx
                  rcases hx with hx | rfl
                  · exact hgX x hx
                  · exact hiX) (fun x hx => by
                  rcases (htb x).mp hx with r | ⟨r1, r2⟩
                  · exact hhX x r
                  · cases s : X.testBit x with
                    | false => rfl
                    | true => exact absurd ⟨x, r1, r2, s⟩ q)
                rw [hSMu.eW] at this
                exact this)
            exact key
      refine st_X1_forge_41 ?_; simp only [bX1_forge_41, exP, stP, p1, p2, pr, pobj, parr, sh0, sh1, sh2, sh3, sh4, sh5, sh6, sh7, sh8, sh9, sh10, sh11, sh12, sh13, sh14, sh15, sh16, sh17, sh18, sh19, sh20, sh21, sh22, sh23, sh24, sh25, sh26, sh27, sh28, sh29, sh30, sh31, sh32, sh33, sh34, sh35, sh36, sh37, sh38, sh39, sh40, sh41, sh42, sh43, sh44, sh45, sh46, sh47, sh48, sh49, sh50, sh51, sh52, sh53, sh54, sh55, sh56, sh57, sh58, sh59, brP, brN, swP, amask, apush, List.getElem?_cons_zero, List.getElem?_cons_succ, List.set_cons_zero, List.set_cons_succ, List.take_succ_cons, List.take_zero, List.drop_succ_cons, List.drop_zero, List.reverse_cons, List.reverse_nil, List.nil_append, List.cons_append, List.length_cons, List.length_nil, true_and, and_true, Nat.zero_le, Nat.reduceLeDiff, Nat.reduceAdd, Nat.reduceEqDiff, false_imp_iff, true_imp_iff, not_false_eq_true, not_true_eq_false, imp_self, forall_const]
      exact loop 12 0 held b u rfl hSM hSu hv (nw_refl _ _) hheld (fun i => by simp) (fun X _ _ _ hex => by obtain ⟨i, hi, -⟩ := hex; omega)
  · -- too heavy
    refine st_X1_forge_19 ?_; simp only [bX1_forge_19, exP, stP, p1, p2, pr, pobj, parr, sh0, sh1, sh2, sh3, sh4, sh5, sh6, sh7, sh8, sh9, sh10, sh11, sh12, sh13, sh14, sh15, sh16, sh17, sh18, sh19, sh20, sh21, sh22, sh23, sh24, sh25, sh26, sh27, sh28, sh29, sh30, sh31, sh32, sh33, sh34, sh35, sh36, sh37, sh38, sh39, sh40, sh41, sh42, sh43, sh44, sh45, sh46, sh47, sh48, sh49, sh50, sh51, sh52, sh53, sh54, sh55, sh56, sh57, sh58, sh59, brP, brN, swP, amask, apush, List.getElem?_cons_zero, List.getElem?_cons_succ, List.set_cons_zero, List.set_cons_succ, List.take_succ_cons, List.take_zero, List.drop_succ_cons, List.drop_zero, List.reverse_cons, List.reverse_nil, List.nil_append, List.cons_append, List.length_cons, List.length_nil, true_and, and_true, Nat.zero_le, Nat.reduceLeDiff, Nat.reduceAdd, Nat.reduceEqDiff, false_imp_iff, true_imp_iff, not_false_eq_true, not_true_eq_false, imp_self, forall_const]
    refine ⟨rfl, SM.rf m, b, hS, hv, nw_refl _ _, fun X hX hgX _ => ?_⟩
    rw [Int32.le_iff_toInt_le] at c
    obtain ⟨h1, -⟩ := wsN_mono (wt := wtm m) (s := gone) (t := X) 12 (fun i _ hi => hpos i (hX.1 i hi)) (fun i _ hi => hgX i hi)
    have h2 := hS.2.2
    unfold nw ws at *
    omega
theorem c_forge (A : Nat) (hA : low12 A) : ∀ (n : Nat) (m : AM) (gone held b : Nat), TW m → WOK m → (∀ i, A.testBit i = true → 1 ≤ wtm m i) → sz gone + n = 12 → sub gone A → low12 held → SB m m b → vld m A b → AC (n + 5) kX1_forge [.inr 25, .inl (nI (dif A gone)), .inl (nI gone), .inl (nI held), .inl (nI (sz gone))] m (FQ m A gone held b) := by
  intro n
  induction n with
  | zero =>
    intro m gone held b hm hw hp hs hg hh hS hv
    refine forge_core A hA 5 4 (by omega) (by omega) m gone held b hm hw hp hg hh hS hv (fun u gone' _ _ _ _ _ h => ?_)
    have := pcN_le gone' 12
    unfold sz at h hs
    omega
  | succ n ih =>
    intro m gone held b hm hw hp hs hg hh hS hv
    exact forge_core A hA (n + 1 + 5) (n + 5) (by omega) (by omega) m gone held b hm hw hp hg hh hS hv (fun u gone' held' b' h1 h2 h3 h4 h5 h6 h7 h8 => ih u gone' held' b' h1 h2 h3 (by omega) h5 h6 h7 h8)
def LiQ (m : AM) (A : Nat) : APost := fun z u => SM m u ∧ ∃ x, z = some (nI x) ∧ low12 x ∧ isF (nF m) (nL m) (nC m) (wtm m) A x
theorem c_lightest (m : AM) (A : Nat) (hA : low12 A) (hm : TW m) (hw : WOK m) (hpos : ∀ i, A.testBit i = true → 1 ≤ wtm m i) : AC 18 kX1_lightest [.inr 25, .inl (nI A)] m (LiQ m A) := by
  have hA2 := low12_lt hA
  refine AC_of own_X1_lightest (ls := [some (.inr 25), some (.inl (nI A))]) (z := 0) (Nat.le_of_ble_eq_true rfl) rfl ?_
  refine st_X1_lightest_0 ?_; simp only [bX1_lightest_0, exP, stP, p1, p2, pr, pobj, parr, sh0, sh1, sh2, sh3, sh4, sh5, sh6, sh7, sh8, sh9, sh10, sh11, sh12, sh13, sh14, sh15, sh16, sh17, sh18, sh19, sh20, sh21, sh22, sh23, sh24, sh25, sh26, sh27, sh28, sh29, sh30, sh31, sh32, sh33, sh34, sh35, sh36, sh37, sh38, sh39, sh40, sh41, sh42, sh43, sh44, sh45, sh46, sh47, sh48, sh49, sh50, sh51, sh52, sh53, sh54, sh55, sh56, sh57, sh58, sh59, brP, brN, swP, amask, apush, List.getElem?_cons_zero, List.getElem?_cons_succ, List.set_cons_zero, List.set_cons_succ, List.take_succ_cons, List.take_zero, List.drop_succ_cons, List.drop_zero, List.reverse_cons, List.reverse_nil, List.nil_append, List.cons_append, List.length_cons, List.length_nil, true_and, and_true, Nat.zero_le, Nat.reduceLeDiff, Nat.reduceAdd, Nat.reduceEqDiff, false_imp_iff, true_imp_iff, not_false_eq_true, not_true_eq_false, imp_self, forall_const, true_or]
  have e26 : wtm (aup m 25 (upd (m 25) 2 (nI A))) = wtm m := by funext i; unfold wtm; rw [aup_ne (by omega)]
  refine ⟨_, ⟨1, by decide, c_weigh _ (by unfold WOK; rw [e26]; exact hw) A hA2⟩, ?_⟩
  rintro z u ⟨rfl, w, rfl, hwx⟩
  rw [e26] at hwx
  simp only [exP, stP, p1, p2, pr, pobj, parr, sh0, sh1, sh2, sh3, sh4, sh5, sh6, sh7, sh8, sh9, sh10, sh11, sh12, sh13, sh14, sh15, sh16, sh17, sh18, sh19, sh20, sh21, sh22, sh23, sh24, sh25, sh26, sh27, sh28, sh29, sh30, sh31, sh32, sh33, sh34, sh35, sh36, sh37, sh38, sh39, sh40, sh41, sh42, sh43, sh44, sh45, sh46, sh47, sh48, sh49, sh50, sh51, sh52, sh53, sh54, sh55, sh56, sh57, sh58, sh59, brP, brN, swP, amask, apush, List.getElem?_cons_zero, List.getElem?_cons_succ, List.set_cons_zero, List.set_cons_succ, List.take_succ_cons, List.take_zero, List.drop_succ_cons, List.drop_zero, List.reverse_cons, List.reverse_nil, List.nil_append, List.cons_append, List.length_cons, List.length_nil, true_and, and_true, Nat.zero_le, Nat.reduceLeDiff, Nat.reduceAdd, Nat.reduceEqDiff, false_imp_iff, true_imp_iff, not_false_eq_true, not_true_eq_false, imp_self, forall_const, true_or]
  have hSM : SM m (aup (aup m 25 (upd (m 25) 2 (nI A))) 25 (upd (aup m 25 (upd (m 25) 2 (nI A)) 25) 3 w)) := ⟨fun j _ _ _ _ j5 => by rw [aup_ne j5, aup_ne j5], fun j _ => by rw [aup_ne (by omega), aup_ne (by omega)]⟩
  have hSB : SB m (aup (aup m 25 (upd (m 25) 2 (nI A))) 25 (upd (aup m 25 (upd (m 25) 2 (nI A)) 25) 3 w)) A := ⟨hA, by rw [aup_eq, upd_ne (by omega), aup_eq, upd_eq], by rw [aup_eq, upd_eq]; exact hwx⟩
  generalize aup (aup m 25 (upd (m 25) 2 (nI A))) 25 (upd (aup m 25 (upd (m 25) 2 (nI A)) 25) 3 w) = v at hSM hSB ⊢
  have hvA : vld v A A := by
    rw [hSM.vld]
    refine ⟨fun i hi => hi, agr_congr (t := 0) (fun i _ => ?_) agr_zero⟩
    rw [dif_bit]; simp
  have ed : dif A 0 = A := by
    apply Nat.eq_of_testBit_eq
    intro i
    rw [dif_bit]; simp
  have hf := c_forge A hA 12 v 0 0 A (hSM.tw hm) (hSM.wok hw) (by rw [hSM.eW]; exact hpos) rfl (fun i hi => by simp at hi) (fun i hi => by simp at hi) (hSB.cast hSM) hvA
  rw [ed] at hf
  refine ⟨_, ⟨17, by decide, hf⟩, ?_⟩
  rintro z x ⟨rfl, hSMx, b', hSb, hvb, -, hall⟩
  simp only [exP, stP, p1, p2, pr, pobj, parr, sh0, sh1, sh2, sh3, sh4, sh5, sh6, sh7, sh8, sh9, sh10, sh11, sh12, sh13, sh14, sh15, sh16, sh17, sh18, sh19, sh20, sh21, sh22, sh23, sh24, sh25, sh26, sh27, sh28, sh29, sh30, sh31, sh32, sh33, sh34, sh35, sh36, sh37, sh38, sh39, sh40, sh41, sh42, sh43, sh44, sh45, sh46, sh47, sh48, sh49, sh50, sh51, sh52, sh53, sh54, sh55, sh56, sh57, sh58, sh59, brP, brN, swP, amask, apush, List.getElem?_cons_zero, List.getElem?_cons_succ, List.set_cons_zero, List.set_cons_succ, List.take_succ_cons, List.take_zero, List.drop_succ_cons, List.drop_zero, List.reverse_cons, List.reverse_nil, List.nil_append, List.cons_append, List.length_cons, List.length_nil, true_and, and_true, Nat.zero_le, Nat.reduceLeDiff, Nat.reduceAdd, Nat.reduceEqDiff, false_imp_iff, true_imp_iff, not_false_eq_true, not_true_eq_false, imp_self, forall_const]
  rw [hSM.vld] at hvb
  rw [hSb.2.1]
  refine ⟨hSM.tr hSMx, b', rfl, hSb.1, hvb.1, hvb.2, fun t h1 h2 => ?_⟩
  have := hall t (by rw [hSM.vld]; exact ⟨h1, h2⟩) (fun i hi => by simp at hi) (fun i hi => by simp at hi)
  rw [hSM.eW] at this
  exact this
