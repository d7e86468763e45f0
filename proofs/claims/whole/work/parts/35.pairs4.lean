/-! ===== pairs: span, court, claim ===== -/
theorem BASE_span {m u : AM} {np nf ns nd tp : Nat} (a : ∀ k, 1 ≤ k → k ≤ 14 → u k = m k) (b : ∀ k, 26 ≤ k → k ≤ 33 → k ≠ 27 → u k = m k) (c : ∀ k, 35 ≤ k → k ≤ 52 → u k = m k) (e27 : u 27 3 = m 27 3) (e34 : ∀ j, j ≠ 2 → j ≠ 30 → j ≠ 32 → j ≠ 33 → u 34 j = m 34 j) (ew9 : u 34 2 = u 15 9) (er9 : 0 ≤ (u 15 9).toInt ∧ (u 15 9).toInt ≤ 200) (hB : BASE m np nf ns nd tp) : BASE u np nf ns nd tp := by
  have em : ∀ d, mk u d = mk m d := fun d => by unfold mk; rw [c 45 (by omega) (by omega)]
  have eh : ∀ d n k w, hmn u d n k w = hmn m d n k w := fun d n k w => by unfold hmn; rw [c 46 (by omega) (by omega), c 47 (by omega) (by omega)]
  have ehm : ∀ d k w, hm u d k w = hm m d k w := fun d k w => by unfold hm; rw [em, eh]
  have es : ∀ d n, sumBC u d n = sumBC m d n := fun d n => by
    induction n with
    | zero => rfl
    | succ n ih => unfold sumBC; rw [ih, a 14 (by omega) (by omega)]
  have ew : wtm u = wtm m := by funext i; unfold wtm; rw [b 26 (by omega) (by omega) (by omega)]
  have e1 : CPRE u nd := by
    obtain ⟨q1, q2, q3, q4, q5, q6, -, q8, q9⟩ := hB.2.2.2.1
    unfold CPRE WOK
    rw [ew, a 2 (by omega) (by omega), a 3 (by omega) (by omega), a 5 (by omega) (by omega), a 6 (by omega) (by omega), a 8 (by omega) (by omega), a 9 (by omega) (by omega), a 10 (by omega) (by omega), a 11 (by omega) (by omega), a 12 (by omega) (by omega)]
    exact ⟨q1, q2, q3, q4, q5, q6, er9, q8, q9⟩
  have e2 : MOK u nd = MOK m nd := by
    unfold MOK
    simp only [em]
    rw [e34 6 (by omega) (by omega) (by omega) (by omega), c 45 (by omega) (by omega), c 46 (by omega) (by omega), c 47 (by omega) (by omega)]
  have e3 : MB u nd = MB m nd := by
    unfold MB
    simp only [ehm]
    rw [a 14 (by omega) (by omega)]
  have e4 : RE u := by
    obtain ⟨q1, q2, q3, q4, -⟩ := hB.2.2.2.2.2.2.1
    unfold RE
    rw [a 2 (by omega) (by omega), a 3 (by omega) (by omega), a 5 (by omega) (by omega), a 6 (by omega) (by omega), a 8 (by omega) (by omega), a 9 (by omega) (by omega), a 11 (by omega) (by omega), a 12 (by omega) (by omega), b 26 (by omega) (by omega) (by omega), c 36 (by omega) (by omega), c 37 (by omega) (by omega), c 38 (by omega) (by omega), c 39 (by omega) (by omega), c 40 (by omega) (by omega), c 41 (by omega) (by omega), c 42 (by omega) (by omega), c 43 (by omega) (by omega), c 44 (by omega) (by omega)]
    exact ⟨q1, q2, q3, q4, ew9⟩
  unfold BASE
  unfold BASE at hB
  obtain ⟨g1, g2, g3, -, g5, g6, -, g8⟩ := hB
  refine ⟨g1, ?_, ?_, e1, ?_, ?_, e4, ?_⟩
  · rw [a 1 (by omega) (by omega), a 4 (by omega) (by omega), a 7 (by omega) (by omega)]; exact g2
  · rw [e34 3 (by omega) (by omega) (by omega) (by omega), e34 4 (by omega) (by omega) (by omega) (by omega), e34 5 (by omega) (by omega) (by omega) (by omega)]; exact g3
  · rw [e2]; exact g5
  · rw [e3]; exact g6
  rw [e27, e34 1 (by omega) (by omega) (by omega) (by omega), a 14 (by omega) (by omega), b 28 (by omega) (by omega) (by omega), b 29 (by omega) (by omega) (by omega), b 30 (by omega) (by omega) (by omega), b 31 (by omega) (by omega) (by omega), b 32 (by omega) (by omega) (by omega), b 33 (by omega) (by omega) (by omega), c 35 (by omega) (by omega), c 45 (by omega) (by omega), c 48 (by omega) (by omega), c 49 (by omega) (by omega), c 50 (by omega) (by omega), c 51 (by omega) (by omega), c 52 (by omega) (by omega)]
  simp only [em, ehm, es]
  exact g8
theorem p_span {m : AM} (h : INV m) (x : Int32) : PAIR kX5_span kX6_span [.inl x] m := by
  obtain ⟨np, nf, ns, nd, tp, h⟩ := h
  cases hl : f_lies x 0 200 with
  | false =>
    refine ⟨fun z u => m = u ∧ z = some 0, ⟨20, by decide, ?_⟩, ?_⟩
    · refine AC_of own_X5_span (ls := [some (.inr 0), some (.inl x)]) (z := 0) (Nat.le_of_ble_eq_true rfl) rfl ?_
      have out : AW 20 kX5_span (fun z u => m = u ∧ z = some 0) 11 [none, none] [] m := by
        refine st_X5_span_11 ?_; simp only [bX5_span_11, exP, stP, p1, p2, pr, pobj, parr, sh0, sh1, sh2, sh3, sh4, sh5, sh6, sh7, sh8, sh9, sh10, sh11, sh12, sh13, sh14, sh15, sh16, sh17, sh18, sh19, sh20, sh21, sh22, sh23, sh24, sh25, sh26, sh27, sh28, sh29, sh30, sh31, sh32, sh33, sh34, sh35, sh36, sh37, sh38, sh39, sh40, sh41, sh42, sh43, sh44, sh45, sh46, sh47, sh48, sh49, sh50, sh51, sh52, sh53, sh54, sh55, sh56, sh57, sh58, sh59, brP, brN, swP, amask, apush, List.getElem?_cons_zero, List.getElem?_cons_succ, List.set_cons_zero, List.set_cons_succ, List.take_succ_cons, List.take_zero, List.drop_succ_cons, List.drop_zero, List.reverse_cons, List.reverse_nil, List.nil_append, List.cons_append, List.length_cons, List.length_nil, true_and, and_true, Nat.zero_le, Nat.reduceLeDiff, Nat.reduceAdd, Nat.reduceEqDiff, false_imp_iff, true_imp_iff, not_false_eq_true, not_true_eq_false, imp_self, forall_const]
        simp
      refine st_X5_span_0 ?_; simp only [bX5_span_0, exP, stP, p1, p2, pr, pobj, parr, sh0, sh1, sh2, sh3, sh4, sh5, sh6, sh7, sh8, sh9, sh10, sh11, sh12, sh13, sh14, sh15, sh16, sh17, sh18, sh19, sh20, sh21, sh22, sh23, sh24, sh25, sh26, sh27, sh28, sh29, sh30, sh31, sh32, sh33, sh34, sh35, sh36, sh37, sh38, sh39, sh40, sh41, sh42, sh43, sh44, sh45, sh46, sh47, sh48, sh49, sh50, sh51, sh52, sh53, sh54, sh55, sh56, sh57, sh58, sh59, brP, brN, swP, amask, apush, List.getElem?_cons_zero, List.getElem?_cons_succ, List.set_cons_zero, List.set_cons_succ, List.take_succ_cons, List.take_zero, List.drop_succ_cons, List.drop_zero, List.reverse_cons, List.reverse_nil, List.nil_append, List.cons_append, List.length_cons, List.length_nil, true_and, and_true, Nat.zero_le, Nat.reduceLeDiff, Nat.reduceAdd, Nat.reduceEqDiff, false_imp_iff, true_imp_iff, not_false_eq_true, not_true_eq_false, imp_self, forall_const]
      refine ⟨fun _ => out, fun c => ?_⟩
      refine st_X5_span_4 ?_; simp only [bX5_span_4, exP, stP, p1, p2, pr, pobj, parr, sh0, sh1, sh2, sh3, sh4, sh5, sh6, sh7, sh8, sh9, sh10, sh11, sh12, sh13, sh14, sh15, sh16, sh17, sh18, sh19, sh20, sh21, sh22, sh23, sh24, sh25, sh26, sh27, sh28, sh29, sh30, sh31, sh32, sh33, sh34, sh35, sh36, sh37, sh38, sh39, sh40, sh41, sh42, sh43, sh44, sh45, sh46, sh47, sh48, sh49, sh50, sh51, sh52, sh53, sh54, sh55, sh56, sh57, sh58, sh59, brP, brN, swP, amask, apush, List.getElem?_cons_zero, List.getElem?_cons_succ, List.set_cons_zero, List.set_cons_succ, List.take_succ_cons, List.take_zero, List.drop_succ_cons, List.drop_zero, List.reverse_cons, List.reverse_nil, List.nil_append, List.cons_append, List.length_cons, List.length_nil, true_and, and_true, Nat.zero_le, Nat.reduceLeDiff, Nat.reduceAdd, Nat.reduceEqDiff, false_imp_iff, true_imp_iff, not_false_eq_true, not_true_eq_false, imp_self, forall_const]
      refine ⟨fun c1 => ?_, fun _ => out⟩
      exfalso
      have c2 : ¬ (200 : Int32) < x := by rw [Int32.lt_iff_toInt_lt]; rw [Int32.le_iff_toInt_le] at c1; omega
      unfold f_lies at hl
      simp only [c, c2, decide_false, Bool.not_false, Bool.and_self] at hl
      cases hl
    · rintro r u ⟨rfl, rfl⟩
      refine ⟨fun z u => m = u ∧ z = some 0, ⟨2, by decide, ?_⟩, ?_⟩
      · refine AC_of own_X6_span (ls := [some (.inr 34), some (.inl x)]) (z := 0) (Nat.le_of_ble_eq_true rfl) rfl ?_
        refine st_X6_span_0 ?_; simp only [bX6_span_0, exP, stP, p1, p2, pr, pobj, parr, sh0, sh1, sh2, sh3, sh4, sh5, sh6, sh7, sh8, sh9, sh10, sh11, sh12, sh13, sh14, sh15, sh16, sh17, sh18, sh19, sh20, sh21, sh22, sh23, sh24, sh25, sh26, sh27, sh28, sh29, sh30, sh31, sh32, sh33, sh34, sh35, sh36, sh37, sh38, sh39, sh40, sh41, sh42, sh43, sh44, sh45, sh46, sh47, sh48, sh49, sh50, sh51, sh52, sh53, sh54, sh55, sh56, sh57, sh58, sh59, brP, brN, swP, amask, apush, List.getElem?_cons_zero, List.getElem?_cons_succ, List.set_cons_zero, List.set_cons_succ, List.take_succ_cons, List.take_zero, List.drop_succ_cons, List.drop_zero, List.reverse_cons, List.reverse_nil, List.nil_append, List.cons_append, List.length_cons, List.length_nil, true_and, and_true, Nat.zero_le, Nat.reduceLeDiff, Nat.reduceAdd, Nat.reduceEqDiff, false_imp_iff, true_imp_iff, not_false_eq_true, not_true_eq_false, imp_self, forall_const]
        refine ⟨_, ⟨0, by decide, c_lies m _ _ _⟩, ?_⟩; rintro _ _ ⟨rfl, rfl⟩; simp only [exP, stP, p1, p2, pr, pobj, parr, sh0, sh1, sh2, sh3, sh4, sh5, sh6, sh7, sh8, sh9, sh10, sh11, sh12, sh13, sh14, sh15, sh16, sh17, sh18, sh19, sh20, sh21, sh22, sh23, sh24, sh25, sh26, sh27, sh28, sh29, sh30, sh31, sh32, sh33, sh34, sh35, sh36, sh37, sh38, sh39, sh40, sh41, sh42, sh43, sh44, sh45, sh46, sh47, sh48, sh49, sh50, sh51, sh52, sh53, sh54, sh55, sh56, sh57, sh58, sh59, brP, brN, swP, amask, apush, List.getElem?_cons_zero, List.getElem?_cons_succ, List.set_cons_zero, List.set_cons_succ, List.take_succ_cons, List.take_zero, List.drop_succ_cons, List.drop_zero, List.reverse_cons, List.reverse_nil, List.nil_append, List.cons_append, List.length_cons, List.length_nil, true_and, and_true, Nat.zero_le, Nat.reduceLeDiff, Nat.reduceAdd, Nat.reduceEqDiff, false_imp_iff, true_imp_iff, not_false_eq_true, not_true_eq_false, imp_self, forall_const, b01_0, hl]
        refine st_X6_span_11 ?_; simp only [bX6_span_11, exP, stP, p1, p2, pr, pobj, parr, sh0, sh1, sh2, sh3, sh4, sh5, sh6, sh7, sh8, sh9, sh10, sh11, sh12, sh13, sh14, sh15, sh16, sh17, sh18, sh19, sh20, sh21, sh22, sh23, sh24, sh25, sh26, sh27, sh28, sh29, sh30, sh31, sh32, sh33, sh34, sh35, sh36, sh37, sh38, sh39, sh40, sh41, sh42, sh43, sh44, sh45, sh46, sh47, sh48, sh49, sh50, sh51, sh52, sh53, sh54, sh55, sh56, sh57, sh58, sh59, brP, brN, swP, amask, apush, List.getElem?_cons_zero, List.getElem?_cons_succ, List.set_cons_zero, List.set_cons_succ, List.take_succ_cons, List.take_zero, List.drop_succ_cons, List.drop_zero, List.reverse_cons, List.reverse_nil, List.nil_append, List.cons_append, List.length_cons, List.length_nil, true_and, and_true, Nat.zero_le, Nat.reduceLeDiff, Nat.reduceAdd, Nat.reduceEqDiff, false_imp_iff, true_imp_iff, not_false_eq_true, not_true_eq_false, imp_self, forall_const]
        simp
      · rintro r' v ⟨rfl, rfl⟩
        exact ⟨⟨0, rfl, rfl⟩, ⟨np, nf, ns, nd, tp, h⟩⟩
  | true =>
    have hx : 0 ≤ x.toInt ∧ x.toInt ≤ 200 := by
      have z0 : (0 : Int32).toInt = 0 := rfl
      have z2 : (200 : Int32).toInt = 200 := rfl
      unfold f_lies at hl
      rw [Bool.and_eq_true, Bool.not_eq_true', Bool.not_eq_true', decide_eq_false_iff_not, decide_eq_false_iff_not, Int32.lt_iff_toInt_lt, Int32.lt_iff_toInt_lt, z0, z2] at hl
      omega
    have a0 : ¬ x < 0 := by rw [Int32.lt_iff_toInt_lt]; show ¬ x.toInt < 0; omega
    have a1 : x ≤ 200 := by rw [Int32.le_iff_toInt_le]; show x.toInt ≤ 200; omega
    refine ⟨fun z u => z = some 1 ∧ aup (aup m 15 (upd (m 15) 9 x)) 0 (upd (aup m 15 (upd (m 15) 9 x) 0) 12 0) = u, ⟨20, by decide, ?_⟩, ?_⟩
    · refine AC_of own_X5_span (ls := [some (.inr 0), some (.inl x)]) (z := 0) (Nat.le_of_ble_eq_true rfl) rfl ?_
      refine st_X5_span_0 ?_; simp only [bX5_span_0, exP, stP, p1, p2, pr, pobj, parr, sh0, sh1, sh2, sh3, sh4, sh5, sh6, sh7, sh8, sh9, sh10, sh11, sh12, sh13, sh14, sh15, sh16, sh17, sh18, sh19, sh20, sh21, sh22, sh23, sh24, sh25, sh26, sh27, sh28, sh29, sh30, sh31, sh32, sh33, sh34, sh35, sh36, sh37, sh38, sh39, sh40, sh41, sh42, sh43, sh44, sh45, sh46, sh47, sh48, sh49, sh50, sh51, sh52, sh53, sh54, sh55, sh56, sh57, sh58, sh59, brP, brN, swP, amask, apush, List.getElem?_cons_zero, List.getElem?_cons_succ, List.set_cons_zero, List.set_cons_succ, List.take_succ_cons, List.take_zero, List.drop_succ_cons, List.drop_zero, List.reverse_cons, List.reverse_nil, List.nil_append, List.cons_append, List.length_cons, List.length_nil, true_and, and_true, Nat.zero_le, Nat.reduceLeDiff, Nat.reduceAdd, Nat.reduceEqDiff, false_imp_iff, true_imp_iff, not_false_eq_true, not_true_eq_false, imp_self, forall_const, a0]
      refine st_X5_span_4 ?_; simp only [bX5_span_4, exP, stP, p1, p2, pr, pobj, parr, sh0, sh1, sh2, sh3, sh4, sh5, sh6, sh7, sh8, sh9, sh10, sh11, sh12, sh13, sh14, sh15, sh16, sh17, sh18, sh19, sh20, sh21, sh22, sh23, sh24, sh25, sh26, sh27, sh28, sh29, sh30, sh31, sh32, sh33, sh34, sh35, sh36, sh37, sh38, sh39, sh40, sh41, sh42, sh43, sh44, sh45, sh46, sh47, sh48, sh49, sh50, sh51, sh52, sh53, sh54, sh55, sh56, sh57, sh58, sh59, brP, brN, swP, amask, apush, List.getElem?_cons_zero, List.getElem?_cons_succ, List.set_cons_zero, List.set_cons_succ, List.take_succ_cons, List.take_zero, List.drop_succ_cons, List.drop_zero, List.reverse_cons, List.reverse_nil, List.nil_append, List.cons_append, List.length_cons, List.length_nil, true_and, and_true, Nat.zero_le, Nat.reduceLeDiff, Nat.reduceAdd, Nat.reduceEqDiff, false_imp_iff, true_imp_iff, not_false_eq_true, not_true_eq_false, imp_self, forall_const, a1]
      refine st_X5_span_13 ?_; simp only [bX5_span_13, exP, stP, p1, p2, pr, pobj, parr, sh0, sh1, sh2, sh3, sh4, sh5, sh6, sh7, sh8, sh9, sh10, sh11, sh12, sh13, sh14, sh15, sh16, sh17, sh18, sh19, sh20, sh21, sh22, sh23, sh24, sh25, sh26, sh27, sh28, sh29, sh30, sh31, sh32, sh33, sh34, sh35, sh36, sh37, sh38, sh39, sh40, sh41, sh42, sh43, sh44, sh45, sh46, sh47, sh48, sh49, sh50, sh51, sh52, sh53, sh54, sh55, sh56, sh57, sh58, sh59, brP, brN, swP, amask, apush, List.getElem?_cons_zero, List.getElem?_cons_succ, List.set_cons_zero, List.set_cons_succ, List.take_succ_cons, List.take_zero, List.drop_succ_cons, List.drop_zero, List.reverse_cons, List.reverse_nil, List.nil_append, List.cons_append, List.length_cons, List.length_nil, true_and, and_true, Nat.zero_le, Nat.reduceLeDiff, Nat.reduceAdd, Nat.reduceEqDiff, false_imp_iff, true_imp_iff, not_false_eq_true, not_true_eq_false, imp_self, forall_const, true_or, or_true]
    · rintro r u ⟨rfl, rfl⟩
      refine ⟨fun z v => z = some 1 ∧ aup (aup (aup (aup m 15 (upd (m 15) 9 x)) 0 (upd (aup m 15 (upd (m 15) 9 x) 0) 12 0)) 34 (upd ((aup (aup m 15 (upd (m 15) 9 x)) 0 (upd (aup m 15 (upd (m 15) 9 x) 0) 12 0)) 34) 2 x)) 34 (upd (upd ((aup (aup m 15 (upd (m 15) 9 x)) 0 (upd (aup m 15 (upd (m 15) 9 x) 0) 12 0)) 34) 2 x) 30 0) = v, ⟨2, by decide, ?_⟩, ?_⟩
      · generalize aup (aup m 15 (upd (m 15) 9 x)) 0 (upd (aup m 15 (upd (m 15) 9 x) 0) 12 0) = u
        refine AC_of own_X6_span (ls := [some (.inr 34), some (.inl x)]) (z := 0) (Nat.le_of_ble_eq_true rfl) rfl ?_
        refine st_X6_span_0 ?_; simp only [bX6_span_0, exP, stP, p1, p2, pr, pobj, parr, sh0, sh1, sh2, sh3, sh4, sh5, sh6, sh7, sh8, sh9, sh10, sh11, sh12, sh13, sh14, sh15, sh16, sh17, sh18, sh19, sh20, sh21, sh22, sh23, sh24, sh25, sh26, sh27, sh28, sh29, sh30, sh31, sh32, sh33, sh34, sh35, sh36, sh37, sh38, sh39, sh40, sh41, sh42, sh43, sh44, sh45, sh46, sh47, sh48, sh49, sh50, sh51, sh52, sh53, sh54, sh55, sh56, sh57, sh58, sh59, brP, brN, swP, amask, apush, List.getElem?_cons_zero, List.getElem?_cons_succ, List.set_cons_zero, List.set_cons_succ, List.take_succ_cons, List.take_zero, List.drop_succ_cons, List.drop_zero, List.reverse_cons, List.reverse_nil, List.nil_append, List.cons_append, List.length_cons, List.length_nil, true_and, and_true, Nat.zero_le, Nat.reduceLeDiff, Nat.reduceAdd, Nat.reduceEqDiff, false_imp_iff, true_imp_iff, not_false_eq_true, not_true_eq_false, imp_self, forall_const]
        refine ⟨_, ⟨0, by decide, c_lies u _ _ _⟩, ?_⟩; rintro _ _ ⟨rfl, rfl⟩; simp only [exP, stP, p1, p2, pr, pobj, parr, sh0, sh1, sh2, sh3, sh4, sh5, sh6, sh7, sh8, sh9, sh10, sh11, sh12, sh13, sh14, sh15, sh16, sh17, sh18, sh19, sh20, sh21, sh22, sh23, sh24, sh25, sh26, sh27, sh28, sh29, sh30, sh31, sh32, sh33, sh34, sh35, sh36, sh37, sh38, sh39, sh40, sh41, sh42, sh43, sh44, sh45, sh46, sh47, sh48, sh49, sh50, sh51, sh52, sh53, sh54, sh55, sh56, sh57, sh58, sh59, brP, brN, swP, amask, apush, List.getElem?_cons_zero, List.getElem?_cons_succ, List.set_cons_zero, List.set_cons_succ, List.take_succ_cons, List.take_zero, List.drop_succ_cons, List.drop_zero, List.reverse_cons, List.reverse_nil, List.nil_append, List.cons_append, List.length_cons, List.length_nil, true_and, and_true, Nat.zero_le, Nat.reduceLeDiff, Nat.reduceAdd, Nat.reduceEqDiff, false_imp_iff, true_imp_iff, not_false_eq_true, not_true_eq_false, imp_self, forall_const, b01_0, hl, Bool.true_eq_false]
        refine st_X6_span_13 ?_; simp only [bX6_span_13, exP, stP, p1, p2, pr, pobj, parr, sh0, sh1, sh2, sh3, sh4, sh5, sh6, sh7, sh8, sh9, sh10, sh11, sh12, sh13, sh14, sh15, sh16, sh17, sh18, sh19, sh20, sh21, sh22, sh23, sh24, sh25, sh26, sh27, sh28, sh29, sh30, sh31, sh32, sh33, sh34, sh35, sh36, sh37, sh38, sh39, sh40, sh41, sh42, sh43, sh44, sh45, sh46, sh47, sh48, sh49, sh50, sh51, sh52, sh53, sh54, sh55, sh56, sh57, sh58, sh59, brP, brN, swP, amask, apush, List.getElem?_cons_zero, List.getElem?_cons_succ, List.set_cons_zero, List.set_cons_succ, List.take_succ_cons, List.take_zero, List.drop_succ_cons, List.drop_zero, List.reverse_cons, List.reverse_nil, List.nil_append, List.cons_append, List.length_cons, List.length_nil, true_and, and_true, Nat.zero_le, Nat.reduceLeDiff, Nat.reduceAdd, Nat.reduceEqDiff, false_imp_iff, true_imp_iff, not_false_eq_true, not_true_eq_false, imp_self, forall_const, true_or, or_true, aup_eq]
      · rintro r' v ⟨rfl, rfl⟩
        refine ⟨⟨1, rfl, rfl⟩, ⟨np, nf, ns, nd, tp, ?_, Or.inl ?_, Or.inl ?_⟩⟩
        · refine BASE_span (m := m) (fun k k1 k2 => ?_) (fun k k1 k2 _ => ?_) (fun k k1 k2 => ?_) ?_ (fun j j1 j2 j3 j4 => ?_) ?_ ?_ h.1
          · rw [aup_ne (by omega), aup_ne (by omega), aup_ne (by omega), aup_ne (by omega)]
          · rw [aup_ne (by omega), aup_ne (by omega), aup_ne (by omega), aup_ne (by omega)]
          · rw [aup_ne (by omega), aup_ne (by omega), aup_ne (by omega), aup_ne (by omega)]
          · rw [aup_ne (by omega), aup_ne (by omega), aup_ne (by omega), aup_ne (by omega)]
          · rw [aup_eq, upd_ne j2, upd_ne j1, aup_ne (by omega), aup_ne (by omega)]
          · rw [aup_eq, upd_ne (by omega), upd_eq, aup_ne (by omega), aup_ne (by omega), aup_ne (by omega), aup_eq, upd_eq]
          · rw [aup_ne (by omega), aup_ne (by omega), aup_ne (by omega), aup_eq, upd_eq]; exact hx
        · rw [aup_ne (by omega), aup_ne (by omega), aup_eq, upd_eq]
        · rw [aup_eq, upd_eq]
