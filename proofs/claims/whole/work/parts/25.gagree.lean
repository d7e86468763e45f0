/-! ===== the reference: agrees ===== -/
def AGQ (m : AM) (t : Nat) : APost := fun z u => (∀ k, k ≠ 57 → u k = m k) ∧ ∃ ag : Bool, z = some (b01 ag) ∧ (ag = true ↔ agr (gF m) (gL m) (gC m) t)
theorem c_agrees (m : AM) (nd t : Nat) (hG : GW m nd) (ht : t < 4096) (hin : inN t nd) : AC 2 kX6_agrees [.inr 34, .inl (nI t)] m (AGQ m t) := by
  have hnd := hG.1
  refine AC_of own_X6_agrees (ls := [some (.inr 34), some (.inl (nI t)), none]) (z := 1) (Nat.le_of_ble_eq_true rfl) rfl ?_
  have loop2 : ∀ (n j : Nat) (u : AM), j + n = nd → (∀ k, k ≠ 57 → u k = m k) → isM (gF m) (gC m) t (fun b => (u 57 b).toInt) → (∀ d, d < j → t.testBit d = true → (u 57 d).toInt ≤ gL m d) → AW 2 kX6_agrees (AGQ m t) 48 [some (.inr 34), some (.inl (nI t)), some (.inl (nI j))] [] u := by
    intro n
    induction n with
    | zero =>
      intro j u hj h1 h2 h3
      obtain rfl : j = nd := by omega
      have hn : u 34 6 = nI j := by rw [h1 34 (by omega)]; exact hG.2.1
      refine st_X6_agrees_48 ?_; simp only [bX6_agrees_48, exP, stP, p1, p2, pr, pobj, parr, sh0, sh1, sh2, sh3, sh4, sh5, sh6, sh7, sh8, sh9, sh10, sh11, sh12, sh13, sh14, sh15, sh16, sh17, sh18, sh19, sh20, sh21, sh22, sh23, sh24, sh25, sh26, sh27, sh28, sh29, sh30, sh31, sh32, sh33, sh34, sh35, sh36, sh37, sh38, sh39, sh40, sh41, sh42, sh43, sh44, sh45, sh46, sh47, sh48, sh49, sh50, sh51, sh52, sh53, sh54, sh55, sh56, sh57, sh58, sh59, brP, brN, swP, amask, apush, List.getElem?_cons_zero, List.getElem?_cons_succ, List.set_cons_zero, List.set_cons_succ, List.take_succ_cons, List.take_zero, List.drop_succ_cons, List.drop_zero, List.reverse_cons, List.reverse_nil, List.nil_append, List.cons_append, List.length_cons, List.length_nil, true_and, and_true, Nat.zero_le, Nat.reduceLeDiff, Nat.reduceAdd, Nat.reduceEqDiff, false_imp_iff, true_imp_iff, not_false_eq_true, not_true_eq_false, imp_self, forall_const, hn, eq_true (nI_le (Nat.le_refl j) (show j < 2 ^ 31 by omega))]
      refine st_X6_agrees_87 ?_; simp only [bX6_agrees_87, exP, stP, p1, p2, pr, pobj, parr, sh0, sh1, sh2, sh3, sh4, sh5, sh6, sh7, sh8, sh9, sh10, sh11, sh12, sh13, sh14, sh15, sh16, sh17, sh18, sh19, sh20, sh21, sh22, sh23, sh24, sh25, sh26, sh27, sh28, sh29, sh30, sh31, sh32, sh33, sh34, sh35, sh36, sh37, sh38, sh39, sh40, sh41, sh42, sh43, sh44, sh45, sh46, sh47, sh48, sh49, sh50, sh51, sh52, sh53, sh54, sh55, sh56, sh57, sh58, sh59, brP, brN, swP, amask, apush, List.getElem?_cons_zero, List.getElem?_cons_succ, List.set_cons_zero, List.set_cons_succ, List.take_succ_cons, List.take_zero, List.drop_succ_cons, List.drop_zero, List.reverse_cons, List.reverse_nil, List.nil_append, List.cons_append, List.length_cons, List.length_nil, true_and, and_true, Nat.zero_le, Nat.reduceLeDiff, Nat.reduceAdd, Nat.reduceEqDiff, false_imp_iff, true_imp_iff, not_false_eq_true, not_true_eq_false, imp_self, forall_const]
      refine ⟨Or.inr (Or.inr trivial), h1, true, rfl, fun _ => ?_, fun _ => rfl⟩
      exact ⟨fun b => (u 57 b).toInt, fun d hd htd => ⟨h2.1 d hd htd, h3 d (hin d htd) htd⟩, h2.2.1⟩
    | succ n ih =>
      intro j u hj h1 h2 h3
      have hn : u 34 6 = nI nd := by rw [h1 34 (by omega)]; exact hG.2.1
      have vj := eq_true (vp_in_nI (show j < 12 by omega) (show 12 < 2 ^ 31 by omega))
      have cj := nI_clamp (show j < 2 ^ 31 by omega)
      have u54 : u 54 j = m 54 j := by rw [h1 54 (by omega)]
      have next : (t.testBit j = true → (u 57 j).toInt ≤ gL m j) → AW 2 kX6_agrees (AGQ m t) 81 [some (.inr 34), some (.inl (nI t)), some (.inl (nI j))] [] u := by
        intro hq
        refine st_X6_agrees_81 ?_; simp only [bX6_agrees_81, exP, stP, p1, p2, pr, pobj, parr, sh0, sh1, sh2, sh3, sh4, sh5, sh6, sh7, sh8, sh9, sh10, sh11, sh12, sh13, sh14, sh15, sh16, sh17, sh18, sh19, sh20, sh21, sh22, sh23, sh24, sh25, sh26, sh27, sh28, sh29, sh30, sh31, sh32, sh33, sh34, sh35, sh36, sh37, sh38, sh39, sh40, sh41, sh42, sh43, sh44, sh45, sh46, sh47, sh48, sh49, sh50, sh51, sh52, sh53, sh54, sh55, sh56, sh57, sh58, sh59, brP, brN, swP, amask, apush, List.getElem?_cons_zero, List.getElem?_cons_succ, List.set_cons_zero, List.set_cons_succ, List.take_succ_cons, List.take_zero, List.drop_succ_cons, List.drop_zero, List.reverse_cons, List.reverse_nil, List.nil_append, List.cons_append, List.length_cons, List.length_nil, true_and, and_true, Nat.zero_le, Nat.reduceLeDiff, Nat.reduceAdd, Nat.reduceEqDiff, false_imp_iff, true_imp_iff, not_false_eq_true, not_true_eq_false, imp_self, forall_const]
        rw [nI_1]
        refine ih (j + 1) u (by omega) h1 h2 (fun d hd htd => ?_)
        by_cases q : d = j
        · subst q; exact hq htd
        · exact h3 d (by omega) htd
      refine st_X6_agrees_48 ?_; simp only [bX6_agrees_48, exP, stP, p1, p2, pr, pobj, parr, sh0, sh1, sh2, sh3, sh4, sh5, sh6, sh7, sh8, sh9, sh10, sh11, sh12, sh13, sh14, sh15, sh16, sh17, sh18, sh19, sh20, sh21, sh22, sh23, sh24, sh25, sh26, sh27, sh28, sh29, sh30, sh31, sh32, sh33, sh34, sh35, sh36, sh37, sh38, sh39, sh40, sh41, sh42, sh43, sh44, sh45, sh46, sh47, sh48, sh49, sh50, sh51, sh52, sh53, sh54, sh55, sh56, sh57, sh58, sh59, brP, brN, swP, amask, apush, List.getElem?_cons_zero, List.getElem?_cons_succ, List.set_cons_zero, List.set_cons_succ, List.take_succ_cons, List.take_zero, List.drop_succ_cons, List.drop_zero, List.reverse_cons, List.reverse_nil, List.nil_append, List.cons_append, List.length_cons, List.length_nil, true_and, and_true, Nat.zero_le, Nat.reduceLeDiff, Nat.reduceAdd, Nat.reduceEqDiff, false_imp_iff, true_imp_iff, not_false_eq_true, not_true_eq_false, imp_self, forall_const, hn, eq_false (nI_ge (show j < nd by omega) (show nd < 2 ^ 31 by omega))]
      refine st_X6_agrees_56 ?_; simp only [bX6_agrees_56, exP, stP, p1, p2, pr, pobj, parr, sh0, sh1, sh2, sh3, sh4, sh5, sh6, sh7, sh8, sh9, sh10, sh11, sh12, sh13, sh14, sh15, sh16, sh17, sh18, sh19, sh20, sh21, sh22, sh23, sh24, sh25, sh26, sh27, sh28, sh29, sh30, sh31, sh32, sh33, sh34, sh35, sh36, sh37, sh38, sh39, sh40, sh41, sh42, sh43, sh44, sh45, sh46, sh47, sh48, sh49, sh50, sh51, sh52, sh53, sh54, sh55, sh56, sh57, sh58, sh59, brP, brN, swP, amask, apush, List.getElem?_cons_zero, List.getElem?_cons_succ, List.set_cons_zero, List.set_cons_succ, List.take_succ_cons, List.take_zero, List.drop_succ_cons, List.drop_zero, List.reverse_cons, List.reverse_nil, List.nil_append, List.cons_append, List.length_cons, List.length_nil, true_and, and_true, Nat.zero_le, Nat.reduceLeDiff, Nat.reduceAdd, Nat.reduceEqDiff, false_imp_iff, true_imp_iff, not_false_eq_true, not_true_eq_false, imp_self, forall_const]
      refine ⟨_, ⟨0, by decide, c_mhas _ _ j (by omega)⟩, ?_⟩; rintro _ _ ⟨rfl, rfl⟩; simp only [exP, stP, p1, p2, pr, pobj, parr, sh0, sh1, sh2, sh3, sh4, sh5, sh6, sh7, sh8, sh9, sh10, sh11, sh12, sh13, sh14, sh15, sh16, sh17, sh18, sh19, sh20, sh21, sh22, sh23, sh24, sh25, sh26, sh27, sh28, sh29, sh30, sh31, sh32, sh33, sh34, sh35, sh36, sh37, sh38, sh39, sh40, sh41, sh42, sh43, sh44, sh45, sh46, sh47, sh48, sh49, sh50, sh51, sh52, sh53, sh54, sh55, sh56, sh57, sh58, sh59, brP, brN, swP, amask, apush, List.getElem?_cons_zero, List.getElem?_cons_succ, List.set_cons_zero, List.set_cons_succ, List.take_succ_cons, List.take_zero, List.drop_succ_cons, List.drop_zero, List.reverse_cons, List.reverse_nil, List.nil_append, List.cons_append, List.length_cons, List.length_nil, true_and, and_true, Nat.zero_le, Nat.reduceLeDiff, Nat.reduceAdd, Nat.reduceEqDiff, false_imp_iff, true_imp_iff, not_false_eq_true, not_true_eq_false, imp_self, forall_const, b01_0, bt_nI (show t < 4294967296 by omega)]
      refine ⟨fun c => next (fun q => by rw [c] at q; cases q), fun c => ?_⟩
      have c2 : t.testBit j = true := by simpa using c
      refine st_X6_agrees_64 ?_; simp only [bX6_agrees_64, exP, stP, p1, p2, pr, pobj, parr, sh0, sh1, sh2, sh3, sh4, sh5, sh6, sh7, sh8, sh9, sh10, sh11, sh12, sh13, sh14, sh15, sh16, sh17, sh18, sh19, sh20, sh21, sh22, sh23, sh24, sh25, sh26, sh27, sh28, sh29, sh30, sh31, sh32, sh33, sh34, sh35, sh36, sh37, sh38, sh39, sh40, sh41, sh42, sh43, sh44, sh45, sh46, sh47, sh48, sh49, sh50, sh51, sh52, sh53, sh54, sh55, sh56, sh57, sh58, sh59, brP, brN, swP, amask, apush, List.getElem?_cons_zero, List.getElem?_cons_succ, List.set_cons_zero, List.set_cons_succ, List.take_succ_cons, List.take_zero, List.drop_succ_cons, List.drop_zero, List.reverse_cons, List.reverse_nil, List.nil_append, List.cons_append, List.length_cons, List.length_nil, true_and, and_true, Nat.zero_le, Nat.reduceLeDiff, Nat.reduceAdd, Nat.reduceEqDiff, false_imp_iff, true_imp_iff, not_false_eq_true, not_true_eq_false, imp_self, forall_const, vj, cj]
      rw [u54]
      refine ⟨fun c3 => next (fun _ => ?_), fun c3 => ?_⟩
      · rw [Int32.le_iff_toInt_le] at c3; exact c3
      · rw [Int32.le_iff_toInt_le] at c3
        refine st_X6_agrees_79 ?_; simp only [bX6_agrees_79, exP, stP, p1, p2, pr, pobj, parr, sh0, sh1, sh2, sh3, sh4, sh5, sh6, sh7, sh8, sh9, sh10, sh11, sh12, sh13, sh14, sh15, sh16, sh17, sh18, sh19, sh20, sh21, sh22, sh23, sh24, sh25, sh26, sh27, sh28, sh29, sh30, sh31, sh32, sh33, sh34, sh35, sh36, sh37, sh38, sh39, sh40, sh41, sh42, sh43, sh44, sh45, sh46, sh47, sh48, sh49, sh50, sh51, sh52, sh53, sh54, sh55, sh56, sh57, sh58, sh59, brP, brN, swP, amask, apush, List.getElem?_cons_zero, List.getElem?_cons_succ, List.set_cons_zero, List.set_cons_succ, List.take_succ_cons, List.take_zero, List.drop_succ_cons, List.drop_zero, List.reverse_cons, List.reverse_nil, List.nil_append, List.cons_append, List.length_cons, List.length_nil, true_and, and_true, Nat.zero_le, Nat.reduceLeDiff, Nat.reduceAdd, Nat.reduceEqDiff, false_imp_iff, true_imp_iff, not_false_eq_true, not_true_eq_false, imp_self, forall_const]
        refine ⟨Or.inr (Or.inl trivial), h1, false, rfl, fun q => absurd q (by decide), ?_⟩
        rintro ⟨y, hy⟩
        exfalso
        have h9 : (u 57 j).toInt ≤ y j := h2.2.2 y (fun b hb htb => (hy.1 b hb htb).1) hy.2 j (by omega) c2
        have := (hy.1 j (by omega) c2).2
        unfold gL at this
        omega
  have loop1 : ∀ (n j : Nat), j + n = nd → AW 2 kX6_agrees (AGQ m t) 2 [some (.inr 34), some (.inl (nI t)), some (.inl (nI j))] [] m := by
    intro n
    induction n with
    | zero =>
      intro j hj
      obtain rfl : j = nd := by omega
      refine st_X6_agrees_2 ?_; simp only [bX6_agrees_2, exP, stP, p1, p2, pr, pobj, parr, sh0, sh1, sh2, sh3, sh4, sh5, sh6, sh7, sh8, sh9, sh10, sh11, sh12, sh13, sh14, sh15, sh16, sh17, sh18, sh19, sh20, sh21, sh22, sh23, sh24, sh25, sh26, sh27, sh28, sh29, sh30, sh31, sh32, sh33, sh34, sh35, sh36, sh37, sh38, sh39, sh40, sh41, sh42, sh43, sh44, sh45, sh46, sh47, sh48, sh49, sh50, sh51, sh52, sh53, sh54, sh55, sh56, sh57, sh58, sh59, brP, brN, swP, amask, apush, List.getElem?_cons_zero, List.getElem?_cons_succ, List.set_cons_zero, List.set_cons_succ, List.take_succ_cons, List.take_zero, List.drop_succ_cons, List.drop_zero, List.reverse_cons, List.reverse_nil, List.nil_append, List.cons_append, List.length_cons, List.length_nil, true_and, and_true, Nat.zero_le, Nat.reduceLeDiff, Nat.reduceAdd, Nat.reduceEqDiff, false_imp_iff, true_imp_iff, not_false_eq_true, not_true_eq_false, imp_self, forall_const, hG.2.1, eq_true (nI_le (Nat.le_refl j) (show j < 2 ^ 31 by omega))]
      refine st_X6_agrees_41 ?_; simp only [bX6_agrees_41, exP, stP, p1, p2, pr, pobj, parr, sh0, sh1, sh2, sh3, sh4, sh5, sh6, sh7, sh8, sh9, sh10, sh11, sh12, sh13, sh14, sh15, sh16, sh17, sh18, sh19, sh20, sh21, sh22, sh23, sh24, sh25, sh26, sh27, sh28, sh29, sh30, sh31, sh32, sh33, sh34, sh35, sh36, sh37, sh38, sh39, sh40, sh41, sh42, sh43, sh44, sh45, sh46, sh47, sh48, sh49, sh50, sh51, sh52, sh53, sh54, sh55, sh56, sh57, sh58, sh59, brP, brN, swP, amask, apush, List.getElem?_cons_zero, List.getElem?_cons_succ, List.set_cons_zero, List.set_cons_succ, List.take_succ_cons, List.take_zero, List.drop_succ_cons, List.drop_zero, List.reverse_cons, List.reverse_nil, List.nil_append, List.cons_append, List.length_cons, List.length_nil, true_and, and_true, Nat.zero_le, Nat.reduceLeDiff, Nat.reduceAdd, Nat.reduceEqDiff, false_imp_iff, true_imp_iff, not_false_eq_true, not_true_eq_false, imp_self, forall_const]
      refine ⟨_, ⟨1, by decide, c_ups m j t hG ht hin⟩, ?_⟩
      rintro z u ⟨rfl, h1, h2⟩
      simp only [exP, stP, p1, p2, pr, pobj, parr, sh0, sh1, sh2, sh3, sh4, sh5, sh6, sh7, sh8, sh9, sh10, sh11, sh12, sh13, sh14, sh15, sh16, sh17, sh18, sh19, sh20, sh21, sh22, sh23, sh24, sh25, sh26, sh27, sh28, sh29, sh30, sh31, sh32, sh33, sh34, sh35, sh36, sh37, sh38, sh39, sh40, sh41, sh42, sh43, sh44, sh45, sh46, sh47, sh48, sh49, sh50, sh51, sh52, sh53, sh54, sh55, sh56, sh57, sh58, sh59, brP, brN, swP, amask, apush, List.getElem?_cons_zero, List.getElem?_cons_succ, List.set_cons_zero, List.set_cons_succ, List.take_succ_cons, List.take_zero, List.drop_succ_cons, List.drop_zero, List.reverse_cons, List.reverse_nil, List.nil_append, List.cons_append, List.length_cons, List.length_nil, true_and, and_true, Nat.zero_le, Nat.reduceLeDiff, Nat.reduceAdd, Nat.reduceEqDiff, false_imp_iff, true_imp_iff, not_false_eq_true, not_true_eq_false, imp_self, forall_const]
      exact loop2 j 0 u (by omega) h1 h2 (fun d hd => by omega)
    | succ n ih =>
      intro j hj
      have vj := eq_true (vp_in_nI (show j < 12 by omega) (show 12 < 2 ^ 31 by omega))
      have cj := nI_clamp (show j < 2 ^ 31 by omega)
      have next : AW 2 kX6_agrees (AGQ m t) 35 [some (.inr 34), some (.inl (nI t)), some (.inl (nI j))] [] m := by
        refine st_X6_agrees_35 ?_; simp only [bX6_agrees_35, exP, stP, p1, p2, pr, pobj, parr, sh0, sh1, sh2, sh3, sh4, sh5, sh6, sh7, sh8, sh9, sh10, sh11, sh12, sh13, sh14, sh15, sh16, sh17, sh18, sh19, sh20, sh21, sh22, sh23, sh24, sh25, sh26, sh27, sh28, sh29, sh30, sh31, sh32, sh33, sh34, sh35, sh36, sh37, sh38, sh39, sh40, sh41, sh42, sh43, sh44, sh45, sh46, sh47, sh48, sh49, sh50, sh51, sh52, sh53, sh54, sh55, sh56, sh57, sh58, sh59, brP, brN, swP, amask, apush, List.getElem?_cons_zero, List.getElem?_cons_succ, List.set_cons_zero, List.set_cons_succ, List.take_succ_cons, List.take_zero, List.drop_succ_cons, List.drop_zero, List.reverse_cons, List.reverse_nil, List.nil_append, List.cons_append, List.length_cons, List.length_nil, true_and, and_true, Nat.zero_le, Nat.reduceLeDiff, Nat.reduceAdd, Nat.reduceEqDiff, false_imp_iff, true_imp_iff, not_false_eq_true, not_true_eq_false, imp_self, forall_const]
        rw [nI_1]
        exact ih (j + 1) (by omega)
      refine st_X6_agrees_2 ?_; simp only [bX6_agrees_2, exP, stP, p1, p2, pr, pobj, parr, sh0, sh1, sh2, sh3, sh4, sh5, sh6, sh7, sh8, sh9, sh10, sh11, sh12, sh13, sh14, sh15, sh16, sh17, sh18, sh19, sh20, sh21, sh22, sh23, sh24, sh25, sh26, sh27, sh28, sh29, sh30, sh31, sh32, sh33, sh34, sh35, sh36, sh37, sh38, sh39, sh40, sh41, sh42, sh43, sh44, sh45, sh46, sh47, sh48, sh49, sh50, sh51, sh52, sh53, sh54, sh55, sh56, sh57, sh58, sh59, brP, brN, swP, amask, apush, List.getElem?_cons_zero, List.getElem?_cons_succ, List.set_cons_zero, List.set_cons_succ, List.take_succ_cons, List.take_zero, List.drop_succ_cons, List.drop_zero, List.reverse_cons, List.reverse_nil, List.nil_append, List.cons_append, List.length_cons, List.length_nil, true_and, and_true, Nat.zero_le, Nat.reduceLeDiff, Nat.reduceAdd, Nat.reduceEqDiff, false_imp_iff, true_imp_iff, not_false_eq_true, not_true_eq_false, imp_self, forall_const, hG.2.1, eq_false (nI_ge (show j < nd by omega) (show nd < 2 ^ 31 by omega))]
      refine st_X6_agrees_10 ?_; simp only [bX6_agrees_10, exP, stP, p1, p2, pr, pobj, parr, sh0, sh1, sh2, sh3, sh4, sh5, sh6, sh7, sh8, sh9, sh10, sh11, sh12, sh13, sh14, sh15, sh16, sh17, sh18, sh19, sh20, sh21, sh22, sh23, sh24, sh25, sh26, sh27, sh28, sh29, sh30, sh31, sh32, sh33, sh34, sh35, sh36, sh37, sh38, sh39, sh40, sh41, sh42, sh43, sh44, sh45, sh46, sh47, sh48, sh49, sh50, sh51, sh52, sh53, sh54, sh55, sh56, sh57, sh58, sh59, brP, brN, swP, amask, apush, List.getElem?_cons_zero, List.getElem?_cons_succ, List.set_cons_zero, List.set_cons_succ, List.take_succ_cons, List.take_zero, List.drop_succ_cons, List.drop_zero, List.reverse_cons, List.reverse_nil, List.nil_append, List.cons_append, List.length_cons, List.length_nil, true_and, and_true, Nat.zero_le, Nat.reduceLeDiff, Nat.reduceAdd, Nat.reduceEqDiff, false_imp_iff, true_imp_iff, not_false_eq_true, not_true_eq_false, imp_self, forall_const]
      refine ⟨_, ⟨0, by decide, c_mhas _ _ j (by omega)⟩, ?_⟩; rintro _ _ ⟨rfl, rfl⟩; simp only [exP, stP, p1, p2, pr, pobj, parr, sh0, sh1, sh2, sh3, sh4, sh5, sh6, sh7, sh8, sh9, sh10, sh11, sh12, sh13, sh14, sh15, sh16, sh17, sh18, sh19, sh20, sh21, sh22, sh23, sh24, sh25, sh26, sh27, sh28, sh29, sh30, sh31, sh32, sh33, sh34, sh35, sh36, sh37, sh38, sh39, sh40, sh41, sh42, sh43, sh44, sh45, sh46, sh47, sh48, sh49, sh50, sh51, sh52, sh53, sh54, sh55, sh56, sh57, sh58, sh59, brP, brN, swP, amask, apush, List.getElem?_cons_zero, List.getElem?_cons_succ, List.set_cons_zero, List.set_cons_succ, List.take_succ_cons, List.take_zero, List.drop_succ_cons, List.drop_zero, List.reverse_cons, List.reverse_nil, List.nil_append, List.cons_append, List.length_cons, List.length_nil, true_and, and_true, Nat.zero_le, Nat.reduceLeDiff, Nat.reduceAdd, Nat.reduceEqDiff, false_imp_iff, true_imp_iff, not_false_eq_true, not_true_eq_false, imp_self, forall_const, b01_0, bt_nI (show t < 4294967296 by omega)]
      refine ⟨fun c => next, fun c => ?_⟩
      have c2 : t.testBit j = true := by simpa using c
      refine st_X6_agrees_18 ?_; simp only [bX6_agrees_18, exP, stP, p1, p2, pr, pobj, parr, sh0, sh1, sh2, sh3, sh4, sh5, sh6, sh7, sh8, sh9, sh10, sh11, sh12, sh13, sh14, sh15, sh16, sh17, sh18, sh19, sh20, sh21, sh22, sh23, sh24, sh25, sh26, sh27, sh28, sh29, sh30, sh31, sh32, sh33, sh34, sh35, sh36, sh37, sh38, sh39, sh40, sh41, sh42, sh43, sh44, sh45, sh46, sh47, sh48, sh49, sh50, sh51, sh52, sh53, sh54, sh55, sh56, sh57, sh58, sh59, brP, brN, swP, amask, apush, List.getElem?_cons_zero, List.getElem?_cons_succ, List.set_cons_zero, List.set_cons_succ, List.take_succ_cons, List.take_zero, List.drop_succ_cons, List.drop_zero, List.reverse_cons, List.reverse_nil, List.nil_append, List.cons_append, List.length_cons, List.length_nil, true_and, and_true, Nat.zero_le, Nat.reduceLeDiff, Nat.reduceAdd, Nat.reduceEqDiff, false_imp_iff, true_imp_iff, not_false_eq_true, not_true_eq_false, imp_self, forall_const, vj, cj]
      refine ⟨fun c3 => next, fun c3 => ?_⟩
      rw [Int32.le_iff_toInt_le] at c3
      refine st_X6_agrees_33 ?_; simp only [bX6_agrees_33, exP, stP, p1, p2, pr, pobj, parr, sh0, sh1, sh2, sh3, sh4, sh5, sh6, sh7, sh8, sh9, sh10, sh11, sh12, sh13, sh14, sh15, sh16, sh17, sh18, sh19, sh20, sh21, sh22, sh23, sh24, sh25, sh26, sh27, sh28, sh29, sh30, sh31, sh32, sh33, sh34, sh35, sh36, sh37, sh38, sh39, sh40, sh41, sh42, sh43, sh44, sh45, sh46, sh47, sh48, sh49, sh50, sh51, sh52, sh53, sh54, sh55, sh56, sh57, sh58, sh59, brP, brN, swP, amask, apush, List.getElem?_cons_zero, List.getElem?_cons_succ, List.set_cons_zero, List.set_cons_succ, List.take_succ_cons, List.take_zero, List.drop_succ_cons, List.drop_zero, List.reverse_cons, List.reverse_nil, List.nil_append, List.cons_append, List.length_cons, List.length_nil, true_and, and_true, Nat.zero_le, Nat.reduceLeDiff, Nat.reduceAdd, Nat.reduceEqDiff, false_imp_iff, true_imp_iff, not_false_eq_true, not_true_eq_false, imp_self, forall_const]
      refine ⟨Or.inr (Or.inl trivial), fun _ _ => rfl, false, rfl, fun q => absurd q (by decide), ?_⟩
      rintro ⟨y, hy⟩
      exfalso
      have := hy.1 j (by omega) c2
      unfold gF gL at this
      omega
  refine st_X6_agrees_0 ?_; simp only [bX6_agrees_0, exP, stP, p1, p2, pr, pobj, parr, sh0, sh1, sh2, sh3, sh4, sh5, sh6, sh7, sh8, sh9, sh10, sh11, sh12, sh13, sh14, sh15, sh16, sh17, sh18, sh19, sh20, sh21, sh22, sh23, sh24, sh25, sh26, sh27, sh28, sh29, sh30, sh31, sh32, sh33, sh34, sh35, sh36, sh37, sh38, sh39, sh40, sh41, sh42, sh43, sh44, sh45, sh46, sh47, sh48, sh49, sh50, sh51, sh52, sh53, sh54, sh55, sh56, sh57, sh58, sh59, brP, brN, swP, amask, apush, List.getElem?_cons_zero, List.getElem?_cons_succ, List.set_cons_zero, List.set_cons_succ, List.take_succ_cons, List.take_zero, List.drop_succ_cons, List.drop_zero, List.reverse_cons, List.reverse_nil, List.nil_append, List.cons_append, List.length_cons, List.length_nil, true_and, and_true, Nat.zero_le, Nat.reduceLeDiff, Nat.reduceAdd, Nat.reduceEqDiff, false_imp_iff, true_imp_iff, not_false_eq_true, not_true_eq_false, imp_self, forall_const]
  exact loop1 nd 0 (by omega)
/-! ===== sets within nd ===== -/
def fullN (nd : Nat) : Nat := 2 ^ nd - 1
theorem fullN_bit (nd i : Nat) : (fullN nd).testBit i = decide (i < nd) := by
  unfold fullN
  rw [Nat.testBit_two_pow_sub_one]
theorem fullN_lt {nd : Nat} (h : nd ≤ 12) : fullN nd < 4096 := by
  unfold fullN
  have : 2 ^ nd ≤ 2 ^ 12 := Nat.pow_le_pow_right (by omega) h
  have h2 : 0 < 2 ^ nd := Nat.pow_pos (by omega)
  omega
theorem le_fullN {nd t : Nat} : t ≤ fullN nd ↔ inN t nd := by
  unfold fullN inN
  have h2 : 0 < 2 ^ nd := Nat.pow_pos (by omega)
  constructor
  · intro h i hi
    rcases Nat.lt_or_ge i nd with q | q
    · exact q
    · have h3 : 2 ^ nd ≤ 2 ^ i := Nat.pow_le_pow_right (by omega) q
      rw [Nat.testBit_lt_two_pow (by omega)] at hi
      cases hi
  · intro h
    have : t < 2 ^ nd := Nat.lt_pow_two_of_testBit t (fun i hi => by
      cases q : t.testBit i with
      | false => rfl
      | true => have := h i q; omega)
    omega
theorem sub_fullN {nd t : Nat} : sub t (fullN nd) ↔ inN t nd := by
  unfold sub inN
  constructor
  · intro h i hi
    have := h i hi
    rw [fullN_bit] at this
    simpa using this
  · intro h i hi
    rw [fullN_bit]
    simpa using h i hi
theorem shl_full : ∀ nd, nd ≤ 12 → ((1 : Int32) <<< (nI nd &&& 31)) - 1 = nI (fullN nd) := by decide +kernel
theorem dif_in {A x nd : Nat} (h : inN A nd) : inN (dif A x) nd := fun i hi => by
  rw [dif_bit] at hi
  simp at hi
  exact h i hi.1
theorem and_not2 {A x : Nat} (hA : A < 4096) (hx : x < 4096) : nI A &&& (nI x ^^^ (-1)) = nI (dif A x) := by
  have h2 : dif A x < 4096 := low12_lt (fun i hi => by
    rw [dif_bit] at hi
    simp at hi
    exact lt_low12 hA i hi.1)
  apply b_ext
  intro i hi
  rw [b_and, bt_not _ hi, bt_nI (by omega), bt_nI (by omega), bt_nI (by omega), dif_bit]
theorem wsN_ext {wt : Nat → Int} {t nd : Nat} (h : inN t nd) : ∀ n, nd ≤ n → wsN wt t n = wsN wt t nd
  | 0, hn => by
    obtain rfl : nd = 0 := by omega
    rfl
  | n + 1, hn => by
    by_cases q : nd = n + 1
    · rw [q]
    · have ih := wsN_ext (wt := wt) h n (by omega)
      unfold wsN
      have : t.testBit n = false := by
        cases r : t.testBit n with
        | false => rfl
        | true => have := h n r; omega
      rw [this]
      have e : wsN wt t nd = wsN wt t n := ih.symm
      simp only [Bool.false_eq_true, if_false]
      rw [Int.add_zero, ih]
      cases nd with
      | zero => rfl
      | succ k => rfl
