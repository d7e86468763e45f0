/-! ===== Spans: change, add ===== -/
theorem yrs_eq (f l : Int32) : f_areYears f l = b01 (f_isSpan f l) := by
  have z0 : (0 : Int32).toInt = 0 := rfl
  have z3 : (3000 : Int32).toInt = 3000 := rfl
  have h : f_isSpan f l = true ↔ (0 ≤ f.toInt ∧ f.toInt ≤ l.toInt ∧ l.toInt ≤ 3000) := by
    unfold f_isSpan
    rw [Bool.and_eq_true, lies3, lies3, Int32.lt_iff_toInt_lt, Int32.lt_iff_toInt_lt, Int32.lt_iff_toInt_lt, Int32.lt_iff_toInt_lt, z0, z3]
    omega
  unfold f_areYears
  by_cases a : f < 0
  · rw [if_pos a]
    rw [Int32.lt_iff_toInt_lt, z0] at a
    cases q : f_isSpan f l with
    | false => rfl
    | true => have := h.mp q; omega
  · rw [if_neg a]
    rw [Int32.lt_iff_toInt_lt, z0] at a
    by_cases b : l < f
    · rw [if_pos b]
      rw [Int32.lt_iff_toInt_lt] at b
      cases q : f_isSpan f l with
      | false => rfl
      | true => have := h.mp q; omega
    · rw [if_neg b]
      rw [Int32.lt_iff_toInt_lt] at b
      by_cases c : 3000 < l
      · rw [if_pos c]
        rw [Int32.lt_iff_toInt_lt, z3] at c
        cases q : f_isSpan f l with
        | false => rfl
        | true => have := h.mp q; omega
      · rw [if_neg c]
        rw [Int32.lt_iff_toInt_lt, z3] at c
        rw [h.mpr (by omega)]
        rfl
theorem span_rng {f l : Int32} (h : f_isSpan f l = true) : 0 ≤ f.toInt ∧ f.toInt ≤ 3000 ∧ 0 ≤ l.toInt ∧ l.toInt ≤ 3000 := by
  have z0 : (0 : Int32).toInt = 0 := rfl
  have z3 : (3000 : Int32).toInt = 3000 := rfl
  unfold f_isSpan at h
  rw [Bool.and_eq_true, lies3, lies3, Int32.lt_iff_toInt_lt, Int32.lt_iff_toInt_lt, Int32.lt_iff_toInt_lt, Int32.lt_iff_toInt_lt, z0, z3] at h
  omega
/-- the rows of r behind a change at place j -/
def g_chg (m : AM) (r j : Nat) (f l : Int32) : AM := aup (aup m (r + 1) (upd (m (r + 1)) j f)) (r + 2) (upd (m (r + 2)) j l)
def ChgQ (m : AM) (r n : Nat) (x f l : Int32) : APost := fun z u => ((f_lies x 0 (nI n - 1) && f_isSpan f l) = false ∧ z = some 0 ∧ m = u) ∨ (∃ j, j < n ∧ x = nI j ∧ f_isSpan f l = true ∧ z = some 1 ∧ g_chg m r j f l = u)
theorem c_change (m : AM) (r n : Nat) (hr : isS r) (hn : n ≤ lenS r) (e : m r 2 = nI n) (x f l : Int32) : AC 1 kX2_change [.inr r, .inl x, .inl f, .inl l] m (ChgQ m r n x f l) := by
  obtain ⟨h0, h1, h2, h3⟩ := isS_sh hr
  refine AC_of own_X2_change (ls := [some (.inr r), some (.inl x), some (.inl f), some (.inl l)]) (z := 0) (Nat.le_of_ble_eq_true rfl) rfl ?_
  have out : (f_lies x 0 (nI n - 1) && f_isSpan f l) = false → AW 1 kX2_change (ChgQ m r n x f l) 16 [none, none, none, none] [] m := by
    intro hb
    refine st_X2_change_16 ?_; simp only [bX2_change_16, exP, stP, p1, p2, pr, pobj, parr, sh0, sh1, sh2, sh3, sh4, sh5, sh6, sh7, sh8, sh9, sh10, sh11, sh12, sh13, sh14, sh15, sh16, sh17, sh18, sh19, sh20, sh21, sh22, sh23, sh24, sh25, sh26, sh27, sh28, sh29, sh30, sh31, sh32, sh33, sh34, sh35, sh36, sh37, sh38, sh39, sh40, sh41, sh42, sh43, sh44, sh45, sh46, sh47, sh48, sh49, sh50, sh51, sh52, sh53, sh54, sh55, sh56, sh57, sh58, sh59, brP, brN, swP, amask, apush, List.getElem?_cons_zero, List.getElem?_cons_succ, List.set_cons_zero, List.set_cons_succ, List.take_succ_cons, List.take_zero, List.drop_succ_cons, List.drop_zero, List.reverse_cons, List.reverse_nil, List.nil_append, List.cons_append, List.length_cons, List.length_nil, true_and, and_true, Nat.zero_le, Nat.reduceLeDiff, Nat.reduceAdd, Nat.reduceEqDiff, false_imp_iff, true_imp_iff, not_false_eq_true, not_true_eq_false, imp_self, forall_const]
    exact ⟨Or.inr (Or.inl trivial), Or.inl ⟨hb, rfl, rfl⟩⟩
  refine st_X2_change_0 ?_; simp only [bX2_change_0, exP, stP, p1, p2, pr, pobj, parr, sh0, sh1, sh2, sh3, sh4, sh5, sh6, sh7, sh8, sh9, sh10, sh11, sh12, sh13, sh14, sh15, sh16, sh17, sh18, sh19, sh20, sh21, sh22, sh23, sh24, sh25, sh26, sh27, sh28, sh29, sh30, sh31, sh32, sh33, sh34, sh35, sh36, sh37, sh38, sh39, sh40, sh41, sh42, sh43, sh44, sh45, sh46, sh47, sh48, sh49, sh50, sh51, sh52, sh53, sh54, sh55, sh56, sh57, sh58, sh59, brP, brN, swP, amask, apush, List.getElem?_cons_zero, List.getElem?_cons_succ, List.set_cons_zero, List.set_cons_succ, List.take_succ_cons, List.take_zero, List.drop_succ_cons, List.drop_zero, List.reverse_cons, List.reverse_nil, List.nil_append, List.cons_append, List.length_cons, List.length_nil, true_and, and_true, Nat.zero_le, Nat.reduceLeDiff, Nat.reduceAdd, Nat.reduceEqDiff, false_imp_iff, true_imp_iff, not_false_eq_true, not_true_eq_false, imp_self, forall_const, h0, h1, h2]
  refine ⟨_, ⟨0, by decide, c_has m x r hr⟩, ?_⟩
  rintro z u ⟨rfl, rfl⟩
  rw [e, has_lies r hr x n hn]
  simp only [exP, stP, p1, p2, pr, pobj, parr, sh0, sh1, sh2, sh3, sh4, sh5, sh6, sh7, sh8, sh9, sh10, sh11, sh12, sh13, sh14, sh15, sh16, sh17, sh18, sh19, sh20, sh21, sh22, sh23, sh24, sh25, sh26, sh27, sh28, sh29, sh30, sh31, sh32, sh33, sh34, sh35, sh36, sh37, sh38, sh39, sh40, sh41, sh42, sh43, sh44, sh45, sh46, sh47, sh48, sh49, sh50, sh51, sh52, sh53, sh54, sh55, sh56, sh57, sh58, sh59, brP, brN, swP, amask, apush, List.getElem?_cons_zero, List.getElem?_cons_succ, List.set_cons_zero, List.set_cons_succ, List.take_succ_cons, List.take_zero, List.drop_succ_cons, List.drop_zero, List.reverse_cons, List.reverse_nil, List.nil_append, List.cons_append, List.length_cons, List.length_nil, true_and, and_true, Nat.zero_le, Nat.reduceLeDiff, Nat.reduceAdd, Nat.reduceEqDiff, false_imp_iff, true_imp_iff, not_false_eq_true, not_true_eq_false, imp_self, forall_const, b01_0]
  refine ⟨fun c => out (by rw [c]; rfl), fun c => ?_⟩
  have c' : f_lies x 0 (nI n - 1) = true := by simpa using c
  obtain ⟨j, hj, rfl⟩ := (lies_nat (x := x) (n := n) (by omega)).2 c'
  have vj := eq_true (vp_in_nI (show j < lenS r by omega) (show lenS r < 2 ^ 31 by omega))
  have cj := nI_clamp (show j < 2 ^ 31 by omega)
  refine st_X2_change_8 ?_; simp only [bX2_change_8, exP, stP, p1, p2, pr, pobj, parr, sh0, sh1, sh2, sh3, sh4, sh5, sh6, sh7, sh8, sh9, sh10, sh11, sh12, sh13, sh14, sh15, sh16, sh17, sh18, sh19, sh20, sh21, sh22, sh23, sh24, sh25, sh26, sh27, sh28, sh29, sh30, sh31, sh32, sh33, sh34, sh35, sh36, sh37, sh38, sh39, sh40, sh41, sh42, sh43, sh44, sh45, sh46, sh47, sh48, sh49, sh50, sh51, sh52, sh53, sh54, sh55, sh56, sh57, sh58, sh59, brP, brN, swP, amask, apush, List.getElem?_cons_zero, List.getElem?_cons_succ, List.set_cons_zero, List.set_cons_succ, List.take_succ_cons, List.take_zero, List.drop_succ_cons, List.drop_zero, List.reverse_cons, List.reverse_nil, List.nil_append, List.cons_append, List.length_cons, List.length_nil, true_and, and_true, Nat.zero_le, Nat.reduceLeDiff, Nat.reduceAdd, Nat.reduceEqDiff, false_imp_iff, true_imp_iff, not_false_eq_true, not_true_eq_false, imp_self, forall_const]
  refine ⟨_, ⟨0, by decide, c_areYears m f l⟩, ?_⟩; rintro _ _ ⟨rfl, rfl⟩; simp only [exP, stP, p1, p2, pr, pobj, parr, sh0, sh1, sh2, sh3, sh4, sh5, sh6, sh7, sh8, sh9, sh10, sh11, sh12, sh13, sh14, sh15, sh16, sh17, sh18, sh19, sh20, sh21, sh22, sh23, sh24, sh25, sh26, sh27, sh28, sh29, sh30, sh31, sh32, sh33, sh34, sh35, sh36, sh37, sh38, sh39, sh40, sh41, sh42, sh43, sh44, sh45, sh46, sh47, sh48, sh49, sh50, sh51, sh52, sh53, sh54, sh55, sh56, sh57, sh58, sh59, brP, brN, swP, amask, apush, List.getElem?_cons_zero, List.getElem?_cons_succ, List.set_cons_zero, List.set_cons_succ, List.take_succ_cons, List.take_zero, List.drop_succ_cons, List.drop_zero, List.reverse_cons, List.reverse_nil, List.nil_append, List.cons_append, List.length_cons, List.length_nil, true_and, and_true, Nat.zero_le, Nat.reduceLeDiff, Nat.reduceAdd, Nat.reduceEqDiff, false_imp_iff, true_imp_iff, not_false_eq_true, not_true_eq_false, imp_self, forall_const]
  rw [yrs_eq]
  simp only [b01_0]
  refine ⟨fun c1 => ?_, fun c1 => out (by rw [c1, c']; rfl)⟩
  have c1' : f_isSpan f l = true := by simpa using c1
  refine st_X2_change_18 ?_; simp only [bX2_change_18, exP, stP, p1, p2, pr, pobj, parr, sh0, sh1, sh2, sh3, sh4, sh5, sh6, sh7, sh8, sh9, sh10, sh11, sh12, sh13, sh14, sh15, sh16, sh17, sh18, sh19, sh20, sh21, sh22, sh23, sh24, sh25, sh26, sh27, sh28, sh29, sh30, sh31, sh32, sh33, sh34, sh35, sh36, sh37, sh38, sh39, sh40, sh41, sh42, sh43, sh44, sh45, sh46, sh47, sh48, sh49, sh50, sh51, sh52, sh53, sh54, sh55, sh56, sh57, sh58, sh59, brP, brN, swP, amask, apush, List.getElem?_cons_zero, List.getElem?_cons_succ, List.set_cons_zero, List.set_cons_succ, List.take_succ_cons, List.take_zero, List.drop_succ_cons, List.drop_zero, List.reverse_cons, List.reverse_nil, List.nil_append, List.cons_append, List.length_cons, List.length_nil, true_and, and_true, Nat.zero_le, Nat.reduceLeDiff, Nat.reduceAdd, Nat.reduceEqDiff, false_imp_iff, true_imp_iff, not_false_eq_true, not_true_eq_false, imp_self, forall_const, h0, h1, h2, vj, cj]
  refine ⟨Or.inr (Or.inr trivial), Or.inr ⟨j, hj, rfl, c1', rfl, ?_⟩⟩
  unfold g_chg
  rw [aup_ne (show r + 2 ≠ r + 1 by omega)]
/-- the rows of r behind an add -/
def g_add (m : AM) (r n : Nat) (f l : Int32) : AM := g_chg (aup m r (upd (m r) 2 (nI (n + 1)))) r n f l
def AddQ (m : AM) (r n : Nat) (f l : Int32) : APost := fun z u => ((f_isSpan f l && decide (n < lenS r)) = false ∧ z = some (-1) ∧ m = u) ∨ (f_isSpan f l = true ∧ n < lenS r ∧ z = some (nI n) ∧ g_add m r n f l = u)
theorem c_add (m : AM) (r n : Nat) (hr : isS r) (hn : n ≤ lenS r) (e : m r 2 = nI n) (f l : Int32) : AC 2 kX2_add [.inr r, .inl f, .inl l] m (AddQ m r n f l) := by
  obtain ⟨h0, h1, h2, h3⟩ := isS_sh hr
  refine AC_of own_X2_add (ls := [some (.inr r), some (.inl f), some (.inl l)]) (z := 0) (Nat.le_of_ble_eq_true rfl) rfl ?_
  have out : (f_isSpan f l && decide (n < lenS r)) = false → AW 2 kX2_add (AddQ m r n f l) 20 [none, none, none] [] m := by
    intro hb
    refine st_X2_add_20 ?_; simp only [bX2_add_20, exP, stP, p1, p2, pr, pobj, parr, sh0, sh1, sh2, sh3, sh4, sh5, sh6, sh7, sh8, sh9, sh10, sh11, sh12, sh13, sh14, sh15, sh16, sh17, sh18, sh19, sh20, sh21, sh22, sh23, sh24, sh25, sh26, sh27, sh28, sh29, sh30, sh31, sh32, sh33, sh34, sh35, sh36, sh37, sh38, sh39, sh40, sh41, sh42, sh43, sh44, sh45, sh46, sh47, sh48, sh49, sh50, sh51, sh52, sh53, sh54, sh55, sh56, sh57, sh58, sh59, brP, brN, swP, amask, apush, List.getElem?_cons_zero, List.getElem?_cons_succ, List.set_cons_zero, List.set_cons_succ, List.take_succ_cons, List.take_zero, List.drop_succ_cons, List.drop_zero, List.reverse_cons, List.reverse_nil, List.nil_append, List.cons_append, List.length_cons, List.length_nil, true_and, and_true, Nat.zero_le, Nat.reduceLeDiff, Nat.reduceAdd, Nat.reduceEqDiff, false_imp_iff, true_imp_iff, not_false_eq_true, not_true_eq_false, imp_self, forall_const]
    exact ⟨Or.inl trivial, Or.inl ⟨hb, rfl, rfl⟩⟩
  refine st_X2_add_0 ?_; simp only [bX2_add_0, exP, stP, p1, p2, pr, pobj, parr, sh0, sh1, sh2, sh3, sh4, sh5, sh6, sh7, sh8, sh9, sh10, sh11, sh12, sh13, sh14, sh15, sh16, sh17, sh18, sh19, sh20, sh21, sh22, sh23, sh24, sh25, sh26, sh27, sh28, sh29, sh30, sh31, sh32, sh33, sh34, sh35, sh36, sh37, sh38, sh39, sh40, sh41, sh42, sh43, sh44, sh45, sh46, sh47, sh48, sh49, sh50, sh51, sh52, sh53, sh54, sh55, sh56, sh57, sh58, sh59, brP, brN, swP, amask, apush, List.getElem?_cons_zero, List.getElem?_cons_succ, List.set_cons_zero, List.set_cons_succ, List.take_succ_cons, List.take_zero, List.drop_succ_cons, List.drop_zero, List.reverse_cons, List.reverse_nil, List.nil_append, List.cons_append, List.length_cons, List.length_nil, true_and, and_true, Nat.zero_le, Nat.reduceLeDiff, Nat.reduceAdd, Nat.reduceEqDiff, false_imp_iff, true_imp_iff, not_false_eq_true, not_true_eq_false, imp_self, forall_const]
  refine ⟨_, ⟨0, by decide, c_areYears m f l⟩, ?_⟩; rintro _ _ ⟨rfl, rfl⟩; simp only [exP, stP, p1, p2, pr, pobj, parr, sh0, sh1, sh2, sh3, sh4, sh5, sh6, sh7, sh8, sh9, sh10, sh11, sh12, sh13, sh14, sh15, sh16, sh17, sh18, sh19, sh20, sh21, sh22, sh23, sh24, sh25, sh26, sh27, sh28, sh29, sh30, sh31, sh32, sh33, sh34, sh35, sh36, sh37, sh38, sh39, sh40, sh41, sh42, sh43, sh44, sh45, sh46, sh47, sh48, sh49, sh50, sh51, sh52, sh53, sh54, sh55, sh56, sh57, sh58, sh59, brP, brN, swP, amask, apush, List.getElem?_cons_zero, List.getElem?_cons_succ, List.set_cons_zero, List.set_cons_succ, List.take_succ_cons, List.take_zero, List.drop_succ_cons, List.drop_zero, List.reverse_cons, List.reverse_nil, List.nil_append, List.cons_append, List.length_cons, List.length_nil, true_and, and_true, Nat.zero_le, Nat.reduceLeDiff, Nat.reduceAdd, Nat.reduceEqDiff, false_imp_iff, true_imp_iff, not_false_eq_true, not_true_eq_false, imp_self, forall_const]
  rw [yrs_eq]
  simp only [b01_0]
  refine ⟨fun c => out (by rw [c]; rfl), fun c => ?_⟩
  have c' : f_isSpan f l = true := by simpa using c
  refine st_X2_add_8 ?_; simp only [bX2_add_8, exP, stP, p1, p2, pr, pobj, parr, sh0, sh1, sh2, sh3, sh4, sh5, sh6, sh7, sh8, sh9, sh10, sh11, sh12, sh13, sh14, sh15, sh16, sh17, sh18, sh19, sh20, sh21, sh22, sh23, sh24, sh25, sh26, sh27, sh28, sh29, sh30, sh31, sh32, sh33, sh34, sh35, sh36, sh37, sh38, sh39, sh40, sh41, sh42, sh43, sh44, sh45, sh46, sh47, sh48, sh49, sh50, sh51, sh52, sh53, sh54, sh55, sh56, sh57, sh58, sh59, brP, brN, swP, amask, apush, List.getElem?_cons_zero, List.getElem?_cons_succ, List.set_cons_zero, List.set_cons_succ, List.take_succ_cons, List.take_zero, List.drop_succ_cons, List.drop_zero, List.reverse_cons, List.reverse_nil, List.nil_append, List.cons_append, List.length_cons, List.length_nil, true_and, and_true, Nat.zero_le, Nat.reduceLeDiff, Nat.reduceAdd, Nat.reduceEqDiff, false_imp_iff, true_imp_iff, not_false_eq_true, not_true_eq_false, imp_self, forall_const, h0, h1, e]
  rw [nI_ltI (by omega) (by omega)]
  refine ⟨fun c1 => ?_, fun c1 => out (by simp [c1])⟩
  have e1 : nI n + 1 = nI (n + 1) := nI_1 n
  have e2 : nI (n + 1) - 1 = nI n := nI_pred n
  refine st_X2_add_22 ?_; simp only [bX2_add_22, exP, stP, p1, p2, pr, pobj, parr, sh0, sh1, sh2, sh3, sh4, sh5, sh6, sh7, sh8, sh9, sh10, sh11, sh12, sh13, sh14, sh15, sh16, sh17, sh18, sh19, sh20, sh21, sh22, sh23, sh24, sh25, sh26, sh27, sh28, sh29, sh30, sh31, sh32, sh33, sh34, sh35, sh36, sh37, sh38, sh39, sh40, sh41, sh42, sh43, sh44, sh45, sh46, sh47, sh48, sh49, sh50, sh51, sh52, sh53, sh54, sh55, sh56, sh57, sh58, sh59, brP, brN, swP, amask, apush, List.getElem?_cons_zero, List.getElem?_cons_succ, List.set_cons_zero, List.set_cons_succ, List.take_succ_cons, List.take_zero, List.drop_succ_cons, List.drop_zero, List.reverse_cons, List.reverse_nil, List.nil_append, List.cons_append, List.length_cons, List.length_nil, true_and, and_true, Nat.zero_le, Nat.reduceLeDiff, Nat.reduceAdd, Nat.reduceEqDiff, false_imp_iff, true_imp_iff, not_false_eq_true, not_true_eq_false, imp_self, forall_const, h0, e, e1, e2, aup_eq, upd_eq, true_or, or_true]
  refine ⟨_, ⟨1, by decide, c_change _ r (n + 1) hr (by omega) (by rw [aup_eq, upd_eq]) _ f l⟩, ?_⟩
  rintro z u (⟨hb, -⟩ | ⟨j, hj, ej, hs, rfl, rfl⟩)
  · exfalso
    have : f_lies (nI n) 0 (nI (n + 1) - 1) = true := (lies_nat (x := nI n) (n := n + 1) (by omega)).1.mpr (by rw [nI_toInt (by omega)]; omega)
    rw [this, c'] at hb
    cases hb
  · have ej' : n = j := (nI_eq (by omega) (by omega)).mp ej
    subst ej'
    have er : g_chg (aup m r (upd (m r) 2 (nI (n + 1)))) r n f l r 2 = nI (n + 1) := by
      unfold g_chg
      rw [aup_ne (show r ≠ r + 2 by omega), aup_ne (show r ≠ r + 1 by omega), aup_eq, upd_eq]
    simp only [exP, stP, p1, p2, pr, pobj, parr, sh0, sh1, sh2, sh3, sh4, sh5, sh6, sh7, sh8, sh9, sh10, sh11, sh12, sh13, sh14, sh15, sh16, sh17, sh18, sh19, sh20, sh21, sh22, sh23, sh24, sh25, sh26, sh27, sh28, sh29, sh30, sh31, sh32, sh33, sh34, sh35, sh36, sh37, sh38, sh39, sh40, sh41, sh42, sh43, sh44, sh45, sh46, sh47, sh48, sh49, sh50, sh51, sh52, sh53, sh54, sh55, sh56, sh57, sh58, sh59, brP, brN, swP, amask, apush, List.getElem?_cons_zero, List.getElem?_cons_succ, List.set_cons_zero, List.set_cons_succ, List.take_succ_cons, List.take_zero, List.drop_succ_cons, List.drop_zero, List.reverse_cons, List.reverse_nil, List.nil_append, List.cons_append, List.length_cons, List.length_nil, true_and, and_true, Nat.zero_le, Nat.reduceLeDiff, Nat.reduceAdd, Nat.reduceEqDiff, false_imp_iff, true_imp_iff, not_false_eq_true, not_true_eq_false, imp_self, forall_const, h0, er, e2]
    exact Or.inr ⟨c', c1, rfl, rfl⟩
