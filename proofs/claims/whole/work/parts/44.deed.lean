/-! ===== pairs: deed ===== -/
theorem lit_lies (x : Int32) (a b : Int32) : f_lies x a b = true ↔ (a.toInt ≤ x.toInt ∧ x.toInt ≤ b.toInt) := by
  unfold f_lies
  rw [Bool.and_eq_true, Bool.not_eq_true', Bool.not_eq_true', decide_eq_false_iff_not, decide_eq_false_iff_not, Int32.lt_iff_toInt_lt, Int32.lt_iff_toInt_lt]
  omega
def DeedC (m : AM) (nd : Nat) (f l w : Int32) (u : AM) : Prop := (∀ k, k ≠ 0 → k ≠ 10 → k ≠ 11 → k ≠ 12 → k ≠ 26 → k ≠ 31 → u k = m k) ∧ u 0 12 = 0 ∧ u 10 2 = nI (nd + 1) ∧ u 11 = upd (m 11) nd f ∧ u 12 = upd (m 12) nd l ∧ u 26 = upd (m 26) nd w ∧ u 31 = upd (m 31) nd (-1)
def DeedQ (m : AM) (nd : Nat) (f l w : Int32) : APost := fun z u => (¬ (f_isSpan f l = true ∧ nd < 12 ∧ f_lies w 1 99 = true) ∧ z = some (-1) ∧ m = u) ∨ (f_isSpan f l = true ∧ nd < 12 ∧ f_lies w 1 99 = true ∧ z = some (nI nd) ∧ DeedC m nd f l w u)
def DeedM (m : AM) (nd : Nat) (f l w : Int32) : APost := fun z u => z = some (nI nd) ∧ (∀ k, k ≠ 34 → k ≠ 42 → k ≠ 43 → k ≠ 44 → u k = m k) ∧ (∀ i, i ≠ 6 → i ≠ 30 → u 34 i = m 34 i) ∧ u 34 6 = nI (nd + 1) ∧ u 34 30 = 0 ∧ u 42 = upd (m 42) nd f ∧ u 43 = upd (m 43) nd l ∧ u 44 = upd (m 44) nd w
theorem c_deed (m : AM) (nd : Nat) (hnd : nd ≤ 12) (hn : m 10 2 = nI nd) (f l w : Int32) : AC 3 kX5_deed [.inr 0, .inl f, .inl l, .inl w] m (DeedQ m nd f l w) := by
  have hS : isS 10 := Or.inr (Or.inr (Or.inr rfl))
  have t1 : (1 : Int32).toInt = 1 := rfl
  have t99 : (99 : Int32).toInt = 99 := rfl
  refine AC_of own_X5_deed (ls := [some (.inr 0), some (.inl f), some (.inl l), some (.inl w), none]) (z := 1) (Nat.le_of_ble_eq_true rfl) rfl ?_
  have out : ¬ (f_isSpan f l = true ∧ nd < 12 ∧ f_lies w 1 99 = true) → AW 3 kX5_deed (DeedQ m nd f l w) 11 [none, none, none, none, none] [] m := by
    intro hb
    refine st_X5_deed_11 ?_; simp only [bX5_deed_11, exP, stP, p1, p2, pr, pobj, parr, sh0, sh1, sh2, sh3, sh4, sh5, sh6, sh7, sh8, sh9, sh10, sh11, sh12, sh13, sh14, sh15, sh16, sh17, sh18, sh19, sh20, sh21, sh22, sh23, sh24, sh25, sh26, sh27, sh28, sh29, sh30, sh31, sh32, sh33, sh34, sh35, sh36, sh37, sh38, sh39, sh40, sh41, sh42, sh43, sh44, sh45, sh46, sh47, sh48, sh49, sh50, sh51, sh52, sh53, sh54, sh55, sh56, sh57, sh58, sh59, brP, brN, swP, amask, apush, List.getElem?_cons_zero, List.getElem?_cons_succ, List.set_cons_zero, List.set_cons_succ, List.take_succ_cons, List.take_zero, List.drop_succ_cons, List.drop_zero, List.reverse_cons, List.reverse_nil, List.nil_append, List.cons_append, List.length_cons, List.length_nil, true_and, and_true, Nat.zero_le, Nat.reduceLeDiff, Nat.reduceAdd, Nat.reduceEqDiff, false_imp_iff, true_imp_iff, not_false_eq_true, not_true_eq_false, imp_self, forall_const]
    exact ⟨Or.inl trivial, Or.inl ⟨hb, rfl, rfl⟩⟩
  have out2 : ¬ (f_isSpan f l = true ∧ nd < 12 ∧ f_lies w 1 99 = true) → AW 3 kX5_deed (DeedQ m nd f l w) 36 [none, none, none, none, none] [] m := by
    intro hb
    refine st_X5_deed_36 ?_; simp only [bX5_deed_36, exP, stP, p1, p2, pr, pobj, parr, sh0, sh1, sh2, sh3, sh4, sh5, sh6, sh7, sh8, sh9, sh10, sh11, sh12, sh13, sh14, sh15, sh16, sh17, sh18, sh19, sh20, sh21, sh22, sh23, sh24, sh25, sh26, sh27, sh28, sh29, sh30, sh31, sh32, sh33, sh34, sh35, sh36, sh37, sh38, sh39, sh40, sh41, sh42, sh43, sh44, sh45, sh46, sh47, sh48, sh49, sh50, sh51, sh52, sh53, sh54, sh55, sh56, sh57, sh58, sh59, brP, brN, swP, amask, apush, List.getElem?_cons_zero, List.getElem?_cons_succ, List.set_cons_zero, List.set_cons_succ, List.take_succ_cons, List.take_zero, List.drop_succ_cons, List.drop_zero, List.reverse_cons, List.reverse_nil, List.nil_append, List.cons_append, List.length_cons, List.length_nil, true_and, and_true, Nat.zero_le, Nat.reduceLeDiff, Nat.reduceAdd, Nat.reduceEqDiff, false_imp_iff, true_imp_iff, not_false_eq_true, not_true_eq_false, imp_self, forall_const]
    exact ⟨Or.inl trivial, Or.inl ⟨hb, rfl, rfl⟩⟩
  refine st_X5_deed_0 ?_; simp only [bX5_deed_0, exP, stP, p1, p2, pr, pobj, parr, sh0, sh1, sh2, sh3, sh4, sh5, sh6, sh7, sh8, sh9, sh10, sh11, sh12, sh13, sh14, sh15, sh16, sh17, sh18, sh19, sh20, sh21, sh22, sh23, sh24, sh25, sh26, sh27, sh28, sh29, sh30, sh31, sh32, sh33, sh34, sh35, sh36, sh37, sh38, sh39, sh40, sh41, sh42, sh43, sh44, sh45, sh46, sh47, sh48, sh49, sh50, sh51, sh52, sh53, sh54, sh55, sh56, sh57, sh58, sh59, brP, brN, swP, amask, apush, List.getElem?_cons_zero, List.getElem?_cons_succ, List.set_cons_zero, List.set_cons_succ, List.take_succ_cons, List.take_zero, List.drop_succ_cons, List.drop_zero, List.reverse_cons, List.reverse_nil, List.nil_append, List.cons_append, List.length_cons, List.length_nil, true_and, and_true, Nat.zero_le, Nat.reduceLeDiff, Nat.reduceAdd, Nat.reduceEqDiff, false_imp_iff, true_imp_iff, not_false_eq_true, not_true_eq_false, imp_self, forall_const]
  refine ⟨fun c => out (fun q => ?_), fun c => ?_⟩
  · have q3 := (lit_lies w 1 99).mp q.2.2
    rw [Int32.lt_iff_toInt_lt] at c
    omega
  refine st_X5_deed_5 ?_; simp only [bX5_deed_5, exP, stP, p1, p2, pr, pobj, parr, sh0, sh1, sh2, sh3, sh4, sh5, sh6, sh7, sh8, sh9, sh10, sh11, sh12, sh13, sh14, sh15, sh16, sh17, sh18, sh19, sh20, sh21, sh22, sh23, sh24, sh25, sh26, sh27, sh28, sh29, sh30, sh31, sh32, sh33, sh34, sh35, sh36, sh37, sh38, sh39, sh40, sh41, sh42, sh43, sh44, sh45, sh46, sh47, sh48, sh49, sh50, sh51, sh52, sh53, sh54, sh55, sh56, sh57, sh58, sh59, brP, brN, swP, amask, apush, List.getElem?_cons_zero, List.getElem?_cons_succ, List.set_cons_zero, List.set_cons_succ, List.take_succ_cons, List.take_zero, List.drop_succ_cons, List.drop_zero, List.reverse_cons, List.reverse_nil, List.nil_append, List.cons_append, List.length_cons, List.length_nil, true_and, and_true, Nat.zero_le, Nat.reduceLeDiff, Nat.reduceAdd, Nat.reduceEqDiff, false_imp_iff, true_imp_iff, not_false_eq_true, not_true_eq_false, imp_self, forall_const]
  refine ⟨fun c1 => ?_, fun c1 => out (fun q => ?_)⟩
  case _ =>
    have hw : f_lies w 1 99 = true := (lit_lies w 1 99).mpr (by
      rw [Int32.lt_iff_toInt_lt] at c
      rw [Int32.le_iff_toInt_le] at c1
      omega)
    refine st_X5_deed_13 ?_; simp only [bX5_deed_13, exP, stP, p1, p2, pr, pobj, parr, sh0, sh1, sh2, sh3, sh4, sh5, sh6, sh7, sh8, sh9, sh10, sh11, sh12, sh13, sh14, sh15, sh16, sh17, sh18, sh19, sh20, sh21, sh22, sh23, sh24, sh25, sh26, sh27, sh28, sh29, sh30, sh31, sh32, sh33, sh34, sh35, sh36, sh37, sh38, sh39, sh40, sh41, sh42, sh43, sh44, sh45, sh46, sh47, sh48, sh49, sh50, sh51, sh52, sh53, sh54, sh55, sh56, sh57, sh58, sh59, brP, brN, swP, amask, apush, List.getElem?_cons_zero, List.getElem?_cons_succ, List.set_cons_zero, List.set_cons_succ, List.take_succ_cons, List.take_zero, List.drop_succ_cons, List.drop_zero, List.reverse_cons, List.reverse_nil, List.nil_append, List.cons_append, List.length_cons, List.length_nil, true_and, and_true, Nat.zero_le, Nat.reduceLeDiff, Nat.reduceAdd, Nat.reduceEqDiff, false_imp_iff, true_imp_iff, not_false_eq_true, not_true_eq_false, imp_self, forall_const]
    refine ⟨_, ⟨2, by decide, c_add m 10 nd hS hnd hn f l⟩, ?_⟩
    rintro z u (⟨hb, rfl, rfl⟩ | ⟨hs, hlt, rfl, rfl⟩)
    · simp only [exP, stP, p1, p2, pr, pobj, parr, sh0, sh1, sh2, sh3, sh4, sh5, sh6, sh7, sh8, sh9, sh10, sh11, sh12, sh13, sh14, sh15, sh16, sh17, sh18, sh19, sh20, sh21, sh22, sh23, sh24, sh25, sh26, sh27, sh28, sh29, sh30, sh31, sh32, sh33, sh34, sh35, sh36, sh37, sh38, sh39, sh40, sh41, sh42, sh43, sh44, sh45, sh46, sh47, sh48, sh49, sh50, sh51, sh52, sh53, sh54, sh55, sh56, sh57, sh58, sh59, brP, brN, swP, amask, apush, List.getElem?_cons_zero, List.getElem?_cons_succ, List.set_cons_zero, List.set_cons_succ, List.take_succ_cons, List.take_zero, List.drop_succ_cons, List.drop_zero, List.reverse_cons, List.reverse_nil, List.nil_append, List.cons_append, List.length_cons, List.length_nil, true_and, and_true, Nat.zero_le, Nat.reduceLeDiff, Nat.reduceAdd, Nat.reduceEqDiff, false_imp_iff, true_imp_iff, not_false_eq_true, not_true_eq_false, imp_self, forall_const]
      refine ⟨fun _ => out2 (fun q => ?_), fun q => absurd q (by decide)⟩
      rw [q.1] at hb
      have : nd < lenS 10 := q.2.1
      simp [this] at hb
    · have hlt' : nd < 12 := hlt
      simp only [exP, stP, p1, p2, pr, pobj, parr, sh0, sh1, sh2, sh3, sh4, sh5, sh6, sh7, sh8, sh9, sh10, sh11, sh12, sh13, sh14, sh15, sh16, sh17, sh18, sh19, sh20, sh21, sh22, sh23, sh24, sh25, sh26, sh27, sh28, sh29, sh30, sh31, sh32, sh33, sh34, sh35, sh36, sh37, sh38, sh39, sh40, sh41, sh42, sh43, sh44, sh45, sh46, sh47, sh48, sh49, sh50, sh51, sh52, sh53, sh54, sh55, sh56, sh57, sh58, sh59, brP, brN, swP, amask, apush, List.getElem?_cons_zero, List.getElem?_cons_succ, List.set_cons_zero, List.set_cons_succ, List.take_succ_cons, List.take_zero, List.drop_succ_cons, List.drop_zero, List.reverse_cons, List.reverse_nil, List.nil_append, List.cons_append, List.length_cons, List.length_nil, true_and, and_true, Nat.zero_le, Nat.reduceLeDiff, Nat.reduceAdd, Nat.reduceEqDiff, false_imp_iff, true_imp_iff, not_false_eq_true, not_true_eq_false, imp_self, forall_const, nI_lt0 (show nd < 2147483648 by omega)]
      have vj := eq_true (vp_in_nI hlt' (show 12 < 2 ^ 31 by omega))
      have cj := nI_clamp (show nd < 2 ^ 31 by omega)
      have h12 : (nI nd < (12 : Int32)) = True := eq_true (nI_lt (a := nd) (b := 12) hlt' (by decide))
      refine st_X5_deed_29 ?_; simp only [bX5_deed_29, exP, stP, p1, p2, pr, pobj, parr, sh0, sh1, sh2, sh3, sh4, sh5, sh6, sh7, sh8, sh9, sh10, sh11, sh12, sh13, sh14, sh15, sh16, sh17, sh18, sh19, sh20, sh21, sh22, sh23, sh24, sh25, sh26, sh27, sh28, sh29, sh30, sh31, sh32, sh33, sh34, sh35, sh36, sh37, sh38, sh39, sh40, sh41, sh42, sh43, sh44, sh45, sh46, sh47, sh48, sh49, sh50, sh51, sh52, sh53, sh54, sh55, sh56, sh57, sh58, sh59, brP, brN, swP, amask, apush, List.getElem?_cons_zero, List.getElem?_cons_succ, List.set_cons_zero, List.set_cons_succ, List.take_succ_cons, List.take_zero, List.drop_succ_cons, List.drop_zero, List.reverse_cons, List.reverse_nil, List.nil_append, List.cons_append, List.length_cons, List.length_nil, true_and, and_true, Nat.zero_le, Nat.reduceLeDiff, Nat.reduceAdd, Nat.reduceEqDiff, false_imp_iff, true_imp_iff, not_false_eq_true, not_true_eq_false, imp_self, forall_const, h12, lit_nle (k := 12) (n := nd) hlt' (by omega)]
      refine st_X5_deed_38 ?_; simp only [bX5_deed_38, exP, stP, p1, p2, pr, pobj, parr, sh0, sh1, sh2, sh3, sh4, sh5, sh6, sh7, sh8, sh9, sh10, sh11, sh12, sh13, sh14, sh15, sh16, sh17, sh18, sh19, sh20, sh21, sh22, sh23, sh24, sh25, sh26, sh27, sh28, sh29, sh30, sh31, sh32, sh33, sh34, sh35, sh36, sh37, sh38, sh39, sh40, sh41, sh42, sh43, sh44, sh45, sh46, sh47, sh48, sh49, sh50, sh51, sh52, sh53, sh54, sh55, sh56, sh57, sh58, sh59, brP, brN, swP, amask, apush, List.getElem?_cons_zero, List.getElem?_cons_succ, List.set_cons_zero, List.set_cons_succ, List.take_succ_cons, List.take_zero, List.drop_succ_cons, List.drop_zero, List.reverse_cons, List.reverse_nil, List.nil_append, List.cons_append, List.length_cons, List.length_nil, true_and, and_true, Nat.zero_le, Nat.reduceLeDiff, Nat.reduceAdd, Nat.reduceEqDiff, false_imp_iff, true_imp_iff, not_false_eq_true, not_true_eq_false, imp_self, forall_const, vj, cj, true_or, or_true]
      refine Or.inr ⟨hs, hlt', hw, rfl, ?_⟩
      refine ⟨fun k a b c d e g => ?_, by rw [aup_eq, upd_eq], ?_, ?_, ?_, ?_, ?_⟩
      · rw [aup_ne a, aup_ne g, aup_ne e]
        unfold g_add g_chg
        rw [aup_ne d, aup_ne c, aup_ne b]
      · rw [aup_ne (by omega), aup_ne (by omega), aup_ne (by omega)]
        unfold g_add g_chg
        rw [aup_ne (by omega), aup_ne (by omega), aup_eq, upd_eq]
      · rw [aup_ne (by omega), aup_ne (by omega), aup_ne (by omega)]
        unfold g_add g_chg
        rw [aup_ne (by omega), aup_eq, aup_ne (by omega)]
      · rw [aup_ne (by omega), aup_ne (by omega), aup_ne (by omega)]
        unfold g_add g_chg
        rw [aup_eq, aup_ne (by omega)]
      · rw [aup_ne (by omega), aup_ne (by omega), aup_eq]
        unfold g_add g_chg
        rw [aup_ne (by omega), aup_ne (by omega), aup_ne (by omega)]
      · rw [aup_ne (by omega), aup_eq, aup_ne (by omega)]
        unfold g_add g_chg
        rw [aup_ne (by omega), aup_ne (by omega), aup_ne (by omega)]
  case _ =>
    have q3 := (lit_lies w 1 99).mp q.2.2
    apply c1
    rw [Int32.le_iff_toInt_le]
    omega
theorem BASE_deed {m u : AM} {np nf ns nd tp : Nat} {f l w : Int32} (hlt : nd < 12) (hs : f_isSpan f l = true) (hw : f_lies w 1 99 = true) (hk : ∀ k, k ≠ 0 → k ≠ 10 → k ≠ 11 → k ≠ 12 → k ≠ 26 → k ≠ 31 → k ≠ 34 → k ≠ 42 → k ≠ 43 → k ≠ 44 → u k = m k) (e10 : u 10 2 = nI (nd + 1)) (e11 : u 11 = upd (m 11) nd f) (e12 : u 12 = upd (m 12) nd l) (e26 : u 26 = upd (m 26) nd w) (e31 : u 31 = upd (m 31) nd (-1)) (e34 : ∀ i, i ≠ 6 → i ≠ 30 → u 34 i = m 34 i) (e6 : u 34 6 = nI (nd + 1)) (e42 : u 42 = upd (m 42) nd f) (e43 : u 43 = upd (m 43) nd l) (e44 : u 44 = upd (m 44) nd w) (hB : BASE m np nf ns nd tp) : BASE u np nf ns (nd + 1) tp := by
  have t1 : (1 : Int32).toInt = 1 := rfl
  have t99 : (99 : Int32).toInt = 99 := rfl
  have hwr := (lit_lies w 1 99).mp hw
  have hsr := span_rng hs
  have c45 : u 45 = m 45 := hk 45 (by omega) (by omega) (by omega) (by omega) (by omega) (by omega) (by omega) (by omega) (by omega) (by omega)
  have c46 : u 46 = m 46 := hk 46 (by omega) (by omega) (by omega) (by omega) (by omega) (by omega) (by omega) (by omega) (by omega) (by omega)
  have c47 : u 47 = m 47 := hk 47 (by omega) (by omega) (by omega) (by omega) (by omega) (by omega) (by omega) (by omega) (by omega) (by omega)
  have c14 : u 14 = m 14 := hk 14 (by omega) (by omega) (by omega) (by omega) (by omega) (by omega) (by omega) (by omega) (by omega) (by omega)
  have em : ∀ d, mk u d = mk m d := fun d => by unfold mk; rw [c45]
  have eh : ∀ d n k w, hmn u d n k w = hmn m d n k w := fun d n k w => by unfold hmn; rw [c46, c47]
  have ehm : ∀ d k w, hm u d k w = hm m d k w := fun d k w => by unfold hm; rw [em, eh]
  have es : ∀ d n, sumBC u d n = sumBC m d n := fun d n => by
    induction n with
    | zero => rfl
    | succ n ih => unfold sumBC; rw [ih, c14]
  unfold BASE
  unfold BASE at hB
  obtain ⟨g1, g2, g3, g4, g5, g6, g7, g8, g9, g10, g11, g12, g13⟩ := hB
  obtain ⟨z1, z2⟩ := g10 nd (Nat.le_refl _) hlt
  have mk0 : mk m nd = 0 := by unfold mk; rw [z1]; rfl
  have hm0 : ∀ k w, ¬ hm m nd k w := by
    rintro k w ⟨i, hi, -⟩
    rw [mk0] at hi
    omega
  refine ⟨g1, ?_, ?_, ?_, ?_, ?_, ?_, ?_, ?_, ?_, ?_, ?_, ?_⟩
  · rw [hk 1 (by omega) (by omega) (by omega) (by omega) (by omega) (by omega) (by omega) (by omega) (by omega) (by omega), hk 4 (by omega) (by omega) (by omega) (by omega) (by omega) (by omega) (by omega) (by omega) (by omega) (by omega), hk 7 (by omega) (by omega) (by omega) (by omega) (by omega) (by omega) (by omega) (by omega) (by omega) (by omega)]
    exact g2
  · rw [e34 3 (by omega) (by omega), e34 4 (by omega) (by omega), e34 5 (by omega) (by omega)]; exact g3
  · obtain ⟨q1, q2, q3, q4, q5, q6, q7, q8, q9⟩ := g4
    refine ⟨by omega, e10, ?_, ?_, ?_, ?_, ?_, ?_, ?_⟩
    · rw [hk 2 (by omega) (by omega) (by omega) (by omega) (by omega) (by omega) (by omega) (by omega) (by omega) (by omega), hk 3 (by omega) (by omega) (by omega) (by omega) (by omega) (by omega) (by omega) (by omega) (by omega) (by omega)]; exact q3
    · rw [hk 5 (by omega) (by omega) (by omega) (by omega) (by omega) (by omega) (by omega) (by omega) (by omega) (by omega), hk 6 (by omega) (by omega) (by omega) (by omega) (by omega) (by omega) (by omega) (by omega) (by omega) (by omega)]; exact q4
    · rw [hk 8 (by omega) (by omega) (by omega) (by omega) (by omega) (by omega) (by omega) (by omega) (by omega) (by omega), hk 9 (by omega) (by omega) (by omega) (by omega) (by omega) (by omega) (by omega) (by omega) (by omega) (by omega)]; exact q5
    · intro i hi
      rw [e11, e12]
      by_cases q : i = nd
      · subst q; rw [upd_eq, upd_eq]; exact ⟨hsr.1, hsr.2.1, hsr.2.2.1, hsr.2.2.2⟩
      · rw [upd_ne q, upd_ne q]; exact q6 i hi
    · rw [hk 15 (by omega) (by omega) (by omega) (by omega) (by omega) (by omega) (by omega) (by omega) (by omega) (by omega)]; exact q7
    · intro i hi
      unfold wtm
      rw [e26]
      by_cases q : i = nd
      · subst q; rw [upd_eq]; omega
      · rw [upd_ne q]; exact q8 i hi
    · intro i hi
      unfold wtm
      rw [e26]
      by_cases q : i = nd
      · subst q; rw [upd_eq]; omega
      · rw [upd_ne q]; exact q9 i (by omega)
  · refine ⟨by omega, e6, fun d hd => ?_⟩
    rw [em, c45, c46, c47]
    by_cases q : d = nd
    · subst q
      rw [mk0]
      exact ⟨z1, by omega, fun i hi => by omega⟩
    · exact g5.2.2 d (by omega)
  · unfold MB
    simp only [ehm]
    rw [c14]
    refine ⟨fun d hd k hk w hw => ?_, fun d hd => ?_⟩
    · by_cases q : d = nd
      · subst q
        rw [z2 k hk, b_0]
        exact ⟨fun q => (by cases q), fun q => absurd q (hm0 k w)⟩
      · exact g6.1 d (by omega) k hk w hw
    · by_cases q : d = nd
      · subst q; exact hm0 4 _
      · exact g6.2 d (by omega)
  · obtain ⟨q1, q2, q3, q4, q5⟩ := g7
    refine ⟨?_, ?_, ?_, ?_, ?_⟩
    · rw [hk 2 (by omega) (by omega) (by omega) (by omega) (by omega) (by omega) (by omega) (by omega) (by omega) (by omega), hk 3 (by omega) (by omega) (by omega) (by omega) (by omega) (by omega) (by omega) (by omega) (by omega) (by omega), hk 36 (by omega) (by omega) (by omega) (by omega) (by omega) (by omega) (by omega) (by omega) (by omega) (by omega), hk 37 (by omega) (by omega) (by omega) (by omega) (by omega) (by omega) (by omega) (by omega) (by omega) (by omega)]; exact q1
    · rw [hk 5 (by omega) (by omega) (by omega) (by omega) (by omega) (by omega) (by omega) (by omega) (by omega) (by omega), hk 6 (by omega) (by omega) (by omega) (by omega) (by omega) (by omega) (by omega) (by omega) (by omega) (by omega), hk 38 (by omega) (by omega) (by omega) (by omega) (by omega) (by omega) (by omega) (by omega) (by omega) (by omega), hk 39 (by omega) (by omega) (by omega) (by omega) (by omega) (by omega) (by omega) (by omega) (by omega) (by omega)]; exact q2
    · rw [hk 8 (by omega) (by omega) (by omega) (by omega) (by omega) (by omega) (by omega) (by omega) (by omega) (by omega), hk 9 (by omega) (by omega) (by omega) (by omega) (by omega) (by omega) (by omega) (by omega) (by omega) (by omega), hk 40 (by omega) (by omega) (by omega) (by omega) (by omega) (by omega) (by omega) (by omega) (by omega) (by omega), hk 41 (by omega) (by omega) (by omega) (by omega) (by omega) (by omega) (by omega) (by omega) (by omega) (by omega)]; exact q3
    · intro i hi
      rw [e11, e12, e26, e42, e43, e44]
      by_cases q : i = nd
      · subst q; rw [upd_eq, upd_eq, upd_eq, upd_eq, upd_eq, upd_eq]; exact ⟨rfl, rfl, rfl⟩
      · rw [upd_ne q, upd_ne q, upd_ne q, upd_ne q, upd_ne q, upd_ne q]; exact q4 i hi
    · rw [e34 2 (by omega) (by omega), hk 15 (by omega) (by omega) (by omega) (by omega) (by omega) (by omega) (by omega) (by omega) (by omega) (by omega)]; exact q5
  · intro d hd
    rw [es, em]
    by_cases q : d = nd
    · subst q
      rw [mk0]
      simp only [sumBC, z2 0 (by omega), z2 1 (by omega), z2 2 (by omega), z2 3 (by omega), z2 4 (by omega)]
      rfl
    · exact g8 d (by omega)
  · intro d hd k hk w hw hh
    rw [ehm] at hh
    by_cases q : d = nd
    · subst q; exact absurd hh (hm0 k w)
    · have q2 := g9 d (by omega) k hk w hw hh
      have k5 : k = 0 ∨ k = 1 ∨ k = 2 ∨ k = 3 ∨ k = 4 := by omega
      rcases k5 with rfl | rfl | rfl | rfl | rfl
      · exact q2
      · exact q2
      · exact q2
      · exact q2
      · have q3 : w < nd := q2
        show w < nd + 1
        omega
  · rw [c14, c45]
    exact fun d a b => g10 d (by omega) b
  · rw [hk 27 (by omega) (by omega) (by omega) (by omega) (by omega) (by omega) (by omega) (by omega) (by omega) (by omega), hk 28 (by omega) (by omega) (by omega) (by omega) (by omega) (by omega) (by omega) (by omega) (by omega) (by omega), hk 35 (by omega) (by omega) (by omega) (by omega) (by omega) (by omega) (by omega) (by omega) (by omega) (by omega), e34 1 (by omega) (by omega)]
    exact g11
  · rw [hk 29 (by omega) (by omega) (by omega) (by omega) (by omega) (by omega) (by omega) (by omega) (by omega) (by omega), hk 30 (by omega) (by omega) (by omega) (by omega) (by omega) (by omega) (by omega) (by omega) (by omega) (by omega), hk 48 (by omega) (by omega) (by omega) (by omega) (by omega) (by omega) (by omega) (by omega) (by omega) (by omega), hk 49 (by omega) (by omega) (by omega) (by omega) (by omega) (by omega) (by omega) (by omega) (by omega) (by omega)]
    intro d hd
    obtain ⟨n, n1, n2, n3, n4, n5⟩ := g12 d hd
    exact ⟨n, n1, n2, n3, fun q => n4 (by omega), n5⟩
  · rw [hk 32 (by omega) (by omega) (by omega) (by omega) (by omega) (by omega) (by omega) (by omega) (by omega) (by omega), hk 33 (by omega) (by omega) (by omega) (by omega) (by omega) (by omega) (by omega) (by omega) (by omega) (by omega), hk 50 (by omega) (by omega) (by omega) (by omega) (by omega) (by omega) (by omega) (by omega) (by omega) (by omega), hk 51 (by omega) (by omega) (by omega) (by omega) (by omega) (by omega) (by omega) (by omega) (by omega) (by omega), hk 52 (by omega) (by omega) (by omega) (by omega) (by omega) (by omega) (by omega) (by omega) (by omega) (by omega), e31]
    intro d hd
    obtain ⟨n1, n2, n3, n4, n5⟩ := g13 d hd
    refine ⟨n1, n2, fun q => ?_, fun q => n4 (by omega), n5⟩
    by_cases q2 : d = nd
    · subst q2; rw [upd_eq]; exact ((n4 (Nat.le_refl _)).1).symm
    · rw [upd_ne q2]; exact n3 (by omega)
theorem p_deed {m : AM} (h : INV m) (f l w : Int32) : PAIR kX5_deed kX6_deed [.inl f, .inl l, .inl w] m := by
  obtain ⟨np, nf, ns, nd, tp, h⟩ := h
  have hnd := h.nd12
  refine ⟨DeedQ m nd f l w, ⟨3, by decide, c_deed m nd hnd h.n10 f l w⟩, ?_⟩
  rintro r u (⟨hb, rfl, rfl⟩ | ⟨hs, hlt, hw, rfl, u1, u2, u3, u4, u5, u6, u7⟩)
  · refine ⟨fun z u => m = u ∧ z = some (-1), ⟨20, by decide, ?_⟩, ?_⟩
    · refine AC_of own_X6_deed (ls := [some (.inr 34), some (.inl f), some (.inl l), some (.inl w)]) (z := 0) (Nat.le_of_ble_eq_true rfl) rfl ?_
      have out : AW 20 kX6_deed (fun z u => m = u ∧ z = some (-1)) 27 [none, none, none, none] [] m := by
        refine st_X6_deed_27 ?_; simp only [bX6_deed_27, exP, stP, p1, p2, pr, pobj, parr, sh0, sh1, sh2, sh3, sh4, sh5, sh6, sh7, sh8, sh9, sh10, sh11, sh12, sh13, sh14, sh15, sh16, sh17, sh18, sh19, sh20, sh21, sh22, sh23, sh24, sh25, sh26, sh27, sh28, sh29, sh30, sh31, sh32, sh33, sh34, sh35, sh36, sh37, sh38, sh39, sh40, sh41, sh42, sh43, sh44, sh45, sh46, sh47, sh48, sh49, sh50, sh51, sh52, sh53, sh54, sh55, sh56, sh57, sh58, sh59, brP, brN, swP, amask, apush, List.getElem?_cons_zero, List.getElem?_cons_succ, List.set_cons_zero, List.set_cons_succ, List.take_succ_cons, List.take_zero, List.drop_succ_cons, List.drop_zero, List.reverse_cons, List.reverse_nil, List.nil_append, List.cons_append, List.length_cons, List.length_nil, true_and, and_true, Nat.zero_le, Nat.reduceLeDiff, Nat.reduceAdd, Nat.reduceEqDiff, false_imp_iff, true_imp_iff, not_false_eq_true, not_true_eq_false, imp_self, forall_const]
        simp
      refine st_X6_deed_0 ?_; simp only [bX6_deed_0, exP, stP, p1, p2, pr, pobj, parr, sh0, sh1, sh2, sh3, sh4, sh5, sh6, sh7, sh8, sh9, sh10, sh11, sh12, sh13, sh14, sh15, sh16, sh17, sh18, sh19, sh20, sh21, sh22, sh23, sh24, sh25, sh26, sh27, sh28, sh29, sh30, sh31, sh32, sh33, sh34, sh35, sh36, sh37, sh38, sh39, sh40, sh41, sh42, sh43, sh44, sh45, sh46, sh47, sh48, sh49, sh50, sh51, sh52, sh53, sh54, sh55, sh56, sh57, sh58, sh59, brP, brN, swP, amask, apush, List.getElem?_cons_zero, List.getElem?_cons_succ, List.set_cons_zero, List.set_cons_succ, List.take_succ_cons, List.take_zero, List.drop_succ_cons, List.drop_zero, List.reverse_cons, List.reverse_nil, List.nil_append, List.cons_append, List.length_cons, List.length_nil, true_and, and_true, Nat.zero_le, Nat.reduceLeDiff, Nat.reduceAdd, Nat.reduceEqDiff, false_imp_iff, true_imp_iff, not_false_eq_true, not_true_eq_false, imp_self, forall_const, h.n34]
      refine ⟨fun _ => out, fun c => ?_⟩
      refine st_X6_deed_9 ?_; simp only [bX6_deed_9, exP, stP, p1, p2, pr, pobj, parr, sh0, sh1, sh2, sh3, sh4, sh5, sh6, sh7, sh8, sh9, sh10, sh11, sh12, sh13, sh14, sh15, sh16, sh17, sh18, sh19, sh20, sh21, sh22, sh23, sh24, sh25, sh26, sh27, sh28, sh29, sh30, sh31, sh32, sh33, sh34, sh35, sh36, sh37, sh38, sh39, sh40, sh41, sh42, sh43, sh44, sh45, sh46, sh47, sh48, sh49, sh50, sh51, sh52, sh53, sh54, sh55, sh56, sh57, sh58, sh59, brP, brN, swP, amask, apush, List.getElem?_cons_zero, List.getElem?_cons_succ, List.set_cons_zero, List.set_cons_succ, List.take_succ_cons, List.take_zero, List.drop_succ_cons, List.drop_zero, List.reverse_cons, List.reverse_nil, List.nil_append, List.cons_append, List.length_cons, List.length_nil, true_and, and_true, Nat.zero_le, Nat.reduceLeDiff, Nat.reduceAdd, Nat.reduceEqDiff, false_imp_iff, true_imp_iff, not_false_eq_true, not_true_eq_false, imp_self, forall_const]
      refine ⟨_, ⟨1, by decide, c_isSpan m _ _⟩, ?_⟩; rintro _ _ ⟨rfl, rfl⟩; simp only [exP, stP, p1, p2, pr, pobj, parr, sh0, sh1, sh2, sh3, sh4, sh5, sh6, sh7, sh8, sh9, sh10, sh11, sh12, sh13, sh14, sh15, sh16, sh17, sh18, sh19, sh20, sh21, sh22, sh23, sh24, sh25, sh26, sh27, sh28, sh29, sh30, sh31, sh32, sh33, sh34, sh35, sh36, sh37, sh38, sh39, sh40, sh41, sh42, sh43, sh44, sh45, sh46, sh47, sh48, sh49, sh50, sh51, sh52, sh53, sh54, sh55, sh56, sh57, sh58, sh59, brP, brN, swP, amask, apush, List.getElem?_cons_zero, List.getElem?_cons_succ, List.set_cons_zero, List.set_cons_succ, List.take_succ_cons, List.take_zero, List.drop_succ_cons, List.drop_zero, List.reverse_cons, List.reverse_nil, List.nil_append, List.cons_append, List.length_cons, List.length_nil, true_and, and_true, Nat.zero_le, Nat.reduceLeDiff, Nat.reduceAdd, Nat.reduceEqDiff, false_imp_iff, true_imp_iff, not_false_eq_true, not_true_eq_false, imp_self, forall_const, b01_0]
      refine ⟨fun _ => out, fun c1 => ?_⟩
      refine st_X6_deed_17 ?_; simp only [bX6_deed_17, exP, stP, p1, p2, pr, pobj, parr, sh0, sh1, sh2, sh3, sh4, sh5, sh6, sh7, sh8, sh9, sh10, sh11, sh12, sh13, sh14, sh15, sh16, sh17, sh18, sh19, sh20, sh21, sh22, sh23, sh24, sh25, sh26, sh27, sh28, sh29, sh30, sh31, sh32, sh33, sh34, sh35, sh36, sh37, sh38, sh39, sh40, sh41, sh42, sh43, sh44, sh45, sh46, sh47, sh48, sh49, sh50, sh51, sh52, sh53, sh54, sh55, sh56, sh57, sh58, sh59, brP, brN, swP, amask, apush, List.getElem?_cons_zero, List.getElem?_cons_succ, List.set_cons_zero, List.set_cons_succ, List.take_succ_cons, List.take_zero, List.drop_succ_cons, List.drop_zero, List.reverse_cons, List.reverse_nil, List.nil_append, List.cons_append, List.length_cons, List.length_nil, true_and, and_true, Nat.zero_le, Nat.reduceLeDiff, Nat.reduceAdd, Nat.reduceEqDiff, false_imp_iff, true_imp_iff, not_false_eq_true, not_true_eq_false, imp_self, forall_const]
      refine ⟨_, ⟨0, by decide, c_lies m _ _ _⟩, ?_⟩; rintro _ _ ⟨rfl, rfl⟩; simp only [exP, stP, p1, p2, pr, pobj, parr, sh0, sh1, sh2, sh3, sh4, sh5, sh6, sh7, sh8, sh9, sh10, sh11, sh12, sh13, sh14, sh15, sh16, sh17, sh18, sh19, sh20, sh21, sh22, sh23, sh24, sh25, sh26, sh27, sh28, sh29, sh30, sh31, sh32, sh33, sh34, sh35, sh36, sh37, sh38, sh39, sh40, sh41, sh42, sh43, sh44, sh45, sh46, sh47, sh48, sh49, sh50, sh51, sh52, sh53, sh54, sh55, sh56, sh57, sh58, sh59, brP, brN, swP, amask, apush, List.getElem?_cons_zero, List.getElem?_cons_succ, List.set_cons_zero, List.set_cons_succ, List.take_succ_cons, List.take_zero, List.drop_succ_cons, List.drop_zero, List.reverse_cons, List.reverse_nil, List.nil_append, List.cons_append, List.length_cons, List.length_nil, true_and, and_true, Nat.zero_le, Nat.reduceLeDiff, Nat.reduceAdd, Nat.reduceEqDiff, false_imp_iff, true_imp_iff, not_false_eq_true, not_true_eq_false, imp_self, forall_const, b01_0]
      refine ⟨fun c2 => ?_, fun _ => out⟩
      exfalso
      apply hb
      refine ⟨by simpa using c1, ?_, by simpa using c2⟩
      by_cases q : nd = 12
      · exfalso; apply c; rw [q]; rfl
      · omega
    · rintro r' v ⟨rfl, rfl⟩
      exact ⟨⟨-1, rfl, rfl⟩, ⟨np, nf, ns, nd, tp, h⟩⟩
  · have vj := eq_true (vp_in_nI hlt (show 12 < 2 ^ 31 by omega))
    have cj := nI_clamp (show nd < 2 ^ 31 by omega)
    have e6u : u 34 6 = nI nd := by rw [u1 34 (by omega) (by omega) (by omega) (by omega) (by omega) (by omega)]; exact h.n34
    have e12 : ¬ nI nd = 12 := fun q => by
      have := (nI_eq (a := nd) (b := 12) (by omega) (by omega)).mp q
      omega
    have x1 : nI nd + 1 = nI (nd + 1) := nI_1 nd
    have x2 : nI (nd + 1) - 1 = nI nd := nI_pred nd
    refine ⟨DeedM u nd f l w, ⟨20, by decide, ?_⟩, ?_⟩
    · refine AC_of own_X6_deed (ls := [some (.inr 34), some (.inl f), some (.inl l), some (.inl w)]) (z := 0) (Nat.le_of_ble_eq_true rfl) rfl ?_
      refine st_X6_deed_0 ?_; simp only [bX6_deed_0, exP, stP, p1, p2, pr, pobj, parr, sh0, sh1, sh2, sh3, sh4, sh5, sh6, sh7, sh8, sh9, sh10, sh11, sh12, sh13, sh14, sh15, sh16, sh17, sh18, sh19, sh20, sh21, sh22, sh23, sh24, sh25, sh26, sh27, sh28, sh29, sh30, sh31, sh32, sh33, sh34, sh35, sh36, sh37, sh38, sh39, sh40, sh41, sh42, sh43, sh44, sh45, sh46, sh47, sh48, sh49, sh50, sh51, sh52, sh53, sh54, sh55, sh56, sh57, sh58, sh59, brP, brN, swP, amask, apush, List.getElem?_cons_zero, List.getElem?_cons_succ, List.set_cons_zero, List.set_cons_succ, List.take_succ_cons, List.take_zero, List.drop_succ_cons, List.drop_zero, List.reverse_cons, List.reverse_nil, List.nil_append, List.cons_append, List.length_cons, List.length_nil, true_and, and_true, Nat.zero_le, Nat.reduceLeDiff, Nat.reduceAdd, Nat.reduceEqDiff, false_imp_iff, true_imp_iff, not_false_eq_true, not_true_eq_false, imp_self, forall_const, e6u, eq_false e12]
      refine st_X6_deed_9 ?_; simp only [bX6_deed_9, exP, stP, p1, p2, pr, pobj, parr, sh0, sh1, sh2, sh3, sh4, sh5, sh6, sh7, sh8, sh9, sh10, sh11, sh12, sh13, sh14, sh15, sh16, sh17, sh18, sh19, sh20, sh21, sh22, sh23, sh24, sh25, sh26, sh27, sh28, sh29, sh30, sh31, sh32, sh33, sh34, sh35, sh36, sh37, sh38, sh39, sh40, sh41, sh42, sh43, sh44, sh45, sh46, sh47, sh48, sh49, sh50, sh51, sh52, sh53, sh54, sh55, sh56, sh57, sh58, sh59, brP, brN, swP, amask, apush, List.getElem?_cons_zero, List.getElem?_cons_succ, List.set_cons_zero, List.set_cons_succ, List.take_succ_cons, List.take_zero, List.drop_succ_cons, List.drop_zero, List.reverse_cons, List.reverse_nil, List.nil_append, List.cons_append, List.length_cons, List.length_nil, true_and, and_true, Nat.zero_le, Nat.reduceLeDiff, Nat.reduceAdd, Nat.reduceEqDiff, false_imp_iff, true_imp_iff, not_false_eq_true, not_true_eq_false, imp_self, forall_const]
      refine ⟨_, ⟨1, by decide, c_isSpan u _ _⟩, ?_⟩; rintro _ _ ⟨rfl, rfl⟩; simp only [exP, stP, p1, p2, pr, pobj, parr, sh0, sh1, sh2, sh3, sh4, sh5, sh6, sh7, sh8, sh9, sh10, sh11, sh12, sh13, sh14, sh15, sh16, sh17, sh18, sh19, sh20, sh21, sh22, sh23, sh24, sh25, sh26, sh27, sh28, sh29, sh30, sh31, sh32, sh33, sh34, sh35, sh36, sh37, sh38, sh39, sh40, sh41, sh42, sh43, sh44, sh45, sh46, sh47, sh48, sh49, sh50, sh51, sh52, sh53, sh54, sh55, sh56, sh57, sh58, sh59, brP, brN, swP, amask, apush, List.getElem?_cons_zero, List.getElem?_cons_succ, List.set_cons_zero, List.set_cons_succ, List.take_succ_cons, List.take_zero, List.drop_succ_cons, List.drop_zero, List.reverse_cons, List.reverse_nil, List.nil_append, List.cons_append, List.length_cons, List.length_nil, true_and, and_true, Nat.zero_le, Nat.reduceLeDiff, Nat.reduceAdd, Nat.reduceEqDiff, false_imp_iff, true_imp_iff, not_false_eq_true, not_true_eq_false, imp_self, forall_const, b01_0, hs, Bool.true_eq_false]
      refine st_X6_deed_17 ?_; simp only [bX6_deed_17, exP, stP, p1, p2, pr, pobj, parr, sh0, sh1, sh2, sh3, sh4, sh5, sh6, sh7, sh8, sh9, sh10, sh11, sh12, sh13, sh14, sh15, sh16, sh17, sh18, sh19, sh20, sh21, sh22, sh23, sh24, sh25, sh26, sh27, sh28, sh29, sh30, sh31, sh32, sh33, sh34, sh35, sh36, sh37, sh38, sh39, sh40, sh41, sh42, sh43, sh44, sh45, sh46, sh47, sh48, sh49, sh50, sh51, sh52, sh53, sh54, sh55, sh56, sh57, sh58, sh59, brP, brN, swP, amask, apush, List.getElem?_cons_zero, List.getElem?_cons_succ, List.set_cons_zero, List.set_cons_succ, List.take_succ_cons, List.take_zero, List.drop_succ_cons, List.drop_zero, List.reverse_cons, List.reverse_nil, List.nil_append, List.cons_append, List.length_cons, List.length_nil, true_and, and_true, Nat.zero_le, Nat.reduceLeDiff, Nat.reduceAdd, Nat.reduceEqDiff, false_imp_iff, true_imp_iff, not_false_eq_true, not_true_eq_false, imp_self, forall_const]
      refine ⟨_, ⟨0, by decide, c_lies u _ _ _⟩, ?_⟩; rintro _ _ ⟨rfl, rfl⟩; simp only [exP, stP, p1, p2, pr, pobj, parr, sh0, sh1, sh2, sh3, sh4, sh5, sh6, sh7, sh8, sh9, sh10, sh11, sh12, sh13, sh14, sh15, sh16, sh17, sh18, sh19, sh20, sh21, sh22, sh23, sh24, sh25, sh26, sh27, sh28, sh29, sh30, sh31, sh32, sh33, sh34, sh35, sh36, sh37, sh38, sh39, sh40, sh41, sh42, sh43, sh44, sh45, sh46, sh47, sh48, sh49, sh50, sh51, sh52, sh53, sh54, sh55, sh56, sh57, sh58, sh59, brP, brN, swP, amask, apush, List.getElem?_cons_zero, List.getElem?_cons_succ, List.set_cons_zero, List.set_cons_succ, List.take_succ_cons, List.take_zero, List.drop_succ_cons, List.drop_zero, List.reverse_cons, List.reverse_nil, List.nil_append, List.cons_append, List.length_cons, List.length_nil, true_and, and_true, Nat.zero_le, Nat.reduceLeDiff, Nat.reduceAdd, Nat.reduceEqDiff, false_imp_iff, true_imp_iff, not_false_eq_true, not_true_eq_false, imp_self, forall_const, b01_0, hw, Bool.true_eq_false]
      refine st_X6_deed_29 ?_; simp only [bX6_deed_29, exP, stP, p1, p2, pr, pobj, parr, sh0, sh1, sh2, sh3, sh4, sh5, sh6, sh7, sh8, sh9, sh10, sh11, sh12, sh13, sh14, sh15, sh16, sh17, sh18, sh19, sh20, sh21, sh22, sh23, sh24, sh25, sh26, sh27, sh28, sh29, sh30, sh31, sh32, sh33, sh34, sh35, sh36, sh37, sh38, sh39, sh40, sh41, sh42, sh43, sh44, sh45, sh46, sh47, sh48, sh49, sh50, sh51, sh52, sh53, sh54, sh55, sh56, sh57, sh58, sh59, brP, brN, swP, amask, apush, List.getElem?_cons_zero, List.getElem?_cons_succ, List.set_cons_zero, List.set_cons_succ, List.take_succ_cons, List.take_zero, List.drop_succ_cons, List.drop_zero, List.reverse_cons, List.reverse_nil, List.nil_append, List.cons_append, List.length_cons, List.length_nil, true_and, and_true, Nat.zero_le, Nat.reduceLeDiff, Nat.reduceAdd, Nat.reduceEqDiff, false_imp_iff, true_imp_iff, not_false_eq_true, not_true_eq_false, imp_self, forall_const, vj, cj, e6u, x1, x2, aup_ne (show (34 : Nat) ≠ 42 by omega), aup_ne (show (34 : Nat) ≠ 43 by omega), aup_ne (show (34 : Nat) ≠ 44 by omega), aup_eq, upd_eq, upd_ne (show (6 : Nat) ≠ 30 by omega), true_or, or_true]
      refine ⟨rfl, fun k a b c d => by rw [aup_ne a, aup_ne a, aup_ne d, aup_ne c, aup_ne b], fun i hi hi' => ?_, ?_, ?_, ?_, ?_, ?_⟩
      · rw [aup_eq, upd_ne hi', upd_ne hi]
      · rw [aup_eq, upd_ne (by omega), upd_eq]
      · rw [aup_eq, upd_eq]
      · rw [aup_ne (by omega), aup_ne (by omega), aup_ne (by omega), aup_ne (by omega), aup_eq]
      · rw [aup_ne (by omega), aup_ne (by omega), aup_ne (by omega), aup_eq, aup_ne (by omega)]
      · rw [aup_ne (by omega), aup_ne (by omega), aup_eq, aup_ne (by omega), aup_ne (by omega)]
    · rintro r' v ⟨rfl, v1, v2, v3, v4, v5, v6, v7⟩
      refine ⟨⟨nI nd, rfl, rfl⟩, ⟨np, nf, ns, nd + 1, tp, ?_, Or.inl ?_, Or.inl v4⟩⟩
      · refine BASE_deed (m := m) (f := f) (l := l) (w := w) hlt hs hw (fun k a b c d e g i j k1 k2 => by rw [v1 k i j k1 k2]; exact u1 k a b c d e g) (by rw [v1 10 (by omega) (by omega) (by omega) (by omega)]; exact u3) (by rw [v1 11 (by omega) (by omega) (by omega) (by omega)]; exact u4) (by rw [v1 12 (by omega) (by omega) (by omega) (by omega)]; exact u5) (by rw [v1 26 (by omega) (by omega) (by omega) (by omega)]; exact u6) (by rw [v1 31 (by omega) (by omega) (by omega) (by omega)]; exact u7) (fun i a b => by rw [v2 i a b, u1 34 (by omega) (by omega) (by omega) (by omega) (by omega) (by omega)]) v3 (by rw [v5, u1 42 (by omega) (by omega) (by omega) (by omega) (by omega) (by omega)]) (by rw [v6, u1 43 (by omega) (by omega) (by omega) (by omega) (by omega) (by omega)]) (by rw [v7, u1 44 (by omega) (by omega) (by omega) (by omega) (by omega) (by omega)]) h.1
      · rw [v1 0 (by omega) (by omega) (by omega) (by omega)]; exact u2
