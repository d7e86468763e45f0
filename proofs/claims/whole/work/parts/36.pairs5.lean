/-! ===== pairs: court ===== -/
theorem BASE_claim {m u : AM} {np nf ns nd tp : Nat} (h : ∀ k, k ≠ 31 → k ≠ 32 → k ≠ 33 → k ≠ 50 → k ≠ 51 → k ≠ 52 → u k = m k) (hl : ∀ d, d < 12 → u 32 d = u 51 d ∧ u 33 d = u 52 d ∧ (d < nd → u 31 d = u 50 d) ∧ (nd ≤ d → u 50 d = -1 ∧ u 52 d = 0) ∧ (u 50 d = -1 → u 51 d = 0)) (hB : BASE m np nf ns nd tp) : BASE u np nf ns nd tp := by
  have a : ∀ k, 1 ≤ k → k ≤ 14 → u k = m k := fun k k1 k2 => h k (by omega) (by omega) (by omega) (by omega) (by omega) (by omega)
  have b : ∀ k, 26 ≤ k → k ≤ 30 → u k = m k := fun k k1 k2 => h k (by omega) (by omega) (by omega) (by omega) (by omega) (by omega)
  have c : ∀ k, 35 ≤ k → k ≤ 49 → u k = m k := fun k k1 k2 => h k (by omega) (by omega) (by omega) (by omega) (by omega) (by omega)
  have e15 : u 15 9 = m 15 9 := by rw [h 15 (by omega) (by omega) (by omega) (by omega) (by omega) (by omega)]
  have e27 : u 27 3 = m 27 3 := by rw [h 27 (by omega) (by omega) (by omega) (by omega) (by omega) (by omega)]
  have e34 : ∀ j, u 34 j = m 34 j := fun j => by rw [h 34 (by omega) (by omega) (by omega) (by omega) (by omega) (by omega)]
  have em : ∀ d, mk u d = mk m d := fun d => by unfold mk; rw [c 45 (by omega) (by omega)]
  have eh : ∀ d n k w, hmn u d n k w = hmn m d n k w := fun d n k w => by unfold hmn; rw [c 46 (by omega) (by omega), c 47 (by omega) (by omega)]
  have ehm : ∀ d k w, hm u d k w = hm m d k w := fun d k w => by unfold hm; rw [em, eh]
  have es : ∀ d n, sumBC u d n = sumBC m d n := fun d n => by
    induction n with
    | zero => rfl
    | succ n ih => unfold sumBC; rw [ih, a 14 (by omega) (by omega)]
  have ew : wtm u = wtm m := by funext i; unfold wtm; rw [b 26 (by omega) (by omega)]
  have e1 : CPRE u nd = CPRE m nd := by
    unfold CPRE WOK
    rw [ew, a 2 (by omega) (by omega), a 3 (by omega) (by omega), a 5 (by omega) (by omega), a 6 (by omega) (by omega), a 8 (by omega) (by omega), a 9 (by omega) (by omega), a 10 (by omega) (by omega), a 11 (by omega) (by omega), a 12 (by omega) (by omega), e15]
  have e2 : MOK u nd = MOK m nd := by
    unfold MOK
    simp only [em]
    rw [e34 6, c 45 (by omega) (by omega), c 46 (by omega) (by omega), c 47 (by omega) (by omega)]
  have e3 : MB u nd = MB m nd := by
    unfold MB
    simp only [ehm]
    rw [a 14 (by omega) (by omega)]
  have e4 : RE u = RE m := by
    unfold RE
    rw [a 2 (by omega) (by omega), a 3 (by omega) (by omega), a 5 (by omega) (by omega), a 6 (by omega) (by omega), a 8 (by omega) (by omega), a 9 (by omega) (by omega), a 11 (by omega) (by omega), a 12 (by omega) (by omega), b 26 (by omega) (by omega), c 36 (by omega) (by omega), c 37 (by omega) (by omega), c 38 (by omega) (by omega), c 39 (by omega) (by omega), c 40 (by omega) (by omega), c 41 (by omega) (by omega), c 42 (by omega) (by omega), c 43 (by omega) (by omega), c 44 (by omega) (by omega), e34 2, e15]
  unfold BASE
  unfold BASE at hB
  obtain ⟨g1, g2, g3, g4, g5, g6, g7, g8, g9, g10, g11, g12, -⟩ := hB
  refine ⟨g1, ?_, ?_, ?_, ?_, ?_, ?_, ?_, ?_, ?_, ?_, ?_, hl⟩
  · rw [a 1 (by omega) (by omega), a 4 (by omega) (by omega), a 7 (by omega) (by omega)]; exact g2
  · rw [e34 3, e34 4, e34 5]; exact g3
  · rw [e1]; exact g4
  · rw [e2]; exact g5
  · rw [e3]; exact g6
  · rw [e4]; exact g7
  · simp only [es, em]; exact g8
  · simp only [ehm]; exact g9
  · rw [a 14 (by omega) (by omega), c 45 (by omega) (by omega)]; exact g10
  · rw [e27, e34 1, b 28 (by omega) (by omega), c 35 (by omega) (by omega)]; exact g11
  · rw [b 29 (by omega) (by omega), b 30 (by omega) (by omega), c 48 (by omega) (by omega), c 49 (by omega) (by omega)]; exact g12
/-- a change of claims or verdicts leaves the caches -/
theorem INV_claim {m u : AM} {np nf ns nd tp : Nat} (h : ∀ k, k ≠ 31 → k ≠ 32 → k ≠ 33 → k ≠ 50 → k ≠ 51 → k ≠ 52 → u k = m k) (hl : ∀ d, d < 12 → u 32 d = u 51 d ∧ u 33 d = u 52 d ∧ (d < nd → u 31 d = u 50 d) ∧ (nd ≤ d → u 50 d = -1 ∧ u 52 d = 0) ∧ (u 50 d = -1 → u 51 d = 0)) (hI : INVn m np nf ns nd tp) : INVn u np nf ns nd tp := by
  obtain ⟨hB, hc, hf⟩ := hI
  refine ⟨BASE_claim h hl hB, ?_, ?_⟩
  · rw [h 0 (by omega) (by omega) (by omega) (by omega) (by omega) (by omega)]
    exact hc.imp id (fun q => ⟨q.1, CST_congr (fun k hk => h k (by omega) (by omega) (by omega) (by omega) (by omega) (by omega)) q.2⟩)
  · rw [h 34 (by omega) (by omega) (by omega) (by omega) (by omega) (by omega)]
    refine hf.imp id (fun q => ⟨q.1, ?_⟩)
    have q2 := q.2
    obtain ⟨h1, h2, h3, h4, h5⟩ := q2
    have r : ∀ k, 53 ≤ k → u k = m k := fun k hk => h k (by omega) (by omega) (by omega) (by omega) (by omega) (by omega)
    have r34 : u 34 = m 34 := h 34 (by omega) (by omega) (by omega) (by omega) (by omega) (by omega)
    have eF : gF u = gF m := by funext d; unfold gF; rw [r 53 (by omega)]
    have eL : gL u = gL m := by funext d; unfold gL; rw [r 54 (by omega)]
    have eC : gC u = gC m := by funext a b; unfold gC; rw [r 55 (by omega), r 56 (by omega), r34]
    have eW : wtg u = wtg m := by funext d; unfold wtg; rw [h 44 (by omega) (by omega) (by omega) (by omega) (by omega) (by omega)]
    unfold FRS
    rw [eF, eL, eC, eW, r34, r 57 (by omega), r 58 (by omega), r 59 (by omega)]
    refine ⟨fun d hd => OWN_cast (h1 d hd) (fun k k1 k2 => h k (by omega) (by omega) (by omega) (by omega) (by omega) (by omega)) (fun k k1 k2 => r k (by omega)), ?_, h3, h4, h5⟩
    unfold GW at h2 ⊢
    rw [eF, eL, r34, r 55 (by omega)]
    exact h2
theorem lies3 {x a b : Int32} : f_lies x a b = true ↔ ¬ x < a ∧ ¬ b < x := by
  unfold f_lies
  rw [Bool.and_eq_true, Bool.not_eq_true', Bool.not_eq_true', decide_eq_false_iff_not, decide_eq_false_iff_not]
theorem le_of_nlt {x y : Int32} (h : ¬ y < x) : x ≤ y := by
  rw [Int32.lt_iff_toInt_lt] at h
  rw [Int32.le_iff_toInt_le]
  omega
theorem nlt_of_le {x y : Int32} (h : x ≤ y) : ¬ y < x := by
  rw [Int32.le_iff_toInt_le] at h
  rw [Int32.lt_iff_toInt_lt]
  omega
theorem p_court {m : AM} (h : INV m) (x y : Int32) : PAIR kX5_court kX6_court [.inl x, .inl y] m := by
  obtain ⟨np, nf, ns, nd, tp, h⟩ := h
  have hnd := h.nd12
  cases hb : (f_lies x 0 (nI nd - 1) && f_lies y 0 2) with
  | false =>
    refine ⟨fun z u => m = u ∧ z = some 0, ⟨20, by decide, ?_⟩, ?_⟩
    · refine AC_of own_X5_court (ls := [some (.inr 0), some (.inl x), some (.inl y)]) (z := 0) (Nat.le_of_ble_eq_true rfl) rfl ?_
      have out : AW 20 kX5_court (fun z u => m = u ∧ z = some 0) 20 [none, none, none] [] m := by
        refine st_X5_court_20 ?_; simp only [bX5_court_20, exP, stP, p1, p2, pr, pobj, parr, sh0, sh1, sh2, sh3, sh4, sh5, sh6, sh7, sh8, sh9, sh10, sh11, sh12, sh13, sh14, sh15, sh16, sh17, sh18, sh19, sh20, sh21, sh22, sh23, sh24, sh25, sh26, sh27, sh28, sh29, sh30, sh31, sh32, sh33, sh34, sh35, sh36, sh37, sh38, sh39, sh40, sh41, sh42, sh43, sh44, sh45, sh46, sh47, sh48, sh49, sh50, sh51, sh52, sh53, sh54, sh55, sh56, sh57, sh58, sh59, brP, brN, swP, amask, apush, List.getElem?_cons_zero, List.getElem?_cons_succ, List.set_cons_zero, List.set_cons_succ, List.take_succ_cons, List.take_zero, List.drop_succ_cons, List.drop_zero, List.reverse_cons, List.reverse_nil, List.nil_append, List.cons_append, List.length_cons, List.length_nil, true_and, and_true, Nat.zero_le, Nat.reduceLeDiff, Nat.reduceAdd, Nat.reduceEqDiff, false_imp_iff, true_imp_iff, not_false_eq_true, not_true_eq_false, imp_self, forall_const]
        simp
      refine st_X5_court_0 ?_; simp only [bX5_court_0, exP, stP, p1, p2, pr, pobj, parr, sh0, sh1, sh2, sh3, sh4, sh5, sh6, sh7, sh8, sh9, sh10, sh11, sh12, sh13, sh14, sh15, sh16, sh17, sh18, sh19, sh20, sh21, sh22, sh23, sh24, sh25, sh26, sh27, sh28, sh29, sh30, sh31, sh32, sh33, sh34, sh35, sh36, sh37, sh38, sh39, sh40, sh41, sh42, sh43, sh44, sh45, sh46, sh47, sh48, sh49, sh50, sh51, sh52, sh53, sh54, sh55, sh56, sh57, sh58, sh59, brP, brN, swP, amask, apush, List.getElem?_cons_zero, List.getElem?_cons_succ, List.set_cons_zero, List.set_cons_succ, List.take_succ_cons, List.take_zero, List.drop_succ_cons, List.drop_zero, List.reverse_cons, List.reverse_nil, List.nil_append, List.cons_append, List.length_cons, List.length_nil, true_and, and_true, Nat.zero_le, Nat.reduceLeDiff, Nat.reduceAdd, Nat.reduceEqDiff, false_imp_iff, true_imp_iff, not_false_eq_true, not_true_eq_false, imp_self, forall_const]
      refine ⟨_, ⟨0, by decide, d_has h x⟩, ?_⟩; rintro _ _ ⟨rfl, rfl⟩; simp only [exP, stP, p1, p2, pr, pobj, parr, sh0, sh1, sh2, sh3, sh4, sh5, sh6, sh7, sh8, sh9, sh10, sh11, sh12, sh13, sh14, sh15, sh16, sh17, sh18, sh19, sh20, sh21, sh22, sh23, sh24, sh25, sh26, sh27, sh28, sh29, sh30, sh31, sh32, sh33, sh34, sh35, sh36, sh37, sh38, sh39, sh40, sh41, sh42, sh43, sh44, sh45, sh46, sh47, sh48, sh49, sh50, sh51, sh52, sh53, sh54, sh55, sh56, sh57, sh58, sh59, brP, brN, swP, amask, apush, List.getElem?_cons_zero, List.getElem?_cons_succ, List.set_cons_zero, List.set_cons_succ, List.take_succ_cons, List.take_zero, List.drop_succ_cons, List.drop_zero, List.reverse_cons, List.reverse_nil, List.nil_append, List.cons_append, List.length_cons, List.length_nil, true_and, and_true, Nat.zero_le, Nat.reduceLeDiff, Nat.reduceAdd, Nat.reduceEqDiff, false_imp_iff, true_imp_iff, not_false_eq_true, not_true_eq_false, imp_self, forall_const, b01_0]
      refine ⟨fun _ => out, fun c => ?_⟩
      refine st_X5_court_11 ?_; simp only [bX5_court_11, exP, stP, p1, p2, pr, pobj, parr, sh0, sh1, sh2, sh3, sh4, sh5, sh6, sh7, sh8, sh9, sh10, sh11, sh12, sh13, sh14, sh15, sh16, sh17, sh18, sh19, sh20, sh21, sh22, sh23, sh24, sh25, sh26, sh27, sh28, sh29, sh30, sh31, sh32, sh33, sh34, sh35, sh36, sh37, sh38, sh39, sh40, sh41, sh42, sh43, sh44, sh45, sh46, sh47, sh48, sh49, sh50, sh51, sh52, sh53, sh54, sh55, sh56, sh57, sh58, sh59, brP, brN, swP, amask, apush, List.getElem?_cons_zero, List.getElem?_cons_succ, List.set_cons_zero, List.set_cons_succ, List.take_succ_cons, List.take_zero, List.drop_succ_cons, List.drop_zero, List.reverse_cons, List.reverse_nil, List.nil_append, List.cons_append, List.length_cons, List.length_nil, true_and, and_true, Nat.zero_le, Nat.reduceLeDiff, Nat.reduceAdd, Nat.reduceEqDiff, false_imp_iff, true_imp_iff, not_false_eq_true, not_true_eq_false, imp_self, forall_const]
      refine ⟨fun _ => out, fun c1 => ?_⟩
      refine st_X5_court_15 ?_; simp only [bX5_court_15, exP, stP, p1, p2, pr, pobj, parr, sh0, sh1, sh2, sh3, sh4, sh5, sh6, sh7, sh8, sh9, sh10, sh11, sh12, sh13, sh14, sh15, sh16, sh17, sh18, sh19, sh20, sh21, sh22, sh23, sh24, sh25, sh26, sh27, sh28, sh29, sh30, sh31, sh32, sh33, sh34, sh35, sh36, sh37, sh38, sh39, sh40, sh41, sh42, sh43, sh44, sh45, sh46, sh47, sh48, sh49, sh50, sh51, sh52, sh53, sh54, sh55, sh56, sh57, sh58, sh59, brP, brN, swP, amask, apush, List.getElem?_cons_zero, List.getElem?_cons_succ, List.set_cons_zero, List.set_cons_succ, List.take_succ_cons, List.take_zero, List.drop_succ_cons, List.drop_zero, List.reverse_cons, List.reverse_nil, List.nil_append, List.cons_append, List.length_cons, List.length_nil, true_and, and_true, Nat.zero_le, Nat.reduceLeDiff, Nat.reduceAdd, Nat.reduceEqDiff, false_imp_iff, true_imp_iff, not_false_eq_true, not_true_eq_false, imp_self, forall_const]
      refine ⟨fun c2 => ?_, fun _ => out⟩
      exfalso
      have a1 : f_lies x 0 (nI nd - 1) = true := by simpa using c
      have a2 : f_lies y 0 2 = true := lies3.mpr ⟨c1, nlt_of_le c2⟩
      rw [a1, a2] at hb
      cases hb
    · rintro r u ⟨rfl, rfl⟩
      refine ⟨fun z u => m = u ∧ z = some 0, ⟨2, by decide, ?_⟩, ?_⟩
      · refine AC_of own_X6_court (ls := [some (.inr 34), some (.inl x), some (.inl y)]) (z := 0) (Nat.le_of_ble_eq_true rfl) rfl ?_
        have out : AW 2 kX6_court (fun z u => m = u ∧ z = some 0) 17 [none, none, none] [] m := by
          refine st_X6_court_17 ?_; simp only [bX6_court_17, exP, stP, p1, p2, pr, pobj, parr, sh0, sh1, sh2, sh3, sh4, sh5, sh6, sh7, sh8, sh9, sh10, sh11, sh12, sh13, sh14, sh15, sh16, sh17, sh18, sh19, sh20, sh21, sh22, sh23, sh24, sh25, sh26, sh27, sh28, sh29, sh30, sh31, sh32, sh33, sh34, sh35, sh36, sh37, sh38, sh39, sh40, sh41, sh42, sh43, sh44, sh45, sh46, sh47, sh48, sh49, sh50, sh51, sh52, sh53, sh54, sh55, sh56, sh57, sh58, sh59, brP, brN, swP, amask, apush, List.getElem?_cons_zero, List.getElem?_cons_succ, List.set_cons_zero, List.set_cons_succ, List.take_succ_cons, List.take_zero, List.drop_succ_cons, List.drop_zero, List.reverse_cons, List.reverse_nil, List.nil_append, List.cons_append, List.length_cons, List.length_nil, true_and, and_true, Nat.zero_le, Nat.reduceLeDiff, Nat.reduceAdd, Nat.reduceEqDiff, false_imp_iff, true_imp_iff, not_false_eq_true, not_true_eq_false, imp_self, forall_const]
          simp
        refine st_X6_court_0 ?_; simp only [bX6_court_0, exP, stP, p1, p2, pr, pobj, parr, sh0, sh1, sh2, sh3, sh4, sh5, sh6, sh7, sh8, sh9, sh10, sh11, sh12, sh13, sh14, sh15, sh16, sh17, sh18, sh19, sh20, sh21, sh22, sh23, sh24, sh25, sh26, sh27, sh28, sh29, sh30, sh31, sh32, sh33, sh34, sh35, sh36, sh37, sh38, sh39, sh40, sh41, sh42, sh43, sh44, sh45, sh46, sh47, sh48, sh49, sh50, sh51, sh52, sh53, sh54, sh55, sh56, sh57, sh58, sh59, brP, brN, swP, amask, apush, List.getElem?_cons_zero, List.getElem?_cons_succ, List.set_cons_zero, List.set_cons_succ, List.take_succ_cons, List.take_zero, List.drop_succ_cons, List.drop_zero, List.reverse_cons, List.reverse_nil, List.nil_append, List.cons_append, List.length_cons, List.length_nil, true_and, and_true, Nat.zero_le, Nat.reduceLeDiff, Nat.reduceAdd, Nat.reduceEqDiff, false_imp_iff, true_imp_iff, not_false_eq_true, not_true_eq_false, imp_self, forall_const]
        refine ⟨_, ⟨1, by decide, d_isDeed h x⟩, ?_⟩; rintro _ _ ⟨rfl, rfl⟩; simp only [exP, stP, p1, p2, pr, pobj, parr, sh0, sh1, sh2, sh3, sh4, sh5, sh6, sh7, sh8, sh9, sh10, sh11, sh12, sh13, sh14, sh15, sh16, sh17, sh18, sh19, sh20, sh21, sh22, sh23, sh24, sh25, sh26, sh27, sh28, sh29, sh30, sh31, sh32, sh33, sh34, sh35, sh36, sh37, sh38, sh39, sh40, sh41, sh42, sh43, sh44, sh45, sh46, sh47, sh48, sh49, sh50, sh51, sh52, sh53, sh54, sh55, sh56, sh57, sh58, sh59, brP, brN, swP, amask, apush, List.getElem?_cons_zero, List.getElem?_cons_succ, List.set_cons_zero, List.set_cons_succ, List.take_succ_cons, List.take_zero, List.drop_succ_cons, List.drop_zero, List.reverse_cons, List.reverse_nil, List.nil_append, List.cons_append, List.length_cons, List.length_nil, true_and, and_true, Nat.zero_le, Nat.reduceLeDiff, Nat.reduceAdd, Nat.reduceEqDiff, false_imp_iff, true_imp_iff, not_false_eq_true, not_true_eq_false, imp_self, forall_const, b01_0]
        refine ⟨fun _ => out, fun c => ?_⟩
        refine st_X6_court_8 ?_; simp only [bX6_court_8, exP, stP, p1, p2, pr, pobj, parr, sh0, sh1, sh2, sh3, sh4, sh5, sh6, sh7, sh8, sh9, sh10, sh11, sh12, sh13, sh14, sh15, sh16, sh17, sh18, sh19, sh20, sh21, sh22, sh23, sh24, sh25, sh26, sh27, sh28, sh29, sh30, sh31, sh32, sh33, sh34, sh35, sh36, sh37, sh38, sh39, sh40, sh41, sh42, sh43, sh44, sh45, sh46, sh47, sh48, sh49, sh50, sh51, sh52, sh53, sh54, sh55, sh56, sh57, sh58, sh59, brP, brN, swP, amask, apush, List.getElem?_cons_zero, List.getElem?_cons_succ, List.set_cons_zero, List.set_cons_succ, List.take_succ_cons, List.take_zero, List.drop_succ_cons, List.drop_zero, List.reverse_cons, List.reverse_nil, List.nil_append, List.cons_append, List.length_cons, List.length_nil, true_and, and_true, Nat.zero_le, Nat.reduceLeDiff, Nat.reduceAdd, Nat.reduceEqDiff, false_imp_iff, true_imp_iff, not_false_eq_true, not_true_eq_false, imp_self, forall_const]
        refine ⟨_, ⟨0, by decide, c_lies m _ _ _⟩, ?_⟩; rintro _ _ ⟨rfl, rfl⟩; simp only [exP, stP, p1, p2, pr, pobj, parr, sh0, sh1, sh2, sh3, sh4, sh5, sh6, sh7, sh8, sh9, sh10, sh11, sh12, sh13, sh14, sh15, sh16, sh17, sh18, sh19, sh20, sh21, sh22, sh23, sh24, sh25, sh26, sh27, sh28, sh29, sh30, sh31, sh32, sh33, sh34, sh35, sh36, sh37, sh38, sh39, sh40, sh41, sh42, sh43, sh44, sh45, sh46, sh47, sh48, sh49, sh50, sh51, sh52, sh53, sh54, sh55, sh56, sh57, sh58, sh59, brP, brN, swP, amask, apush, List.getElem?_cons_zero, List.getElem?_cons_succ, List.set_cons_zero, List.set_cons_succ, List.take_succ_cons, List.take_zero, List.drop_succ_cons, List.drop_zero, List.reverse_cons, List.reverse_nil, List.nil_append, List.cons_append, List.length_cons, List.length_nil, true_and, and_true, Nat.zero_le, Nat.reduceLeDiff, Nat.reduceAdd, Nat.reduceEqDiff, false_imp_iff, true_imp_iff, not_false_eq_true, not_true_eq_false, imp_self, forall_const, b01_0]
        refine ⟨fun c1 => ?_, fun _ => out⟩
        exfalso
        have a1 : f_lies x 0 (nI nd - 1) = true := by simpa using c
        have a2 : f_lies y 0 2 = true := by simpa using c1
        rw [a1, a2] at hb
        cases hb
      · rintro r' v ⟨rfl, rfl⟩
        exact ⟨⟨0, rfl, rfl⟩, ⟨np, nf, ns, nd, tp, h⟩⟩
  | true =>
    rw [Bool.and_eq_true] at hb
    obtain ⟨hx, hy⟩ := hb
    obtain ⟨d, hd, rfl⟩ := (lies_nat (x := x) (n := nd) (by omega)).2 hx
    have vd := eq_true (vp_in_nI (show d < 12 by omega) (show 12 < 2 ^ 31 by omega))
    have cd := nI_clamp (show d < 2 ^ 31 by omega)
    obtain ⟨y0, y2⟩ := lies3.mp hy
    have y2' := le_of_nlt y2
    refine ⟨fun z u => z = some 1 ∧ aup m 33 (upd (m 33) d y) = u, ⟨20, by decide, ?_⟩, ?_⟩
    · refine AC_of own_X5_court (ls := [some (.inr 0), some (.inl (nI d)), some (.inl y)]) (z := 0) (Nat.le_of_ble_eq_true rfl) rfl ?_
      refine st_X5_court_0 ?_; simp only [bX5_court_0, exP, stP, p1, p2, pr, pobj, parr, sh0, sh1, sh2, sh3, sh4, sh5, sh6, sh7, sh8, sh9, sh10, sh11, sh12, sh13, sh14, sh15, sh16, sh17, sh18, sh19, sh20, sh21, sh22, sh23, sh24, sh25, sh26, sh27, sh28, sh29, sh30, sh31, sh32, sh33, sh34, sh35, sh36, sh37, sh38, sh39, sh40, sh41, sh42, sh43, sh44, sh45, sh46, sh47, sh48, sh49, sh50, sh51, sh52, sh53, sh54, sh55, sh56, sh57, sh58, sh59, brP, brN, swP, amask, apush, List.getElem?_cons_zero, List.getElem?_cons_succ, List.set_cons_zero, List.set_cons_succ, List.take_succ_cons, List.take_zero, List.drop_succ_cons, List.drop_zero, List.reverse_cons, List.reverse_nil, List.nil_append, List.cons_append, List.length_cons, List.length_nil, true_and, and_true, Nat.zero_le, Nat.reduceLeDiff, Nat.reduceAdd, Nat.reduceEqDiff, false_imp_iff, true_imp_iff, not_false_eq_true, not_true_eq_false, imp_self, forall_const]
      refine ⟨_, ⟨0, by decide, d_has h _⟩, ?_⟩; rintro _ _ ⟨rfl, rfl⟩; simp only [exP, stP, p1, p2, pr, pobj, parr, sh0, sh1, sh2, sh3, sh4, sh5, sh6, sh7, sh8, sh9, sh10, sh11, sh12, sh13, sh14, sh15, sh16, sh17, sh18, sh19, sh20, sh21, sh22, sh23, sh24, sh25, sh26, sh27, sh28, sh29, sh30, sh31, sh32, sh33, sh34, sh35, sh36, sh37, sh38, sh39, sh40, sh41, sh42, sh43, sh44, sh45, sh46, sh47, sh48, sh49, sh50, sh51, sh52, sh53, sh54, sh55, sh56, sh57, sh58, sh59, brP, brN, swP, amask, apush, List.getElem?_cons_zero, List.getElem?_cons_succ, List.set_cons_zero, List.set_cons_succ, List.take_succ_cons, List.take_zero, List.drop_succ_cons, List.drop_zero, List.reverse_cons, List.reverse_nil, List.nil_append, List.cons_append, List.length_cons, List.length_nil, true_and, and_true, Nat.zero_le, Nat.reduceLeDiff, Nat.reduceAdd, Nat.reduceEqDiff, false_imp_iff, true_imp_iff, not_false_eq_true, not_true_eq_false, imp_self, forall_const, b01_0, hx, Bool.true_eq_false]
      refine st_X5_court_11 ?_; simp only [bX5_court_11, exP, stP, p1, p2, pr, pobj, parr, sh0, sh1, sh2, sh3, sh4, sh5, sh6, sh7, sh8, sh9, sh10, sh11, sh12, sh13, sh14, sh15, sh16, sh17, sh18, sh19, sh20, sh21, sh22, sh23, sh24, sh25, sh26, sh27, sh28, sh29, sh30, sh31, sh32, sh33, sh34, sh35, sh36, sh37, sh38, sh39, sh40, sh41, sh42, sh43, sh44, sh45, sh46, sh47, sh48, sh49, sh50, sh51, sh52, sh53, sh54, sh55, sh56, sh57, sh58, sh59, brP, brN, swP, amask, apush, List.getElem?_cons_zero, List.getElem?_cons_succ, List.set_cons_zero, List.set_cons_succ, List.take_succ_cons, List.take_zero, List.drop_succ_cons, List.drop_zero, List.reverse_cons, List.reverse_nil, List.nil_append, List.cons_append, List.length_cons, List.length_nil, true_and, and_true, Nat.zero_le, Nat.reduceLeDiff, Nat.reduceAdd, Nat.reduceEqDiff, false_imp_iff, true_imp_iff, not_false_eq_true, not_true_eq_false, imp_self, forall_const, y0]
      refine st_X5_court_15 ?_; simp only [bX5_court_15, exP, stP, p1, p2, pr, pobj, parr, sh0, sh1, sh2, sh3, sh4, sh5, sh6, sh7, sh8, sh9, sh10, sh11, sh12, sh13, sh14, sh15, sh16, sh17, sh18, sh19, sh20, sh21, sh22, sh23, sh24, sh25, sh26, sh27, sh28, sh29, sh30, sh31, sh32, sh33, sh34, sh35, sh36, sh37, sh38, sh39, sh40, sh41, sh42, sh43, sh44, sh45, sh46, sh47, sh48, sh49, sh50, sh51, sh52, sh53, sh54, sh55, sh56, sh57, sh58, sh59, brP, brN, swP, amask, apush, List.getElem?_cons_zero, List.getElem?_cons_succ, List.set_cons_zero, List.set_cons_succ, List.take_succ_cons, List.take_zero, List.drop_succ_cons, List.drop_zero, List.reverse_cons, List.reverse_nil, List.nil_append, List.cons_append, List.length_cons, List.length_nil, true_and, and_true, Nat.zero_le, Nat.reduceLeDiff, Nat.reduceAdd, Nat.reduceEqDiff, false_imp_iff, true_imp_iff, not_false_eq_true, not_true_eq_false, imp_self, forall_const, y2']
      refine st_X5_court_22 ?_; simp only [bX5_court_22, exP, stP, p1, p2, pr, pobj, parr, sh0, sh1, sh2, sh3, sh4, sh5, sh6, sh7, sh8, sh9, sh10, sh11, sh12, sh13, sh14, sh15, sh16, sh17, sh18, sh19, sh20, sh21, sh22, sh23, sh24, sh25, sh26, sh27, sh28, sh29, sh30, sh31, sh32, sh33, sh34, sh35, sh36, sh37, sh38, sh39, sh40, sh41, sh42, sh43, sh44, sh45, sh46, sh47, sh48, sh49, sh50, sh51, sh52, sh53, sh54, sh55, sh56, sh57, sh58, sh59, brP, brN, swP, amask, apush, List.getElem?_cons_zero, List.getElem?_cons_succ, List.set_cons_zero, List.set_cons_succ, List.take_succ_cons, List.take_zero, List.drop_succ_cons, List.drop_zero, List.reverse_cons, List.reverse_nil, List.nil_append, List.cons_append, List.length_cons, List.length_nil, true_and, and_true, Nat.zero_le, Nat.reduceLeDiff, Nat.reduceAdd, Nat.reduceEqDiff, false_imp_iff, true_imp_iff, not_false_eq_true, not_true_eq_false, imp_self, forall_const, vd, cd, true_or, or_true]
    · rintro r u ⟨rfl, rfl⟩
      have hi : ∀ x, AC 1 kX6_isDeed [.inr 34, .inl x] (aup m 33 (upd (m 33) d y)) (fun z u => aup m 33 (upd (m 33) d y) = u ∧ z = some (b01 (f_lies x 0 (nI nd - 1)))) := by
        intro x
        refine AC_of own_X6_isDeed (ls := [some (.inr 34), some (.inl x)]) (z := 0) (Nat.le_of_ble_eq_true rfl) rfl ?_
        have e : aup m 33 (upd (m 33) d y) 34 6 = nI nd := by rw [aup_ne (by omega)]; exact h.n34
        refine st_X6_isDeed_0 ?_; simp only [bX6_isDeed_0, exP, stP, p1, p2, pr, pobj, parr, sh0, sh1, sh2, sh3, sh4, sh5, sh6, sh7, sh8, sh9, sh10, sh11, sh12, sh13, sh14, sh15, sh16, sh17, sh18, sh19, sh20, sh21, sh22, sh23, sh24, sh25, sh26, sh27, sh28, sh29, sh30, sh31, sh32, sh33, sh34, sh35, sh36, sh37, sh38, sh39, sh40, sh41, sh42, sh43, sh44, sh45, sh46, sh47, sh48, sh49, sh50, sh51, sh52, sh53, sh54, sh55, sh56, sh57, sh58, sh59, brP, brN, swP, amask, apush, List.getElem?_cons_zero, List.getElem?_cons_succ, List.set_cons_zero, List.set_cons_succ, List.take_succ_cons, List.take_zero, List.drop_succ_cons, List.drop_zero, List.reverse_cons, List.reverse_nil, List.nil_append, List.cons_append, List.length_cons, List.length_nil, true_and, and_true, Nat.zero_le, Nat.reduceLeDiff, Nat.reduceAdd, Nat.reduceEqDiff, false_imp_iff, true_imp_iff, not_false_eq_true, not_true_eq_false, imp_self, forall_const, e]
        refine ⟨_, ⟨0, by decide, c_lies _ _ _ _⟩, ?_⟩; rintro _ _ ⟨rfl, rfl⟩; simp only [exP, stP, p1, p2, pr, pobj, parr, sh0, sh1, sh2, sh3, sh4, sh5, sh6, sh7, sh8, sh9, sh10, sh11, sh12, sh13, sh14, sh15, sh16, sh17, sh18, sh19, sh20, sh21, sh22, sh23, sh24, sh25, sh26, sh27, sh28, sh29, sh30, sh31, sh32, sh33, sh34, sh35, sh36, sh37, sh38, sh39, sh40, sh41, sh42, sh43, sh44, sh45, sh46, sh47, sh48, sh49, sh50, sh51, sh52, sh53, sh54, sh55, sh56, sh57, sh58, sh59, brP, brN, swP, amask, apush, List.getElem?_cons_zero, List.getElem?_cons_succ, List.set_cons_zero, List.set_cons_succ, List.take_succ_cons, List.take_zero, List.drop_succ_cons, List.drop_zero, List.reverse_cons, List.reverse_nil, List.nil_append, List.cons_append, List.length_cons, List.length_nil, true_and, and_true, Nat.zero_le, Nat.reduceLeDiff, Nat.reduceAdd, Nat.reduceEqDiff, false_imp_iff, true_imp_iff, not_false_eq_true, not_true_eq_false, imp_self, forall_const]
        simp [b01_01]
      refine ⟨fun z v => z = some 1 ∧ aup (aup m 33 (upd (m 33) d y)) 52 (upd ((aup m 33 (upd (m 33) d y)) 52) d y) = v, ⟨2, by decide, ?_⟩, ?_⟩
      · refine AC_of own_X6_court (ls := [some (.inr 34), some (.inl (nI d)), some (.inl y)]) (z := 0) (Nat.le_of_ble_eq_true rfl) rfl ?_
        refine st_X6_court_0 ?_; simp only [bX6_court_0, exP, stP, p1, p2, pr, pobj, parr, sh0, sh1, sh2, sh3, sh4, sh5, sh6, sh7, sh8, sh9, sh10, sh11, sh12, sh13, sh14, sh15, sh16, sh17, sh18, sh19, sh20, sh21, sh22, sh23, sh24, sh25, sh26, sh27, sh28, sh29, sh30, sh31, sh32, sh33, sh34, sh35, sh36, sh37, sh38, sh39, sh40, sh41, sh42, sh43, sh44, sh45, sh46, sh47, sh48, sh49, sh50, sh51, sh52, sh53, sh54, sh55, sh56, sh57, sh58, sh59, brP, brN, swP, amask, apush, List.getElem?_cons_zero, List.getElem?_cons_succ, List.set_cons_zero, List.set_cons_succ, List.take_succ_cons, List.take_zero, List.drop_succ_cons, List.drop_zero, List.reverse_cons, List.reverse_nil, List.nil_append, List.cons_append, List.length_cons, List.length_nil, true_and, and_true, Nat.zero_le, Nat.reduceLeDiff, Nat.reduceAdd, Nat.reduceEqDiff, false_imp_iff, true_imp_iff, not_false_eq_true, not_true_eq_false, imp_self, forall_const]
        refine ⟨_, ⟨1, by decide, hi _⟩, ?_⟩; rintro _ _ ⟨rfl, rfl⟩; simp only [exP, stP, p1, p2, pr, pobj, parr, sh0, sh1, sh2, sh3, sh4, sh5, sh6, sh7, sh8, sh9, sh10, sh11, sh12, sh13, sh14, sh15, sh16, sh17, sh18, sh19, sh20, sh21, sh22, sh23, sh24, sh25, sh26, sh27, sh28, sh29, sh30, sh31, sh32, sh33, sh34, sh35, sh36, sh37, sh38, sh39, sh40, sh41, sh42, sh43, sh44, sh45, sh46, sh47, sh48, sh49, sh50, sh51, sh52, sh53, sh54, sh55, sh56, sh57, sh58, sh59, brP, brN, swP, amask, apush, List.getElem?_cons_zero, List.getElem?_cons_succ, List.set_cons_zero, List.set_cons_succ, List.take_succ_cons, List.take_zero, List.drop_succ_cons, List.drop_zero, List.reverse_cons, List.reverse_nil, List.nil_append, List.cons_append, List.length_cons, List.length_nil, true_and, and_true, Nat.zero_le, Nat.reduceLeDiff, Nat.reduceAdd, Nat.reduceEqDiff, false_imp_iff, true_imp_iff, not_false_eq_true, not_true_eq_false, imp_self, forall_const, b01_0, hx, Bool.true_eq_false]
        refine st_X6_court_8 ?_; simp only [bX6_court_8, exP, stP, p1, p2, pr, pobj, parr, sh0, sh1, sh2, sh3, sh4, sh5, sh6, sh7, sh8, sh9, sh10, sh11, sh12, sh13, sh14, sh15, sh16, sh17, sh18, sh19, sh20, sh21, sh22, sh23, sh24, sh25, sh26, sh27, sh28, sh29, sh30, sh31, sh32, sh33, sh34, sh35, sh36, sh37, sh38, sh39, sh40, sh41, sh42, sh43, sh44, sh45, sh46, sh47, sh48, sh49, sh50, sh51, sh52, sh53, sh54, sh55, sh56, sh57, sh58, sh59, brP, brN, swP, amask, apush, List.getElem?_cons_zero, List.getElem?_cons_succ, List.set_cons_zero, List.set_cons_succ, List.take_succ_cons, List.take_zero, List.drop_succ_cons, List.drop_zero, List.reverse_cons, List.reverse_nil, List.nil_append, List.cons_append, List.length_cons, List.length_nil, true_and, and_true, Nat.zero_le, Nat.reduceLeDiff, Nat.reduceAdd, Nat.reduceEqDiff, false_imp_iff, true_imp_iff, not_false_eq_true, not_true_eq_false, imp_self, forall_const]
        refine ⟨_, ⟨0, by decide, c_lies _ _ _ _⟩, ?_⟩; rintro _ _ ⟨rfl, rfl⟩; simp only [exP, stP, p1, p2, pr, pobj, parr, sh0, sh1, sh2, sh3, sh4, sh5, sh6, sh7, sh8, sh9, sh10, sh11, sh12, sh13, sh14, sh15, sh16, sh17, sh18, sh19, sh20, sh21, sh22, sh23, sh24, sh25, sh26, sh27, sh28, sh29, sh30, sh31, sh32, sh33, sh34, sh35, sh36, sh37, sh38, sh39, sh40, sh41, sh42, sh43, sh44, sh45, sh46, sh47, sh48, sh49, sh50, sh51, sh52, sh53, sh54, sh55, sh56, sh57, sh58, sh59, brP, brN, swP, amask, apush, List.getElem?_cons_zero, List.getElem?_cons_succ, List.set_cons_zero, List.set_cons_succ, List.take_succ_cons, List.take_zero, List.drop_succ_cons, List.drop_zero, List.reverse_cons, List.reverse_nil, List.nil_append, List.cons_append, List.length_cons, List.length_nil, true_and, and_true, Nat.zero_le, Nat.reduceLeDiff, Nat.reduceAdd, Nat.reduceEqDiff, false_imp_iff, true_imp_iff, not_false_eq_true, not_true_eq_false, imp_self, forall_const, b01_0, hy, Bool.true_eq_false]
        refine st_X6_court_19 ?_; simp only [bX6_court_19, exP, stP, p1, p2, pr, pobj, parr, sh0, sh1, sh2, sh3, sh4, sh5, sh6, sh7, sh8, sh9, sh10, sh11, sh12, sh13, sh14, sh15, sh16, sh17, sh18, sh19, sh20, sh21, sh22, sh23, sh24, sh25, sh26, sh27, sh28, sh29, sh30, sh31, sh32, sh33, sh34, sh35, sh36, sh37, sh38, sh39, sh40, sh41, sh42, sh43, sh44, sh45, sh46, sh47, sh48, sh49, sh50, sh51, sh52, sh53, sh54, sh55, sh56, sh57, sh58, sh59, brP, brN, swP, amask, apush, List.getElem?_cons_zero, List.getElem?_cons_succ, List.set_cons_zero, List.set_cons_succ, List.take_succ_cons, List.take_zero, List.drop_succ_cons, List.drop_zero, List.reverse_cons, List.reverse_nil, List.nil_append, List.cons_append, List.length_cons, List.length_nil, true_and, and_true, Nat.zero_le, Nat.reduceLeDiff, Nat.reduceAdd, Nat.reduceEqDiff, false_imp_iff, true_imp_iff, not_false_eq_true, not_true_eq_false, imp_self, forall_const, vd, cd, true_or, or_true]
      · rintro r' v ⟨rfl, rfl⟩
        have hl := h.1.2.2.2.2.2.2.2.2.2.2.2.2
        refine ⟨⟨1, rfl, rfl⟩, ⟨np, nf, ns, nd, tp, INV_claim (m := m) (fun k k1 k2 k3 k4 k5 k6 => by rw [aup_ne k6, aup_ne k3]) (fun e he => ?_) h⟩⟩
        obtain ⟨l1, l2, l3, l4, l5⟩ := hl e he
        have r31 : aup (aup m 33 (upd (m 33) d y)) 52 (upd ((aup m 33 (upd (m 33) d y)) 52) d y) 31 = m 31 := by rw [aup_ne (by omega), aup_ne (by omega)]
        have r32 : aup (aup m 33 (upd (m 33) d y)) 52 (upd ((aup m 33 (upd (m 33) d y)) 52) d y) 32 = m 32 := by rw [aup_ne (by omega), aup_ne (by omega)]
        have r33 : aup (aup m 33 (upd (m 33) d y)) 52 (upd ((aup m 33 (upd (m 33) d y)) 52) d y) 33 = upd (m 33) d y := by rw [aup_ne (by omega), aup_eq]
        have r50 : aup (aup m 33 (upd (m 33) d y)) 52 (upd ((aup m 33 (upd (m 33) d y)) 52) d y) 50 = m 50 := by rw [aup_ne (by omega), aup_ne (by omega)]
        have r51 : aup (aup m 33 (upd (m 33) d y)) 52 (upd ((aup m 33 (upd (m 33) d y)) 52) d y) 51 = m 51 := by rw [aup_ne (by omega), aup_ne (by omega)]
        have r52 : aup (aup m 33 (upd (m 33) d y)) 52 (upd ((aup m 33 (upd (m 33) d y)) 52) d y) 52 = upd (m 52) d y := by rw [aup_eq, aup_ne (by omega)]
        rw [r31, r32, r33, r50, r51, r52]
        refine ⟨l1, ?_, l3, fun q => ⟨(l4 q).1, ?_⟩, l5⟩
        · by_cases q : e = d
          · subst q; rw [upd_eq, upd_eq]
          · rw [upd_ne q, upd_ne q]; exact l2
        · rw [upd_ne (by omega)]; exact (l4 q).2
