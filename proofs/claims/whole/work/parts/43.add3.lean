/-! ===== pairs: person, formula, seal ===== -/
theorem mark_lt {m : AM} {np nf ns nd tp : Nat} (h : INVn m np nf ns nd tp) {d k w : Nat} (hd : d < 12) (hk : k < 5) (hw : w < 32) (hb : bt (m 14 (k * 12 + d)) w = true) : d < nd ∧ w < cnt np nf ns nd k := by
  rcases Nat.lt_or_ge d nd with q | q
  · exact ⟨q, h.1.2.2.2.2.2.2.2.2.1 d q k hk w hw ((h.mb.1 d q k hk w hw).mp hb)⟩
  · have z := (h.1.2.2.2.2.2.2.2.2.2.1 d q hd).2 k hk
    rw [z, b_0] at hb
    cases hb
theorem span_int {f l : Int32} (h : f_isSpan f l = true) : 0 ≤ f.toInt ∧ f.toInt ≤ 3000 ∧ 0 ≤ l.toInt ∧ l.toInt ≤ 3000 := span_rng h
theorem CPRE_person2 {m u : AM} {nd j : Nat} {f l : Int32} (hf : f_isSpan f l = true) (h : ∀ k, 2 ≤ k → k ≤ 12 → k ≠ 1 → k ≠ 2 → k ≠ 3 → u k = m k) (e2 : u 2 = upd (m 2) j f) (e3 : u 3 = upd (m 3) j l) (e15 : u 15 9 = m 15 9) (e26 : u 26 = m 26) (hC : CPRE m nd) : CPRE u nd := by
  obtain ⟨q1, q2, q3, q4, q5, q6, q7, q8, q9⟩ := hC
  have ew : wtm u = wtm m := by funext i; unfold wtm; rw [e26]
  have r := span_rng hf
  have key : ∀ n, (∀ i, i < n → 0 ≤ (m 2 i).toInt ∧ (m 2 i).toInt ≤ 3000 ∧ 0 ≤ (m 3 i).toInt ∧ (m 3 i).toInt ≤ 3000) → (∀ i, i < n → 0 ≤ (u 2 i).toInt ∧ (u 2 i).toInt ≤ 3000 ∧ 0 ≤ (u 3 i).toInt ∧ (u 3 i).toInt ≤ 3000) := by
    intro n hn i hi
    rw [e2, e3]
    by_cases q : i = j
    · subst q; rw [upd_eq, upd_eq]; exact ⟨r.1, r.2.1, r.2.2.1, r.2.2.2⟩
    · rw [upd_ne q, upd_ne q]; exact hn i hi
  refine ⟨q1, by rw [h 10 (by omega) (by omega) (by omega) (by omega) (by omega)]; exact q2, key 20 q3, by rw [h 5 (by omega) (by omega) (by omega) (by omega) (by omega), h 6 (by omega) (by omega) (by omega) (by omega) (by omega)]; exact q4, by rw [h 8 (by omega) (by omega) (by omega) (by omega) (by omega), h 9 (by omega) (by omega) (by omega) (by omega) (by omega)]; exact q5, by rw [h 11 (by omega) (by omega) (by omega) (by omega) (by omega), h 12 (by omega) (by omega) (by omega) (by omega) (by omega)]; exact q6, by rw [e15]; exact q7, ?_, ?_⟩
  · unfold WOK; rw [ew]; exact q8
  · rw [ew]; exact q9
theorem RE_person2 {m u : AM} {j : Nat} {f l : Int32} (h : ∀ k, 2 ≤ k → k ≤ 12 → k ≠ 1 → k ≠ 2 → k ≠ 3 → u k = m k) (h' : ∀ k, 35 ≤ k → k ≤ 44 → k ≠ 36 → k ≠ 37 → u k = m k) (e2 : u 2 = upd (m 2) j f) (e3 : u 3 = upd (m 3) j l) (e36 : u 36 = upd (m 36) j f) (e37 : u 37 = upd (m 37) j l) (e15 : u 15 9 = m 15 9) (e26 : u 26 = m 26) (e34 : u 34 2 = m 34 2) (hR : RE m) : RE u := by
  obtain ⟨q1, q2, q3, q4, q5⟩ := hR
  have key : ∀ n, (∀ i, i < n → m 36 i = m 2 i ∧ m 37 i = m 3 i) → (∀ i, i < n → u 36 i = u 2 i ∧ u 37 i = u 3 i) := by
    intro n hn i hi
    rw [e2, e3, e36, e37]
    by_cases q : i = j
    · subst q; rw [upd_eq, upd_eq, upd_eq, upd_eq]; exact ⟨rfl, rfl⟩
    · rw [upd_ne q, upd_ne q, upd_ne q, upd_ne q]; exact hn i hi
  refine ⟨key 20 q1, by rw [h 5 (by omega) (by omega) (by omega) (by omega) (by omega), h 6 (by omega) (by omega) (by omega) (by omega) (by omega), h' 38 (by omega) (by omega) (by omega) (by omega), h' 39 (by omega) (by omega) (by omega) (by omega)]; exact q2, by rw [h 8 (by omega) (by omega) (by omega) (by omega) (by omega), h 9 (by omega) (by omega) (by omega) (by omega) (by omega), h' 40 (by omega) (by omega) (by omega) (by omega), h' 41 (by omega) (by omega) (by omega) (by omega)]; exact q3, by rw [h 11 (by omega) (by omega) (by omega) (by omega) (by omega), h 12 (by omega) (by omega) (by omega) (by omega) (by omega), h' 42 (by omega) (by omega) (by omega) (by omega), h' 43 (by omega) (by omega) (by omega) (by omega), h' 44 (by omega) (by omega) (by omega) (by omega), e26]; exact q4, by rw [e34, e15]; exact q5⟩
theorem p_person {m : AM} (h : INV m) (f l : Int32) : PAIR kX5_person kX6_person [.inl f, .inl l] m := by
  obtain ⟨np, nf, ns, nd, tp, h⟩ := h
  have hnp := h.1.1
  have e1 : m 1 2 = nI np := h.1.2.1.1
  have e3 : m 34 3 = nI np := h.1.2.2.1.1
  have hS : isS 1 := Or.inl rfl
  have hle : np ≤ 20 := by omega
  refine ⟨AddQ m 1 np f l, ⟨20, by decide, ?_⟩, ?_⟩
  · refine AC_of own_X5_person (ls := [some (.inr 0), some (.inl f), some (.inl l)]) (z := 0) (Nat.le_of_ble_eq_true rfl) rfl ?_
    refine st_X5_person_0 ?_; simp only [bX5_person_0, exP, stP, p1, p2, pr, pobj, parr, sh0, sh1, sh2, sh3, sh4, sh5, sh6, sh7, sh8, sh9, sh10, sh11, sh12, sh13, sh14, sh15, sh16, sh17, sh18, sh19, sh20, sh21, sh22, sh23, sh24, sh25, sh26, sh27, sh28, sh29, sh30, sh31, sh32, sh33, sh34, sh35, sh36, sh37, sh38, sh39, sh40, sh41, sh42, sh43, sh44, sh45, sh46, sh47, sh48, sh49, sh50, sh51, sh52, sh53, sh54, sh55, sh56, sh57, sh58, sh59, brP, brN, swP, amask, apush, List.getElem?_cons_zero, List.getElem?_cons_succ, List.set_cons_zero, List.set_cons_succ, List.take_succ_cons, List.take_zero, List.drop_succ_cons, List.drop_zero, List.reverse_cons, List.reverse_nil, List.nil_append, List.cons_append, List.length_cons, List.length_nil, true_and, and_true, Nat.zero_le, Nat.reduceLeDiff, Nat.reduceAdd, Nat.reduceEqDiff, false_imp_iff, true_imp_iff, not_false_eq_true, not_true_eq_false, imp_self, forall_const]
    refine ⟨_, ⟨2, by decide, c_add m 1 np hS (by show np ≤ 20; omega) e1 f l⟩, ?_⟩
    intro z u hz
    have hz' : ∃ x, z = some x := by rcases hz with ⟨-, e, -⟩ | ⟨-, -, e, -⟩ <;> exact ⟨_, e⟩
    obtain ⟨x, rfl⟩ := hz'
    simp only [exP, stP, p1, p2, pr, pobj, parr, sh0, sh1, sh2, sh3, sh4, sh5, sh6, sh7, sh8, sh9, sh10, sh11, sh12, sh13, sh14, sh15, sh16, sh17, sh18, sh19, sh20, sh21, sh22, sh23, sh24, sh25, sh26, sh27, sh28, sh29, sh30, sh31, sh32, sh33, sh34, sh35, sh36, sh37, sh38, sh39, sh40, sh41, sh42, sh43, sh44, sh45, sh46, sh47, sh48, sh49, sh50, sh51, sh52, sh53, sh54, sh55, sh56, sh57, sh58, sh59, brP, brN, swP, amask, apush, List.getElem?_cons_zero, List.getElem?_cons_succ, List.set_cons_zero, List.set_cons_succ, List.take_succ_cons, List.take_zero, List.drop_succ_cons, List.drop_zero, List.reverse_cons, List.reverse_nil, List.nil_append, List.cons_append, List.length_cons, List.length_nil, true_and, and_true, Nat.zero_le, Nat.reduceLeDiff, Nat.reduceAdd, Nat.reduceEqDiff, false_imp_iff, true_imp_iff, not_false_eq_true, not_true_eq_false, imp_self, forall_const]
    exact ⟨Or.inl trivial, hz⟩
  · rintro r u (⟨hb, rfl, rfl⟩ | ⟨hs, hlt, rfl, rfl⟩)
    · refine ⟨fun z u => m = u ∧ z = some (-1), ⟨20, by decide, ?_⟩, ?_⟩
      · refine AC_of own_X6_person (ls := [some (.inr 34), some (.inl f), some (.inl l)]) (z := 0) (Nat.le_of_ble_eq_true rfl) rfl ?_
        have out : AW 20 kX6_person (fun z u => m = u ∧ z = some (-1)) 17 [none, none, none] [] m := by
          refine st_X6_person_17 ?_; simp only [bX6_person_17, exP, stP, p1, p2, pr, pobj, parr, sh0, sh1, sh2, sh3, sh4, sh5, sh6, sh7, sh8, sh9, sh10, sh11, sh12, sh13, sh14, sh15, sh16, sh17, sh18, sh19, sh20, sh21, sh22, sh23, sh24, sh25, sh26, sh27, sh28, sh29, sh30, sh31, sh32, sh33, sh34, sh35, sh36, sh37, sh38, sh39, sh40, sh41, sh42, sh43, sh44, sh45, sh46, sh47, sh48, sh49, sh50, sh51, sh52, sh53, sh54, sh55, sh56, sh57, sh58, sh59, brP, brN, swP, amask, apush, List.getElem?_cons_zero, List.getElem?_cons_succ, List.set_cons_zero, List.set_cons_succ, List.take_succ_cons, List.take_zero, List.drop_succ_cons, List.drop_zero, List.reverse_cons, List.reverse_nil, List.nil_append, List.cons_append, List.length_cons, List.length_nil, true_and, and_true, Nat.zero_le, Nat.reduceLeDiff, Nat.reduceAdd, Nat.reduceEqDiff, false_imp_iff, true_imp_iff, not_false_eq_true, not_true_eq_false, imp_self, forall_const]
          simp
        refine st_X6_person_0 ?_; simp only [bX6_person_0, exP, stP, p1, p2, pr, pobj, parr, sh0, sh1, sh2, sh3, sh4, sh5, sh6, sh7, sh8, sh9, sh10, sh11, sh12, sh13, sh14, sh15, sh16, sh17, sh18, sh19, sh20, sh21, sh22, sh23, sh24, sh25, sh26, sh27, sh28, sh29, sh30, sh31, sh32, sh33, sh34, sh35, sh36, sh37, sh38, sh39, sh40, sh41, sh42, sh43, sh44, sh45, sh46, sh47, sh48, sh49, sh50, sh51, sh52, sh53, sh54, sh55, sh56, sh57, sh58, sh59, brP, brN, swP, amask, apush, List.getElem?_cons_zero, List.getElem?_cons_succ, List.set_cons_zero, List.set_cons_succ, List.take_succ_cons, List.take_zero, List.drop_succ_cons, List.drop_zero, List.reverse_cons, List.reverse_nil, List.nil_append, List.cons_append, List.length_cons, List.length_nil, true_and, and_true, Nat.zero_le, Nat.reduceLeDiff, Nat.reduceAdd, Nat.reduceEqDiff, false_imp_iff, true_imp_iff, not_false_eq_true, not_true_eq_false, imp_self, forall_const, e3]
        refine ⟨fun _ => out, fun c => ?_⟩
        refine st_X6_person_9 ?_; simp only [bX6_person_9, exP, stP, p1, p2, pr, pobj, parr, sh0, sh1, sh2, sh3, sh4, sh5, sh6, sh7, sh8, sh9, sh10, sh11, sh12, sh13, sh14, sh15, sh16, sh17, sh18, sh19, sh20, sh21, sh22, sh23, sh24, sh25, sh26, sh27, sh28, sh29, sh30, sh31, sh32, sh33, sh34, sh35, sh36, sh37, sh38, sh39, sh40, sh41, sh42, sh43, sh44, sh45, sh46, sh47, sh48, sh49, sh50, sh51, sh52, sh53, sh54, sh55, sh56, sh57, sh58, sh59, brP, brN, swP, amask, apush, List.getElem?_cons_zero, List.getElem?_cons_succ, List.set_cons_zero, List.set_cons_succ, List.take_succ_cons, List.take_zero, List.drop_succ_cons, List.drop_zero, List.reverse_cons, List.reverse_nil, List.nil_append, List.cons_append, List.length_cons, List.length_nil, true_and, and_true, Nat.zero_le, Nat.reduceLeDiff, Nat.reduceAdd, Nat.reduceEqDiff, false_imp_iff, true_imp_iff, not_false_eq_true, not_true_eq_false, imp_self, forall_const]
        refine ⟨_, ⟨1, by decide, c_isSpan m _ _⟩, ?_⟩; rintro _ _ ⟨rfl, rfl⟩; simp only [exP, stP, p1, p2, pr, pobj, parr, sh0, sh1, sh2, sh3, sh4, sh5, sh6, sh7, sh8, sh9, sh10, sh11, sh12, sh13, sh14, sh15, sh16, sh17, sh18, sh19, sh20, sh21, sh22, sh23, sh24, sh25, sh26, sh27, sh28, sh29, sh30, sh31, sh32, sh33, sh34, sh35, sh36, sh37, sh38, sh39, sh40, sh41, sh42, sh43, sh44, sh45, sh46, sh47, sh48, sh49, sh50, sh51, sh52, sh53, sh54, sh55, sh56, sh57, sh58, sh59, brP, brN, swP, amask, apush, List.getElem?_cons_zero, List.getElem?_cons_succ, List.set_cons_zero, List.set_cons_succ, List.take_succ_cons, List.take_zero, List.drop_succ_cons, List.drop_zero, List.reverse_cons, List.reverse_nil, List.nil_append, List.cons_append, List.length_cons, List.length_nil, true_and, and_true, Nat.zero_le, Nat.reduceLeDiff, Nat.reduceAdd, Nat.reduceEqDiff, false_imp_iff, true_imp_iff, not_false_eq_true, not_true_eq_false, imp_self, forall_const, b01_0]
        refine ⟨fun c1 => ?_, fun _ => out⟩
        exfalso
        have a2 : f_isSpan f l = true := by simpa using c1
        have a1 : np < lenS 1 := by
          show np < 20
          by_cases q : np = 20
          · exfalso; apply c; rw [q]; rfl
          · omega
        rw [a2] at hb
        simp [a1] at hb
      · rintro r' v ⟨rfl, rfl⟩
        exact ⟨⟨-1, rfl, rfl⟩, ⟨np, nf, ns, nd, tp, h⟩⟩
    · have hlt' : np < 20 := hlt
      have vj := eq_true (vp_in_nI hlt' (show 20 < 2 ^ 31 by omega))
      have cj := nI_clamp (show np < 2 ^ 31 by omega)
      have uk : ∀ k, k ≠ 1 → k ≠ 2 → k ≠ 3 → g_add m 1 np f l k = m k := fun k a b c => by
        unfold g_add g_chg
        rw [aup_ne c, aup_ne b, aup_ne a]
      have u1 : g_add m 1 np f l 1 2 = nI (np + 1) := by
        unfold g_add g_chg
        rw [aup_ne (by omega), aup_ne (by omega), aup_eq, upd_eq]
      have u2 : g_add m 1 np f l 2 = upd (m 2) np f := by
        unfold g_add g_chg
        rw [aup_ne (by omega), aup_eq, aup_ne (by omega)]
      have u3 : g_add m 1 np f l 3 = upd (m 3) np l := by
        unfold g_add g_chg
        rw [aup_eq, aup_ne (by omega)]
      generalize g_add m 1 np f l = u at uk u1 u2 u3 ⊢
      have e3u : u 34 3 = nI np := by rw [uk 34 (by omega) (by omega) (by omega)]; exact e3
      have e19 : ¬ nI np = 20 := fun q => by
        have := (nI_eq (a := np) (b := 20) (by omega) (by omega)).mp q
        omega
      have x1 : nI np + 1 = nI (np + 1) := nI_1 np
      have x2 : nI (np + 1) - 1 = nI np := nI_pred np
      refine ⟨fun z v => z = some (nI np) ∧ (∀ k, k ≠ 34 → k ≠ 36 → k ≠ 37 → v k = u k) ∧ (∀ i, i ≠ 3 → v 34 i = u 34 i) ∧ v 34 3 = nI (np + 1) ∧ v 36 = upd (u 36) np f ∧ v 37 = upd (u 37) np l, ⟨20, by decide, ?_⟩, ?_⟩
      · refine AC_of own_X6_person (ls := [some (.inr 34), some (.inl f), some (.inl l)]) (z := 0) (Nat.le_of_ble_eq_true rfl) rfl ?_
        refine st_X6_person_0 ?_; simp only [bX6_person_0, exP, stP, p1, p2, pr, pobj, parr, sh0, sh1, sh2, sh3, sh4, sh5, sh6, sh7, sh8, sh9, sh10, sh11, sh12, sh13, sh14, sh15, sh16, sh17, sh18, sh19, sh20, sh21, sh22, sh23, sh24, sh25, sh26, sh27, sh28, sh29, sh30, sh31, sh32, sh33, sh34, sh35, sh36, sh37, sh38, sh39, sh40, sh41, sh42, sh43, sh44, sh45, sh46, sh47, sh48, sh49, sh50, sh51, sh52, sh53, sh54, sh55, sh56, sh57, sh58, sh59, brP, brN, swP, amask, apush, List.getElem?_cons_zero, List.getElem?_cons_succ, List.set_cons_zero, List.set_cons_succ, List.take_succ_cons, List.take_zero, List.drop_succ_cons, List.drop_zero, List.reverse_cons, List.reverse_nil, List.nil_append, List.cons_append, List.length_cons, List.length_nil, true_and, and_true, Nat.zero_le, Nat.reduceLeDiff, Nat.reduceAdd, Nat.reduceEqDiff, false_imp_iff, true_imp_iff, not_false_eq_true, not_true_eq_false, imp_self, forall_const, e3u, eq_false e19]
        refine st_X6_person_9 ?_; simp only [bX6_person_9, exP, stP, p1, p2, pr, pobj, parr, sh0, sh1, sh2, sh3, sh4, sh5, sh6, sh7, sh8, sh9, sh10, sh11, sh12, sh13, sh14, sh15, sh16, sh17, sh18, sh19, sh20, sh21, sh22, sh23, sh24, sh25, sh26, sh27, sh28, sh29, sh30, sh31, sh32, sh33, sh34, sh35, sh36, sh37, sh38, sh39, sh40, sh41, sh42, sh43, sh44, sh45, sh46, sh47, sh48, sh49, sh50, sh51, sh52, sh53, sh54, sh55, sh56, sh57, sh58, sh59, brP, brN, swP, amask, apush, List.getElem?_cons_zero, List.getElem?_cons_succ, List.set_cons_zero, List.set_cons_succ, List.take_succ_cons, List.take_zero, List.drop_succ_cons, List.drop_zero, List.reverse_cons, List.reverse_nil, List.nil_append, List.cons_append, List.length_cons, List.length_nil, true_and, and_true, Nat.zero_le, Nat.reduceLeDiff, Nat.reduceAdd, Nat.reduceEqDiff, false_imp_iff, true_imp_iff, not_false_eq_true, not_true_eq_false, imp_self, forall_const]
        refine ⟨_, ⟨1, by decide, c_isSpan u _ _⟩, ?_⟩; rintro _ _ ⟨rfl, rfl⟩; simp only [exP, stP, p1, p2, pr, pobj, parr, sh0, sh1, sh2, sh3, sh4, sh5, sh6, sh7, sh8, sh9, sh10, sh11, sh12, sh13, sh14, sh15, sh16, sh17, sh18, sh19, sh20, sh21, sh22, sh23, sh24, sh25, sh26, sh27, sh28, sh29, sh30, sh31, sh32, sh33, sh34, sh35, sh36, sh37, sh38, sh39, sh40, sh41, sh42, sh43, sh44, sh45, sh46, sh47, sh48, sh49, sh50, sh51, sh52, sh53, sh54, sh55, sh56, sh57, sh58, sh59, brP, brN, swP, amask, apush, List.getElem?_cons_zero, List.getElem?_cons_succ, List.set_cons_zero, List.set_cons_succ, List.take_succ_cons, List.take_zero, List.drop_succ_cons, List.drop_zero, List.reverse_cons, List.reverse_nil, List.nil_append, List.cons_append, List.length_cons, List.length_nil, true_and, and_true, Nat.zero_le, Nat.reduceLeDiff, Nat.reduceAdd, Nat.reduceEqDiff, false_imp_iff, true_imp_iff, not_false_eq_true, not_true_eq_false, imp_self, forall_const, b01_0, hs, Bool.true_eq_false]
        refine st_X6_person_19 ?_; simp only [bX6_person_19, exP, stP, p1, p2, pr, pobj, parr, sh0, sh1, sh2, sh3, sh4, sh5, sh6, sh7, sh8, sh9, sh10, sh11, sh12, sh13, sh14, sh15, sh16, sh17, sh18, sh19, sh20, sh21, sh22, sh23, sh24, sh25, sh26, sh27, sh28, sh29, sh30, sh31, sh32, sh33, sh34, sh35, sh36, sh37, sh38, sh39, sh40, sh41, sh42, sh43, sh44, sh45, sh46, sh47, sh48, sh49, sh50, sh51, sh52, sh53, sh54, sh55, sh56, sh57, sh58, sh59, brP, brN, swP, amask, apush, List.getElem?_cons_zero, List.getElem?_cons_succ, List.set_cons_zero, List.set_cons_succ, List.take_succ_cons, List.take_zero, List.drop_succ_cons, List.drop_zero, List.reverse_cons, List.reverse_nil, List.nil_append, List.cons_append, List.length_cons, List.length_nil, true_and, and_true, Nat.zero_le, Nat.reduceLeDiff, Nat.reduceAdd, Nat.reduceEqDiff, false_imp_iff, true_imp_iff, not_false_eq_true, not_true_eq_false, imp_self, forall_const, vj, cj, e3u, x1, x2, aup_ne (show (34 : Nat) ≠ 36 by omega), aup_ne (show (34 : Nat) ≠ 37 by omega), aup_eq, upd_eq, true_or, or_true]
        refine ⟨fun k a b c => by rw [aup_ne a, aup_ne c, aup_ne b], fun i hi => by rw [upd_ne hi], by rw [aup_ne (by omega), aup_ne (by omega), aup_eq], by rw [aup_ne (by omega), aup_eq, aup_ne (by omega)]⟩
      · rintro r' v ⟨rfl, v1, v2, v3, v4, v5⟩
        have vk : ∀ k, k ≠ 1 → k ≠ 2 → k ≠ 3 → k ≠ 34 → k ≠ 36 → k ≠ 37 → v k = m k := fun k a b c d e g => by rw [v1 k d e g]; exact uk k a b c
        have v34 : ∀ i, i ≠ 3 → v 34 i = m 34 i := fun i hi => by rw [v2 i hi, uk 34 (by omega) (by omega) (by omega)]
        have w1 : v 1 2 = nI (np + 1) := by rw [v1 1 (by omega) (by omega) (by omega)]; exact u1
        have w2 : v 2 = upd (m 2) np f := by rw [v1 2 (by omega) (by omega) (by omega)]; exact u2
        have w3 : v 3 = upd (m 3) np l := by rw [v1 3 (by omega) (by omega) (by omega)]; exact u3
        have w36 : v 36 = upd (m 36) np f := by rw [v4, uk 36 (by omega) (by omega) (by omega)]
        have w37 : v 37 = upd (m 37) np l := by rw [v5, uk 37 (by omega) (by omega) (by omega)]
        have e15 : v 15 9 = m 15 9 := by rw [vk 15 (by omega) (by omega) (by omega) (by omega) (by omega) (by omega)]
        have e26 := vk 26 (by omega) (by omega) (by omega) (by omega) (by omega) (by omega)
        have e0 := vk 0 (by omega) (by omega) (by omega) (by omega) (by omega) (by omega)
        refine ⟨⟨nI np, rfl, rfl⟩, ⟨np + 1, nf, ns, nd, tp, ?_, ?_, ?_⟩⟩
        · refine BASE_add (m := m) ⟨by omega, by omega⟩ ⟨by omega, by omega⟩ ⟨by omega, by omega⟩ ?_ ?_ (vk 14 (by omega) (by omega) (by omega) (by omega) (by omega) (by omega)) (fun k a b => vk k (by omega) (by omega) (by omega) (by omega) (by omega) (by omega)) (vk 35 (by omega) (by omega) (by omega) (by omega) (by omega) (by omega)) (fun k a b => vk k (by omega) (by omega) (by omega) (by omega) (by omega) (by omega)) (v34 6 (by omega)) (v34 1 (by omega)) ?_ ?_ h.1
          · refine ⟨w1, by rw [vk 4 (by omega) (by omega) (by omega) (by omega) (by omega) (by omega)]; exact h.1.2.1.2.1, by rw [vk 7 (by omega) (by omega) (by omega) (by omega) (by omega) (by omega)]; exact h.1.2.1.2.2⟩
          · refine ⟨v3, by rw [v34 4 (by omega)]; exact h.1.2.2.1.2.1, by rw [v34 5 (by omega)]; exact h.1.2.2.1.2.2⟩
          · exact CPRE_person2 hs (fun k a b c d e => vk k (by omega) (by omega) (by omega) (by omega) (by omega) (by omega)) w2 w3 e15 e26 h.1.2.2.2.1
          · exact RE_person2 (fun k a b c d e => vk k (by omega) (by omega) (by omega) (by omega) (by omega) (by omega)) (fun k a b c d => vk k (by omega) (by omega) (by omega) (by omega) (by omega) (by omega)) w2 w3 w36 w37 e15 e26 (v34 2 (by omega)) h.re
        · rw [e0]
          rcases h.2.1 with q | ⟨q1, q2⟩
          · exact Or.inl q
          · refine Or.inr ⟨q1, CST_safe (m := m) ?_ ?_ ?_ (fun k a b => vk k (by omega) (by omega) (by omega) (by omega) (by omega) (by omega)) e0 q2⟩
            all_goals intro d hd w hw hb
            · have q := (mark_lt h hd (by omega) (by omega) hb).2
              have q' : w < np := q
              rw [w2, w3, upd_ne (by omega), upd_ne (by omega)]
              exact ⟨rfl, rfl⟩
            · rw [vk 5 (by omega) (by omega) (by omega) (by omega) (by omega) (by omega), vk 6 (by omega) (by omega) (by omega) (by omega) (by omega) (by omega)]; exact ⟨rfl, rfl⟩
            · rw [vk 8 (by omega) (by omega) (by omega) (by omega) (by omega) (by omega), vk 9 (by omega) (by omega) (by omega) (by omega) (by omega) (by omega)]; exact ⟨rfl, rfl⟩
        · rw [v34 30 (by omega)]
          rcases h.2.2 with q | ⟨q1, q2⟩
          · exact Or.inl q
          · refine Or.inr ⟨q1, FRS_safe (m := m) ?_ ?_ ?_ (fun k a b => vk k (by omega) (by omega) (by omega) (by omega) (by omega) (by omega)) (fun j a b c => v34 j (by omega)) q2⟩
            all_goals intro d hd w hw hb
            · have q := h.1.2.2.2.2.2.2.2.2.1 d hd 0 (by omega) w (by omega) hb
              have q' : w < np := q
              rw [w36, w37, upd_ne (by omega), upd_ne (by omega)]
              exact ⟨rfl, rfl⟩
            · rw [vk 38 (by omega) (by omega) (by omega) (by omega) (by omega) (by omega), vk 39 (by omega) (by omega) (by omega) (by omega) (by omega) (by omega)]; exact ⟨rfl, rfl⟩
            · rw [vk 40 (by omega) (by omega) (by omega) (by omega) (by omega) (by omega), vk 41 (by omega) (by omega) (by omega) (by omega) (by omega) (by omega)]; exact ⟨rfl, rfl⟩
theorem CPRE_formula2 {m u : AM} {nd j : Nat} {f l : Int32} (hf : f_isSpan f l = true) (h : ∀ k, 2 ≤ k → k ≤ 12 → k ≠ 4 → k ≠ 5 → k ≠ 6 → u k = m k) (e2 : u 5 = upd (m 5) j f) (e3 : u 6 = upd (m 6) j l) (e15 : u 15 9 = m 15 9) (e26 : u 26 = m 26) (hC : CPRE m nd) : CPRE u nd := by
  obtain ⟨q1, q2, q3, q4, q5, q6, q7, q8, q9⟩ := hC
  have ew : wtm u = wtm m := by funext i; unfold wtm; rw [e26]
  have r := span_rng hf
  have key : ∀ n, (∀ i, i < n → 0 ≤ (m 5 i).toInt ∧ (m 5 i).toInt ≤ 3000 ∧ 0 ≤ (m 6 i).toInt ∧ (m 6 i).toInt ≤ 3000) → (∀ i, i < n → 0 ≤ (u 5 i).toInt ∧ (u 5 i).toInt ≤ 3000 ∧ 0 ≤ (u 6 i).toInt ∧ (u 6 i).toInt ≤ 3000) := by
    intro n hn i hi
    rw [e2, e3]
    by_cases q : i = j
    · subst q; rw [upd_eq, upd_eq]; exact ⟨r.1, r.2.1, r.2.2.1, r.2.2.2⟩
    · rw [upd_ne q, upd_ne q]; exact hn i hi
  refine ⟨q1, by rw [h 10 (by omega) (by omega) (by omega) (by omega) (by omega)]; exact q2, by rw [h 2 (by omega) (by omega) (by omega) (by omega) (by omega), h 3 (by omega) (by omega) (by omega) (by omega) (by omega)]; exact q3, key 10 q4, by rw [h 8 (by omega) (by omega) (by omega) (by omega) (by omega), h 9 (by omega) (by omega) (by omega) (by omega) (by omega)]; exact q5, by rw [h 11 (by omega) (by omega) (by omega) (by omega) (by omega), h 12 (by omega) (by omega) (by omega) (by omega) (by omega)]; exact q6, by rw [e15]; exact q7, ?_, ?_⟩
  · unfold WOK; rw [ew]; exact q8
  · rw [ew]; exact q9
theorem RE_formula2 {m u : AM} {j : Nat} {f l : Int32} (h : ∀ k, 2 ≤ k → k ≤ 12 → k ≠ 4 → k ≠ 5 → k ≠ 6 → u k = m k) (h' : ∀ k, 35 ≤ k → k ≤ 44 → k ≠ 38 → k ≠ 39 → u k = m k) (e2 : u 5 = upd (m 5) j f) (e3 : u 6 = upd (m 6) j l) (e36 : u 38 = upd (m 38) j f) (e37 : u 39 = upd (m 39) j l) (e15 : u 15 9 = m 15 9) (e26 : u 26 = m 26) (e34 : u 34 2 = m 34 2) (hR : RE m) : RE u := by
  obtain ⟨q1, q2, q3, q4, q5⟩ := hR
  have key : ∀ n, (∀ i, i < n → m 38 i = m 5 i ∧ m 39 i = m 6 i) → (∀ i, i < n → u 38 i = u 5 i ∧ u 39 i = u 6 i) := by
    intro n hn i hi
    rw [e2, e3, e36, e37]
    by_cases q : i = j
    · subst q; rw [upd_eq, upd_eq, upd_eq, upd_eq]; exact ⟨rfl, rfl⟩
    · rw [upd_ne q, upd_ne q, upd_ne q, upd_ne q]; exact hn i hi
  refine ⟨by rw [h 2 (by omega) (by omega) (by omega) (by omega) (by omega), h 3 (by omega) (by omega) (by omega) (by omega) (by omega), h' 36 (by omega) (by omega) (by omega) (by omega), h' 37 (by omega) (by omega) (by omega) (by omega)]; exact q1, key 10 q2, by rw [h 8 (by omega) (by omega) (by omega) (by omega) (by omega), h 9 (by omega) (by omega) (by omega) (by omega) (by omega), h' 40 (by omega) (by omega) (by omega) (by omega), h' 41 (by omega) (by omega) (by omega) (by omega)]; exact q3, by rw [h 11 (by omega) (by omega) (by omega) (by omega) (by omega), h 12 (by omega) (by omega) (by omega) (by omega) (by omega), h' 42 (by omega) (by omega) (by omega) (by omega), h' 43 (by omega) (by omega) (by omega) (by omega), h' 44 (by omega) (by omega) (by omega) (by omega), e26]; exact q4, by rw [e34, e15]; exact q5⟩
theorem p_formula {m : AM} (h : INV m) (f l : Int32) : PAIR kX5_formula kX6_formula [.inl f, .inl l] m := by
  obtain ⟨np, nf, ns, nd, tp, h⟩ := h
  have hnp := h.1.1
  have e1 : m 4 2 = nI nf := h.1.2.1.2.1
  have e3 : m 34 4 = nI nf := h.1.2.2.1.2.1
  have hS : isS 4 := Or.inr (Or.inl rfl)
  have hle : nf ≤ 10 := by omega
  refine ⟨AddQ m 4 nf f l, ⟨20, by decide, ?_⟩, ?_⟩
  · refine AC_of own_X5_formula (ls := [some (.inr 0), some (.inl f), some (.inl l)]) (z := 0) (Nat.le_of_ble_eq_true rfl) rfl ?_
    refine st_X5_formula_0 ?_; simp only [bX5_formula_0, exP, stP, p1, p2, pr, pobj, parr, sh0, sh1, sh2, sh3, sh4, sh5, sh6, sh7, sh8, sh9, sh10, sh11, sh12, sh13, sh14, sh15, sh16, sh17, sh18, sh19, sh20, sh21, sh22, sh23, sh24, sh25, sh26, sh27, sh28, sh29, sh30, sh31, sh32, sh33, sh34, sh35, sh36, sh37, sh38, sh39, sh40, sh41, sh42, sh43, sh44, sh45, sh46, sh47, sh48, sh49, sh50, sh51, sh52, sh53, sh54, sh55, sh56, sh57, sh58, sh59, brP, brN, swP, amask, apush, List.getElem?_cons_zero, List.getElem?_cons_succ, List.set_cons_zero, List.set_cons_succ, List.take_succ_cons, List.take_zero, List.drop_succ_cons, List.drop_zero, List.reverse_cons, List.reverse_nil, List.nil_append, List.cons_append, List.length_cons, List.length_nil, true_and, and_true, Nat.zero_le, Nat.reduceLeDiff, Nat.reduceAdd, Nat.reduceEqDiff, false_imp_iff, true_imp_iff, not_false_eq_true, not_true_eq_false, imp_self, forall_const]
    refine ⟨_, ⟨2, by decide, c_add m 4 nf hS (by show nf ≤ 10; omega) e1 f l⟩, ?_⟩
    intro z u hz
    have hz' : ∃ x, z = some x := by rcases hz with ⟨-, e, -⟩ | ⟨-, -, e, -⟩ <;> exact ⟨_, e⟩
    obtain ⟨x, rfl⟩ := hz'
    simp only [exP, stP, p1, p2, pr, pobj, parr, sh0, sh1, sh2, sh3, sh4, sh5, sh6, sh7, sh8, sh9, sh10, sh11, sh12, sh13, sh14, sh15, sh16, sh17, sh18, sh19, sh20, sh21, sh22, sh23, sh24, sh25, sh26, sh27, sh28, sh29, sh30, sh31, sh32, sh33, sh34, sh35, sh36, sh37, sh38, sh39, sh40, sh41, sh42, sh43, sh44, sh45, sh46, sh47, sh48, sh49, sh50, sh51, sh52, sh53, sh54, sh55, sh56, sh57, sh58, sh59, brP, brN, swP, amask, apush, List.getElem?_cons_zero, List.getElem?_cons_succ, List.set_cons_zero, List.set_cons_succ, List.take_succ_cons, List.take_zero, List.drop_succ_cons, List.drop_zero, List.reverse_cons, List.reverse_nil, List.nil_append, List.cons_append, List.length_cons, List.length_nil, true_and, and_true, Nat.zero_le, Nat.reduceLeDiff, Nat.reduceAdd, Nat.reduceEqDiff, false_imp_iff, true_imp_iff, not_false_eq_true, not_true_eq_false, imp_self, forall_const]
    exact ⟨Or.inl trivial, hz⟩
  · rintro r u (⟨hb, rfl, rfl⟩ | ⟨hs, hlt, rfl, rfl⟩)
    · refine ⟨fun z u => m = u ∧ z = some (-1), ⟨20, by decide, ?_⟩, ?_⟩
      · refine AC_of own_X6_formula (ls := [some (.inr 34), some (.inl f), some (.inl l)]) (z := 0) (Nat.le_of_ble_eq_true rfl) rfl ?_
        have out : AW 20 kX6_formula (fun z u => m = u ∧ z = some (-1)) 17 [none, none, none] [] m := by
          refine st_X6_formula_17 ?_; simp only [bX6_formula_17, exP, stP, p1, p2, pr, pobj, parr, sh0, sh1, sh2, sh3, sh4, sh5, sh6, sh7, sh8, sh9, sh10, sh11, sh12, sh13, sh14, sh15, sh16, sh17, sh18, sh19, sh20, sh21, sh22, sh23, sh24, sh25, sh26, sh27, sh28, sh29, sh30, sh31, sh32, sh33, sh34, sh35, sh36, sh37, sh38, sh39, sh40, sh41, sh42, sh43, sh44, sh45, sh46, sh47, sh48, sh49, sh50, sh51, sh52, sh53, sh54, sh55, sh56, sh57, sh58, sh59, brP, brN, swP, amask, apush, List.getElem?_cons_zero, List.getElem?_cons_succ, List.set_cons_zero, List.set_cons_succ, List.take_succ_cons, List.take_zero, List.drop_succ_cons, List.drop_zero, List.reverse_cons, List.reverse_nil, List.nil_append, List.cons_append, List.length_cons, List.length_nil, true_and, and_true, Nat.zero_le, Nat.reduceLeDiff, Nat.reduceAdd, Nat.reduceEqDiff, false_imp_iff, true_imp_iff, not_false_eq_true, not_true_eq_false, imp_self, forall_const]
          simp
        refine st_X6_formula_0 ?_; simp only [bX6_formula_0, exP, stP, p1, p2, pr, pobj, parr, sh0, sh1, sh2, sh3, sh4, sh5, sh6, sh7, sh8, sh9, sh10, sh11, sh12, sh13, sh14, sh15, sh16, sh17, sh18, sh19, sh20, sh21, sh22, sh23, sh24, sh25, sh26, sh27, sh28, sh29, sh30, sh31, sh32, sh33, sh34, sh35, sh36, sh37, sh38, sh39, sh40, sh41, sh42, sh43, sh44, sh45, sh46, sh47, sh48, sh49, sh50, sh51, sh52, sh53, sh54, sh55, sh56, sh57, sh58, sh59, brP, brN, swP, amask, apush, List.getElem?_cons_zero, List.getElem?_cons_succ, List.set_cons_zero, List.set_cons_succ, List.take_succ_cons, List.take_zero, List.drop_succ_cons, List.drop_zero, List.reverse_cons, List.reverse_nil, List.nil_append, List.cons_append, List.length_cons, List.length_nil, true_and, and_true, Nat.zero_le, Nat.reduceLeDiff, Nat.reduceAdd, Nat.reduceEqDiff, false_imp_iff, true_imp_iff, not_false_eq_true, not_true_eq_false, imp_self, forall_const, e3]
        refine ⟨fun _ => out, fun c => ?_⟩
        refine st_X6_formula_9 ?_; simp only [bX6_formula_9, exP, stP, p1, p2, pr, pobj, parr, sh0, sh1, sh2, sh3, sh4, sh5, sh6, sh7, sh8, sh9, sh10, sh11, sh12, sh13, sh14, sh15, sh16, sh17, sh18, sh19, sh20, sh21, sh22, sh23, sh24, sh25, sh26, sh27, sh28, sh29, sh30, sh31, sh32, sh33, sh34, sh35, sh36, sh37, sh38, sh39, sh40, sh41, sh42, sh43, sh44, sh45, sh46, sh47, sh48, sh49, sh50, sh51, sh52, sh53, sh54, sh55, sh56, sh57, sh58, sh59, brP, brN, swP, amask, apush, List.getElem?_cons_zero, List.getElem?_cons_succ, List.set_cons_zero, List.set_cons_succ, List.take_succ_cons, List.take_zero, List.drop_succ_cons, List.drop_zero, List.reverse_cons, List.reverse_nil, List.nil_append, List.cons_append, List.length_cons, List.length_nil, true_and, and_true, Nat.zero_le, Nat.reduceLeDiff, Nat.reduceAdd, Nat.reduceEqDiff, false_imp_iff, true_imp_iff, not_false_eq_true, not_true_eq_false, imp_self, forall_const]
        refine ⟨_, ⟨1, by decide, c_isSpan m _ _⟩, ?_⟩; rintro _ _ ⟨rfl, rfl⟩; simp only [exP, stP, p1, p2, pr, pobj, parr, sh0, sh1, sh2, sh3, sh4, sh5, sh6, sh7, sh8, sh9, sh10, sh11, sh12, sh13, sh14, sh15, sh16, sh17, sh18, sh19, sh20, sh21, sh22, sh23, sh24, sh25, sh26, sh27, sh28, sh29, sh30, sh31, sh32, sh33, sh34, sh35, sh36, sh37, sh38, sh39, sh40, sh41, sh42, sh43, sh44, sh45, sh46, sh47, sh48, sh49, sh50, sh51, sh52, sh53, sh54, sh55, sh56, sh57, sh58, sh59, brP, brN, swP, amask, apush, List.getElem?_cons_zero, List.getElem?_cons_succ, List.set_cons_zero, List.set_cons_succ, List.take_succ_cons, List.take_zero, List.drop_succ_cons, List.drop_zero, List.reverse_cons, List.reverse_nil, List.nil_append, List.cons_append, List.length_cons, List.length_nil, true_and, and_true, Nat.zero_le, Nat.reduceLeDiff, Nat.reduceAdd, Nat.reduceEqDiff, false_imp_iff, true_imp_iff, not_false_eq_true, not_true_eq_false, imp_self, forall_const, b01_0]
        refine ⟨fun c1 => ?_, fun _ => out⟩
        exfalso
        have a2 : f_isSpan f l = true := by simpa using c1
        have a1 : nf < lenS 4 := by
          show nf < 10
          by_cases q : nf = 10
          · exfalso; apply c; rw [q]; rfl
          · omega
        rw [a2] at hb
        simp [a1] at hb
      · rintro r' v ⟨rfl, rfl⟩
        exact ⟨⟨-1, rfl, rfl⟩, ⟨np, nf, ns, nd, tp, h⟩⟩
    · have hlt' : nf < 10 := hlt
      have vj := eq_true (vp_in_nI hlt' (show 10 < 2 ^ 31 by omega))
      have cj := nI_clamp (show nf < 2 ^ 31 by omega)
      have uk : ∀ k, k ≠ 4 → k ≠ 5 → k ≠ 6 → g_add m 4 nf f l k = m k := fun k a b c => by
        unfold g_add g_chg
        rw [aup_ne c, aup_ne b, aup_ne a]
      have u1 : g_add m 4 nf f l 4 2 = nI (nf + 1) := by
        unfold g_add g_chg
        rw [aup_ne (by omega), aup_ne (by omega), aup_eq, upd_eq]
      have u2 : g_add m 4 nf f l 5 = upd (m 5) nf f := by
        unfold g_add g_chg
        rw [aup_ne (by omega), aup_eq, aup_ne (by omega)]
      have u3 : g_add m 4 nf f l 6 = upd (m 6) nf l := by
        unfold g_add g_chg
        rw [aup_eq, aup_ne (by omega)]
      generalize g_add m 4 nf f l = u at uk u1 u2 u3 ⊢
      have e3u : u 34 4 = nI nf := by rw [uk 34 (by omega) (by omega) (by omega)]; exact e3
      have e19 : ¬ nI nf = 10 := fun q => by
        have := (nI_eq (a := nf) (b := 10) (by omega) (by omega)).mp q
        omega
      have x1 : nI nf + 1 = nI (nf + 1) := nI_1 nf
      have x2 : nI (nf + 1) - 1 = nI nf := nI_pred nf
      refine ⟨fun z v => z = some (nI nf) ∧ (∀ k, k ≠ 34 → k ≠ 38 → k ≠ 39 → v k = u k) ∧ (∀ i, i ≠ 4 → v 34 i = u 34 i) ∧ v 34 4 = nI (nf + 1) ∧ v 38 = upd (u 38) nf f ∧ v 39 = upd (u 39) nf l, ⟨20, by decide, ?_⟩, ?_⟩
      · refine AC_of own_X6_formula (ls := [some (.inr 34), some (.inl f), some (.inl l)]) (z := 0) (Nat.le_of_ble_eq_true rfl) rfl ?_
        refine st_X6_formula_0 ?_; simp only [bX6_formula_0, exP, stP, p1, p2, pr, pobj, parr, sh0, sh1, sh2, sh3, sh4, sh5, sh6, sh7, sh8, sh9, sh10, sh11, sh12, sh13, sh14, sh15, sh16, sh17, sh18, sh19, sh20, sh21, sh22, sh23, sh24, sh25, sh26, sh27, sh28, sh29, sh30, sh31, sh32, sh33, sh34, sh35, sh36, sh37, sh38, sh39, sh40, sh41, sh42, sh43, sh44, sh45, sh46, sh47, sh48, sh49, sh50, sh51, sh52, sh53, sh54, sh55, sh56, sh57, sh58, sh59, brP, brN, swP, amask, apush, List.getElem?_cons_zero, List.getElem?_cons_succ, List.set_cons_zero, List.set_cons_succ, List.take_succ_cons, List.take_zero, List.drop_succ_cons, List.drop_zero, List.reverse_cons, List.reverse_nil, List.nil_append, List.cons_append, List.length_cons, List.length_nil, true_and, and_true, Nat.zero_le, Nat.reduceLeDiff, Nat.reduceAdd, Nat.reduceEqDiff, false_imp_iff, true_imp_iff, not_false_eq_true, not_true_eq_false, imp_self, forall_const, e3u, eq_false e19]
        refine st_X6_formula_9 ?_; simp only [bX6_formula_9, exP, stP, p1, p2, pr, pobj, parr, sh0, sh1, sh2, sh3, sh4, sh5, sh6, sh7, sh8, sh9, sh10, sh11, sh12, sh13, sh14, sh15, sh16, sh17, sh18, sh19, sh20, sh21, sh22, sh23, sh24, sh25, sh26, sh27, sh28, sh29, sh30, sh31, sh32, sh33, sh34, sh35, sh36, sh37, sh38, sh39, sh40, sh41, sh42, sh43, sh44, sh45, sh46, sh47, sh48, sh49, sh50, sh51, sh52, sh53, sh54, sh55, sh56, sh57, sh58, sh59, brP, brN, swP, amask, apush, List.getElem?_cons_zero, List.getElem?_cons_succ, List.set_cons_zero, List.set_cons_succ, List.take_succ_cons, List.take_zero, List.drop_succ_cons, List.drop_zero, List.reverse_cons, List.reverse_nil, List.nil_append, List.cons_append, List.length_cons, List.length_nil, true_and, and_true, Nat.zero_le, Nat.reduceLeDiff, Nat.reduceAdd, Nat.reduceEqDiff, false_imp_iff, true_imp_iff, not_false_eq_true, not_true_eq_false, imp_self, forall_const]
        refine ⟨_, ⟨1, by decide, c_isSpan u _ _⟩, ?_⟩; rintro _ _ ⟨rfl, rfl⟩; simp only [exP, stP, p1, p2, pr, pobj, parr, sh0, sh1, sh2, sh3, sh4, sh5, sh6, sh7, sh8, sh9, sh10, sh11, sh12, sh13, sh14, sh15, sh16, sh17, sh18, sh19, sh20, sh21, sh22, sh23, sh24, sh25, sh26, sh27, sh28, sh29, sh30, sh31, sh32, sh33, sh34, sh35, sh36, sh37, sh38, sh39, sh40, sh41, sh42, sh43, sh44, sh45, sh46, sh47, sh48, sh49, sh50, sh51, sh52, sh53, sh54, sh55, sh56, sh57, sh58, sh59, brP, brN, swP, amask, apush, List.getElem?_cons_zero, List.getElem?_cons_succ, List.set_cons_zero, List.set_cons_succ, List.take_succ_cons, List.take_zero, List.drop_succ_cons, List.drop_zero, List.reverse_cons, List.reverse_nil, List.nil_append, List.cons_append, List.length_cons, List.length_nil, true_and, and_true, Nat.zero_le, Nat.reduceLeDiff, Nat.reduceAdd, Nat.reduceEqDiff, false_imp_iff, true_imp_iff, not_false_eq_true, not_true_eq_false, imp_self, forall_const, b01_0, hs, Bool.true_eq_false]
        refine st_X6_formula_19 ?_; simp only [bX6_formula_19, exP, stP, p1, p2, pr, pobj, parr, sh0, sh1, sh2, sh3, sh4, sh5, sh6, sh7, sh8, sh9, sh10, sh11, sh12, sh13, sh14, sh15, sh16, sh17, sh18, sh19, sh20, sh21, sh22, sh23, sh24, sh25, sh26, sh27, sh28, sh29, sh30, sh31, sh32, sh33, sh34, sh35, sh36, sh37, sh38, sh39, sh40, sh41, sh42, sh43, sh44, sh45, sh46, sh47, sh48, sh49, sh50, sh51, sh52, sh53, sh54, sh55, sh56, sh57, sh58, sh59, brP, brN, swP, amask, apush, List.getElem?_cons_zero, List.getElem?_cons_succ, List.set_cons_zero, List.set_cons_succ, List.take_succ_cons, List.take_zero, List.drop_succ_cons, List.drop_zero, List.reverse_cons, List.reverse_nil, List.nil_append, List.cons_append, List.length_cons, List.length_nil, true_and, and_true, Nat.zero_le, Nat.reduceLeDiff, Nat.reduceAdd, Nat.reduceEqDiff, false_imp_iff, true_imp_iff, not_false_eq_true, not_true_eq_false, imp_self, forall_const, vj, cj, e3u, x1, x2, aup_ne (show (34 : Nat) ≠ 38 by omega), aup_ne (show (34 : Nat) ≠ 39 by omega), aup_eq, upd_eq, true_or, or_true]
        refine ⟨fun k a b c => by rw [aup_ne a, aup_ne c, aup_ne b], fun i hi => by rw [upd_ne hi], by rw [aup_ne (by omega), aup_ne (by omega), aup_eq], by rw [aup_ne (by omega), aup_eq, aup_ne (by omega)]⟩
      · rintro r' v ⟨rfl, v1, v2, v3, v4, v5⟩
        have vk : ∀ k, k ≠ 4 → k ≠ 5 → k ≠ 6 → k ≠ 34 → k ≠ 38 → k ≠ 39 → v k = m k := fun k a b c d e g => by rw [v1 k d e g]; exact uk k a b c
        have v34 : ∀ i, i ≠ 4 → v 34 i = m 34 i := fun i hi => by rw [v2 i hi, uk 34 (by omega) (by omega) (by omega)]
        have w1 : v 4 2 = nI (nf + 1) := by rw [v1 4 (by omega) (by omega) (by omega)]; exact u1
        have w2 : v 5 = upd (m 5) nf f := by rw [v1 5 (by omega) (by omega) (by omega)]; exact u2
        have w3 : v 6 = upd (m 6) nf l := by rw [v1 6 (by omega) (by omega) (by omega)]; exact u3
        have w36 : v 38 = upd (m 38) nf f := by rw [v4, uk 38 (by omega) (by omega) (by omega)]
        have w37 : v 39 = upd (m 39) nf l := by rw [v5, uk 39 (by omega) (by omega) (by omega)]
        have e15 : v 15 9 = m 15 9 := by rw [vk 15 (by omega) (by omega) (by omega) (by omega) (by omega) (by omega)]
        have e26 := vk 26 (by omega) (by omega) (by omega) (by omega) (by omega) (by omega)
        have e0 := vk 0 (by omega) (by omega) (by omega) (by omega) (by omega) (by omega)
        refine ⟨⟨nI nf, rfl, rfl⟩, ⟨np, nf + 1, ns, nd, tp, ?_, ?_, ?_⟩⟩
        · refine BASE_add (m := m) ⟨by omega, by omega⟩ ⟨by omega, by omega⟩ ⟨by omega, by omega⟩ ?_ ?_ (vk 14 (by omega) (by omega) (by omega) (by omega) (by omega) (by omega)) (fun k a b => vk k (by omega) (by omega) (by omega) (by omega) (by omega) (by omega)) (vk 35 (by omega) (by omega) (by omega) (by omega) (by omega) (by omega)) (fun k a b => vk k (by omega) (by omega) (by omega) (by omega) (by omega) (by omega)) (v34 6 (by omega)) (v34 1 (by omega)) ?_ ?_ h.1
          · refine ⟨by rw [vk 1 (by omega) (by omega) (by omega) (by omega) (by omega) (by omega)]; exact h.1.2.1.1, w1, by rw [vk 7 (by omega) (by omega) (by omega) (by omega) (by omega) (by omega)]; exact h.1.2.1.2.2⟩
          · refine ⟨by rw [v34 3 (by omega)]; exact h.1.2.2.1.1, v3, by rw [v34 5 (by omega)]; exact h.1.2.2.1.2.2⟩
          · exact CPRE_formula2 hs (fun k a b c d e => vk k (by omega) (by omega) (by omega) (by omega) (by omega) (by omega)) w2 w3 e15 e26 h.1.2.2.2.1
          · exact RE_formula2 (fun k a b c d e => vk k (by omega) (by omega) (by omega) (by omega) (by omega) (by omega)) (fun k a b c d => vk k (by omega) (by omega) (by omega) (by omega) (by omega) (by omega)) w2 w3 w36 w37 e15 e26 (v34 2 (by omega)) h.re
        · rw [e0]
          rcases h.2.1 with q | ⟨q1, q2⟩
          · exact Or.inl q
          · refine Or.inr ⟨q1, CST_safe (m := m) ?_ ?_ ?_ (fun k a b => vk k (by omega) (by omega) (by omega) (by omega) (by omega) (by omega)) e0 q2⟩
            all_goals intro d hd w hw hb
            · rw [vk 2 (by omega) (by omega) (by omega) (by omega) (by omega) (by omega), vk 3 (by omega) (by omega) (by omega) (by omega) (by omega) (by omega)]; exact ⟨rfl, rfl⟩
            · have q := (mark_lt h hd (by omega) (by omega) hb).2
              have q' : w < nf := q
              rw [w2, w3, upd_ne (by omega), upd_ne (by omega)]
              exact ⟨rfl, rfl⟩
            · rw [vk 8 (by omega) (by omega) (by omega) (by omega) (by omega) (by omega), vk 9 (by omega) (by omega) (by omega) (by omega) (by omega) (by omega)]; exact ⟨rfl, rfl⟩
        · rw [v34 30 (by omega)]
          rcases h.2.2 with q | ⟨q1, q2⟩
          · exact Or.inl q
          · refine Or.inr ⟨q1, FRS_safe (m := m) ?_ ?_ ?_ (fun k a b => vk k (by omega) (by omega) (by omega) (by omega) (by omega) (by omega)) (fun j a b c => v34 j (by omega)) q2⟩
            all_goals intro d hd w hw hb
            · rw [vk 36 (by omega) (by omega) (by omega) (by omega) (by omega) (by omega), vk 37 (by omega) (by omega) (by omega) (by omega) (by omega) (by omega)]; exact ⟨rfl, rfl⟩
            · have q := h.1.2.2.2.2.2.2.2.2.1 d hd 1 (by omega) w (by omega) hb
              have q' : w < nf := q
              rw [w36, w37, upd_ne (by omega), upd_ne (by omega)]
              exact ⟨rfl, rfl⟩
            · rw [vk 40 (by omega) (by omega) (by omega) (by omega) (by omega) (by omega), vk 41 (by omega) (by omega) (by omega) (by omega) (by omega) (by omega)]; exact ⟨rfl, rfl⟩
theorem CPRE_seal2 {m u : AM} {nd j : Nat} {f l : Int32} (hf : f_isSpan f l = true) (h : ∀ k, 2 ≤ k → k ≤ 12 → k ≠ 7 → k ≠ 8 → k ≠ 9 → u k = m k) (e2 : u 8 = upd (m 8) j f) (e3 : u 9 = upd (m 9) j l) (e15 : u 15 9 = m 15 9) (e26 : u 26 = m 26) (hC : CPRE m nd) : CPRE u nd := by
  obtain ⟨q1, q2, q3, q4, q5, q6, q7, q8, q9⟩ := hC
  have ew : wtm u = wtm m := by funext i; unfold wtm; rw [e26]
  have r := span_rng hf
  have key : ∀ n, (∀ i, i < n → 0 ≤ (m 8 i).toInt ∧ (m 8 i).toInt ≤ 3000 ∧ 0 ≤ (m 9 i).toInt ∧ (m 9 i).toInt ≤ 3000) → (∀ i, i < n → 0 ≤ (u 8 i).toInt ∧ (u 8 i).toInt ≤ 3000 ∧ 0 ≤ (u 9 i).toInt ∧ (u 9 i).toInt ≤ 3000) := by
    intro n hn i hi
    rw [e2, e3]
    by_cases q : i = j
    · subst q; rw [upd_eq, upd_eq]; exact ⟨r.1, r.2.1, r.2.2.1, r.2.2.2⟩
    · rw [upd_ne q, upd_ne q]; exact hn i hi
  refine ⟨q1, by rw [h 10 (by omega) (by omega) (by omega) (by omega) (by omega)]; exact q2, by rw [h 2 (by omega) (by omega) (by omega) (by omega) (by omega), h 3 (by omega) (by omega) (by omega) (by omega) (by omega)]; exact q3, by rw [h 5 (by omega) (by omega) (by omega) (by omega) (by omega), h 6 (by omega) (by omega) (by omega) (by omega) (by omega)]; exact q4, key 8 q5, by rw [h 11 (by omega) (by omega) (by omega) (by omega) (by omega), h 12 (by omega) (by omega) (by omega) (by omega) (by omega)]; exact q6, by rw [e15]; exact q7, ?_, ?_⟩
  · unfold WOK; rw [ew]; exact q8
  · rw [ew]; exact q9
theorem RE_seal2 {m u : AM} {j : Nat} {f l : Int32} (h : ∀ k, 2 ≤ k → k ≤ 12 → k ≠ 7 → k ≠ 8 → k ≠ 9 → u k = m k) (h' : ∀ k, 35 ≤ k → k ≤ 44 → k ≠ 40 → k ≠ 41 → u k = m k) (e2 : u 8 = upd (m 8) j f) (e3 : u 9 = upd (m 9) j l) (e36 : u 40 = upd (m 40) j f) (e37 : u 41 = upd (m 41) j l) (e15 : u 15 9 = m 15 9) (e26 : u 26 = m 26) (e34 : u 34 2 = m 34 2) (hR : RE m) : RE u := by
  obtain ⟨q1, q2, q3, q4, q5⟩ := hR
  have key : ∀ n, (∀ i, i < n → m 40 i = m 8 i ∧ m 41 i = m 9 i) → (∀ i, i < n → u 40 i = u 8 i ∧ u 41 i = u 9 i) := by
    intro n hn i hi
    rw [e2, e3, e36, e37]
    by_cases q : i = j
    · subst q; rw [upd_eq, upd_eq, upd_eq, upd_eq]; exact ⟨rfl, rfl⟩
    · rw [upd_ne q, upd_ne q, upd_ne q, upd_ne q]; exact hn i hi
  refine ⟨by rw [h 2 (by omega) (by omega) (by omega) (by omega) (by omega), h 3 (by omega) (by omega) (by omega) (by omega) (by omega), h' 36 (by omega) (by omega) (by omega) (by omega), h' 37 (by omega) (by omega) (by omega) (by omega)]; exact q1, by rw [h 5 (by omega) (by omega) (by omega) (by omega) (by omega), h 6 (by omega) (by omega) (by omega) (by omega) (by omega), h' 38 (by omega) (by omega) (by omega) (by omega), h' 39 (by omega) (by omega) (by omega) (by omega)]; exact q2, key 8 q3, by rw [h 11 (by omega) (by omega) (by omega) (by omega) (by omega), h 12 (by omega) (by omega) (by omega) (by omega) (by omega), h' 42 (by omega) (by omega) (by omega) (by omega), h' 43 (by omega) (by omega) (by omega) (by omega), h' 44 (by omega) (by omega) (by omega) (by omega), e26]; exact q4, by rw [e34, e15]; exact q5⟩
theorem p_seal {m : AM} (h : INV m) (f l : Int32) : PAIR kX5_seal kX6_seal [.inl f, .inl l] m := by
  obtain ⟨np, nf, ns, nd, tp, h⟩ := h
  have hnp := h.1.1
  have e1 : m 7 2 = nI ns := h.1.2.1.2.2
  have e3 : m 34 5 = nI ns := h.1.2.2.1.2.2
  have hS : isS 7 := Or.inr (Or.inr (Or.inl rfl))
  have hle : ns ≤ 8 := by omega
  refine ⟨AddQ m 7 ns f l, ⟨20, by decide, ?_⟩, ?_⟩
  · refine AC_of own_X5_seal (ls := [some (.inr 0), some (.inl f), some (.inl l)]) (z := 0) (Nat.le_of_ble_eq_true rfl) rfl ?_
    refine st_X5_seal_0 ?_; simp only [bX5_seal_0, exP, stP, p1, p2, pr, pobj, parr, sh0, sh1, sh2, sh3, sh4, sh5, sh6, sh7, sh8, sh9, sh10, sh11, sh12, sh13, sh14, sh15, sh16, sh17, sh18, sh19, sh20, sh21, sh22, sh23, sh24, sh25, sh26, sh27, sh28, sh29, sh30, sh31, sh32, sh33, sh34, sh35, sh36, sh37, sh38, sh39, sh40, sh41, sh42, sh43, sh44, sh45, sh46, sh47, sh48, sh49, sh50, sh51, sh52, sh53, sh54, sh55, sh56, sh57, sh58, sh59, brP, brN, swP, amask, apush, List.getElem?_cons_zero, List.getElem?_cons_succ, List.set_cons_zero, List.set_cons_succ, List.take_succ_cons, List.take_zero, List.drop_succ_cons, List.drop_zero, List.reverse_cons, List.reverse_nil, List.nil_append, List.cons_append, List.length_cons, List.length_nil, true_and, and_true, Nat.zero_le, Nat.reduceLeDiff, Nat.reduceAdd, Nat.reduceEqDiff, false_imp_iff, true_imp_iff, not_false_eq_true, not_true_eq_false, imp_self, forall_const]
    refine ⟨_, ⟨2, by decide, c_add m 7 ns hS (by show ns ≤ 8; omega) e1 f l⟩, ?_⟩
    intro z u hz
    have hz' : ∃ x, z = some x := by rcases hz with ⟨-, e, -⟩ | ⟨-, -, e, -⟩ <;> exact ⟨_, e⟩
    obtain ⟨x, rfl⟩ := hz'
    simp only [exP, stP, p1, p2, pr, pobj, parr, sh0, sh1, sh2, sh3, sh4, sh5, sh6, sh7, sh8, sh9, sh10, sh11, sh12, sh13, sh14, sh15, sh16, sh17, sh18, sh19, sh20, sh21, sh22, sh23, sh24, sh25, sh26, sh27, sh28, sh29, sh30, sh31, sh32, sh33, sh34, sh35, sh36, sh37, sh38, sh39, sh40, sh41, sh42, sh43, sh44, sh45, sh46, sh47, sh48, sh49, sh50, sh51, sh52, sh53, sh54, sh55, sh56, sh57, sh58, sh59, brP, brN, swP, amask, apush, List.getElem?_cons_zero, List.getElem?_cons_succ, List.set_cons_zero, List.set_cons_succ, List.take_succ_cons, List.take_zero, List.drop_succ_cons, List.drop_zero, List.reverse_cons, List.reverse_nil, List.nil_append, List.cons_append, List.length_cons, List.length_nil, true_and, and_true, Nat.zero_le, Nat.reduceLeDiff, Nat.reduceAdd, Nat.reduceEqDiff, false_imp_iff, true_imp_iff, not_false_eq_true, not_true_eq_false, imp_self, forall_const]
    exact ⟨Or.inl trivial, hz⟩
  · rintro r u (⟨hb, rfl, rfl⟩ | ⟨hs, hlt, rfl, rfl⟩)
    · refine ⟨fun z u => m = u ∧ z = some (-1), ⟨20, by decide, ?_⟩, ?_⟩
      · refine AC_of own_X6_seal (ls := [some (.inr 34), some (.inl f), some (.inl l)]) (z := 0) (Nat.le_of_ble_eq_true rfl) rfl ?_
        have out : AW 20 kX6_seal (fun z u => m = u ∧ z = some (-1)) 17 [none, none, none] [] m := by
          refine st_X6_seal_17 ?_; simp only [bX6_seal_17, exP, stP, p1, p2, pr, pobj, parr, sh0, sh1, sh2, sh3, sh4, sh5, sh6, sh7, sh8, sh9, sh10, sh11, sh12, sh13, sh14, sh15, sh16, sh17, sh18, sh19, sh20, sh21, sh22, sh23, sh24, sh25, sh26, sh27, sh28, sh29, sh30, sh31, sh32, sh33, sh34, sh35, sh36, sh37, sh38, sh39, sh40, sh41, sh42, sh43, sh44, sh45, sh46, sh47, sh48, sh49, sh50, sh51, sh52, sh53, sh54, sh55, sh56, sh57, sh58, sh59, brP, brN, swP, amask, apush, List.getElem?_cons_zero, List.getElem?_cons_succ, List.set_cons_zero, List.set_cons_succ, List.take_succ_cons, List.take_zero, List.drop_succ_cons, List.drop_zero, List.reverse_cons, List.reverse_nil, List.nil_append, List.cons_append, List.length_cons, List.length_nil, true_and, and_true, Nat.zero_le, Nat.reduceLeDiff, Nat.reduceAdd, Nat.reduceEqDiff, false_imp_iff, true_imp_iff, not_false_eq_true, not_true_eq_false, imp_self, forall_const]
          simp
        refine st_X6_seal_0 ?_; simp only [bX6_seal_0, exP, stP, p1, p2, pr, pobj, parr, sh0, sh1, sh2, sh3, sh4, sh5, sh6, sh7, sh8, sh9, sh10, sh11, sh12, sh13, sh14, sh15, sh16, sh17, sh18, sh19, sh20, sh21, sh22, sh23, sh24, sh25, sh26, sh27, sh28, sh29, sh30, sh31, sh32, sh33, sh34, sh35, sh36, sh37, sh38, sh39, sh40, sh41, sh42, sh43, sh44, sh45, sh46, sh47, sh48, sh49, sh50, sh51, sh52, sh53, sh54, sh55, sh56, sh57, sh58, sh59, brP, brN, swP, amask, apush, List.getElem?_cons_zero, List.getElem?_cons_succ, List.set_cons_zero, List.set_cons_succ, List.take_succ_cons, List.take_zero, List.drop_succ_cons, List.drop_zero, List.reverse_cons, List.reverse_nil, List.nil_append, List.cons_append, List.length_cons, List.length_nil, true_and, and_true, Nat.zero_le, Nat.reduceLeDiff, Nat.reduceAdd, Nat.reduceEqDiff, false_imp_iff, true_imp_iff, not_false_eq_true, not_true_eq_false, imp_self, forall_const, e3]
        refine ⟨fun _ => out, fun c => ?_⟩
        refine st_X6_seal_9 ?_; simp only [bX6_seal_9, exP, stP, p1, p2, pr, pobj, parr, sh0, sh1, sh2, sh3, sh4, sh5, sh6, sh7, sh8, sh9, sh10, sh11, sh12, sh13, sh14, sh15, sh16, sh17, sh18, sh19, sh20, sh21, sh22, sh23, sh24, sh25, sh26, sh27, sh28, sh29, sh30, sh31, sh32, sh33, sh34, sh35, sh36, sh37, sh38, sh39, sh40, sh41, sh42, sh43, sh44, sh45, sh46, sh47, sh48, sh49, sh50, sh51, sh52, sh53, sh54, sh55, sh56, sh57, sh58, sh59, brP, brN, swP, amask, apush, List.getElem?_cons_zero, List.getElem?_cons_succ, List.set_cons_zero, List.set_cons_succ, List.take_succ_cons, List.take_zero, List.drop_succ_cons, List.drop_zero, List.reverse_cons, List.reverse_nil, List.nil_append, List.cons_append, List.length_cons, List.length_nil, true_and, and_true, Nat.zero_le, Nat.reduceLeDiff, Nat.reduceAdd, Nat.reduceEqDiff, false_imp_iff, true_imp_iff, not_false_eq_true, not_true_eq_false, imp_self, forall_const]
        refine ⟨_, ⟨1, by decide, c_isSpan m _ _⟩, ?_⟩; rintro _ _ ⟨rfl, rfl⟩; simp only [exP, stP, p1, p2, pr, pobj, parr, sh0, sh1, sh2, sh3, sh4, sh5, sh6, sh7, sh8, sh9, sh10, sh11, sh12, sh13, sh14, sh15, sh16, sh17, sh18, sh19, sh20, sh21, sh22, sh23, sh24, sh25, sh26, sh27, sh28, sh29, sh30, sh31, sh32, sh33, sh34, sh35, sh36, sh37, sh38, sh39, sh40, sh41, sh42, sh43, sh44, sh45, sh46, sh47, sh48, sh49, sh50, sh51, sh52, sh53, sh54, sh55, sh56, sh57, sh58, sh59, brP, brN, swP, amask, apush, List.getElem?_cons_zero, List.getElem?_cons_succ, List.set_cons_zero, List.set_cons_succ, List.take_succ_cons, List.take_zero, List.drop_succ_cons, List.drop_zero, List.reverse_cons, List.reverse_nil, List.nil_append, List.cons_append, List.length_cons, List.length_nil, true_and, and_true, Nat.zero_le, Nat.reduceLeDiff, Nat.reduceAdd, Nat.reduceEqDiff, false_imp_iff, true_imp_iff, not_false_eq_true, not_true_eq_false, imp_self, forall_const, b01_0]
        refine ⟨fun c1 => ?_, fun _ => out⟩
        exfalso
        have a2 : f_isSpan f l = true := by simpa using c1
        have a1 : ns < lenS 7 := by
          show ns < 8
          by_cases q : ns = 8
          · exfalso; apply c; rw [q]; rfl
          · omega
        rw [a2] at hb
        simp [a1] at hb
      · rintro r' v ⟨rfl, rfl⟩
        exact ⟨⟨-1, rfl, rfl⟩, ⟨np, nf, ns, nd, tp, h⟩⟩
    · have hlt' : ns < 8 := hlt
      have vj := eq_true (vp_in_nI hlt' (show 8 < 2 ^ 31 by omega))
      have cj := nI_clamp (show ns < 2 ^ 31 by omega)
      have uk : ∀ k, k ≠ 7 → k ≠ 8 → k ≠ 9 → g_add m 7 ns f l k = m k := fun k a b c => by
        unfold g_add g_chg
        rw [aup_ne c, aup_ne b, aup_ne a]
      have u1 : g_add m 7 ns f l 7 2 = nI (ns + 1) := by
        unfold g_add g_chg
        rw [aup_ne (by omega), aup_ne (by omega), aup_eq, upd_eq]
      have u2 : g_add m 7 ns f l 8 = upd (m 8) ns f := by
        unfold g_add g_chg
        rw [aup_ne (by omega), aup_eq, aup_ne (by omega)]
      have u3 : g_add m 7 ns f l 9 = upd (m 9) ns l := by
        unfold g_add g_chg
        rw [aup_eq, aup_ne (by omega)]
      generalize g_add m 7 ns f l = u at uk u1 u2 u3 ⊢
      have e3u : u 34 5 = nI ns := by rw [uk 34 (by omega) (by omega) (by omega)]; exact e3
      have e19 : ¬ nI ns = 8 := fun q => by
        have := (nI_eq (a := ns) (b := 8) (by omega) (by omega)).mp q
        omega
      have x1 : nI ns + 1 = nI (ns + 1) := nI_1 ns
      have x2 : nI (ns + 1) - 1 = nI ns := nI_pred ns
      refine ⟨fun z v => z = some (nI ns) ∧ (∀ k, k ≠ 34 → k ≠ 40 → k ≠ 41 → v k = u k) ∧ (∀ i, i ≠ 5 → v 34 i = u 34 i) ∧ v 34 5 = nI (ns + 1) ∧ v 40 = upd (u 40) ns f ∧ v 41 = upd (u 41) ns l, ⟨20, by decide, ?_⟩, ?_⟩
      · refine AC_of own_X6_seal (ls := [some (.inr 34), some (.inl f), some (.inl l)]) (z := 0) (Nat.le_of_ble_eq_true rfl) rfl ?_
        refine st_X6_seal_0 ?_; simp only [bX6_seal_0, exP, stP, p1, p2, pr, pobj, parr, sh0, sh1, sh2, sh3, sh4, sh5, sh6, sh7, sh8, sh9, sh10, sh11, sh12, sh13, sh14, sh15, sh16, sh17, sh18, sh19, sh20, sh21, sh22, sh23, sh24, sh25, sh26, sh27, sh28, sh29, sh30, sh31, sh32, sh33, sh34, sh35, sh36, sh37, sh38, sh39, sh40, sh41, sh42, sh43, sh44, sh45, sh46, sh47, sh48, sh49, sh50, sh51, sh52, sh53, sh54, sh55, sh56, sh57, sh58, sh59, brP, brN, swP, amask, apush, List.getElem?_cons_zero, List.getElem?_cons_succ, List.set_cons_zero, List.set_cons_succ, List.take_succ_cons, List.take_zero, List.drop_succ_cons, List.drop_zero, List.reverse_cons, List.reverse_nil, List.nil_append, List.cons_append, List.length_cons, List.length_nil, true_and, and_true, Nat.zero_le, Nat.reduceLeDiff, Nat.reduceAdd, Nat.reduceEqDiff, false_imp_iff, true_imp_iff, not_false_eq_true, not_true_eq_false, imp_self, forall_const, e3u, eq_false e19]
        refine st_X6_seal_9 ?_; simp only [bX6_seal_9, exP, stP, p1, p2, pr, pobj, parr, sh0, sh1, sh2, sh3, sh4, sh5, sh6, sh7, sh8, sh9, sh10, sh11, sh12, sh13, sh14, sh15, sh16, sh17, sh18, sh19, sh20, sh21, sh22, sh23, sh24, sh25, sh26, sh27, sh28, sh29, sh30, sh31, sh32, sh33, sh34, sh35, sh36, sh37, sh38, sh39, sh40, sh41, sh42, sh43, sh44, sh45, sh46, sh47, sh48, sh49, sh50, sh51, sh52, sh53, sh54, sh55, sh56, sh57, sh58, sh59, brP, brN, swP, amask, apush, List.getElem?_cons_zero, List.getElem?_cons_succ, List.set_cons_zero, List.set_cons_succ, List.take_succ_cons, List.take_zero, List.drop_succ_cons, List.drop_zero, List.reverse_cons, List.reverse_nil, List.nil_append, List.cons_append, List.length_cons, List.length_nil, true_and, and_true, Nat.zero_le, Nat.reduceLeDiff, Nat.reduceAdd, Nat.reduceEqDiff, false_imp_iff, true_imp_iff, not_false_eq_true, not_true_eq_false, imp_self, forall_const]
        refine ⟨_, ⟨1, by decide, c_isSpan u _ _⟩, ?_⟩; rintro _ _ ⟨rfl, rfl⟩; simp only [exP, stP, p1, p2, pr, pobj, parr, sh0, sh1, sh2, sh3, sh4, sh5, sh6, sh7, sh8, sh9, sh10, sh11, sh12, sh13, sh14, sh15, sh16, sh17, sh18, sh19, sh20, sh21, sh22, sh23, sh24, sh25, sh26, sh27, sh28, sh29, sh30, sh31, sh32, sh33, sh34, sh35, sh36, sh37, sh38, sh39, sh40, sh41, sh42, sh43, sh44, sh45, sh46, sh47, sh48, sh49, sh50, sh51, sh52, sh53, sh54, sh55, sh56, sh57, sh58, sh59, brP, brN, swP, amask, apush, List.getElem?_cons_zero, List.getElem?_cons_succ, List.set_cons_zero, List.set_cons_succ, List.take_succ_cons, List.take_zero, List.drop_succ_cons, List.drop_zero, List.reverse_cons, List.reverse_nil, List.nil_append, List.cons_append, List.length_cons, List.length_nil, true_and, and_true, Nat.zero_le, Nat.reduceLeDiff, Nat.reduceAdd, Nat.reduceEqDiff, false_imp_iff, true_imp_iff, not_false_eq_true, not_true_eq_false, imp_self, forall_const, b01_0, hs, Bool.true_eq_false]
        refine st_X6_seal_19 ?_; simp only [bX6_seal_19, exP, stP, p1, p2, pr, pobj, parr, sh0, sh1, sh2, sh3, sh4, sh5, sh6, sh7, sh8, sh9, sh10, sh11, sh12, sh13, sh14, sh15, sh16, sh17, sh18, sh19, sh20, sh21, sh22, sh23, sh24, sh25, sh26, sh27, sh28, sh29, sh30, sh31, sh32, sh33, sh34, sh35, sh36, sh37, sh38, sh39, sh40, sh41, sh42, sh43, sh44, sh45, sh46, sh47, sh48, sh49, sh50, sh51, sh52, sh53, sh54, sh55, sh56, sh57, sh58, sh59, brP, brN, swP, amask, apush, List.getElem?_cons_zero, List.getElem?_cons_succ, List.set_cons_zero, List.set_cons_succ, List.take_succ_cons, List.take_zero, List.drop_succ_cons, List.drop_zero, List.reverse_cons, List.reverse_nil, List.nil_append, List.cons_append, List.length_cons, List.length_nil, true_and, and_true, Nat.zero_le, Nat.reduceLeDiff, Nat.reduceAdd, Nat.reduceEqDiff, false_imp_iff, true_imp_iff, not_false_eq_true, not_true_eq_false, imp_self, forall_const, vj, cj, e3u, x1, x2, aup_ne (show (34 : Nat) ≠ 40 by omega), aup_ne (show (34 : Nat) ≠ 41 by omega), aup_eq, upd_eq, true_or, or_true]
        refine ⟨fun k a b c => by rw [aup_ne a, aup_ne c, aup_ne b], fun i hi => by rw [upd_ne hi], by rw [aup_ne (by omega), aup_ne (by omega), aup_eq], by rw [aup_ne (by omega), aup_eq, aup_ne (by omega)]⟩
      · rintro r' v ⟨rfl, v1, v2, v3, v4, v5⟩
        have vk : ∀ k, k ≠ 7 → k ≠ 8 → k ≠ 9 → k ≠ 34 → k ≠ 40 → k ≠ 41 → v k = m k := fun k a b c d e g => by rw [v1 k d e g]; exact uk k a b c
        have v34 : ∀ i, i ≠ 5 → v 34 i = m 34 i := fun i hi => by rw [v2 i hi, uk 34 (by omega) (by omega) (by omega)]
        have w1 : v 7 2 = nI (ns + 1) := by rw [v1 7 (by omega) (by omega) (by omega)]; exact u1
        have w2 : v 8 = upd (m 8) ns f := by rw [v1 8 (by omega) (by omega) (by omega)]; exact u2
        have w3 : v 9 = upd (m 9) ns l := by rw [v1 9 (by omega) (by omega) (by omega)]; exact u3
        have w36 : v 40 = upd (m 40) ns f := by rw [v4, uk 40 (by omega) (by omega) (by omega)]
        have w37 : v 41 = upd (m 41) ns l := by rw [v5, uk 41 (by omega) (by omega) (by omega)]
        have e15 : v 15 9 = m 15 9 := by rw [vk 15 (by omega) (by omega) (by omega) (by omega) (by omega) (by omega)]
        have e26 := vk 26 (by omega) (by omega) (by omega) (by omega) (by omega) (by omega)
        have e0 := vk 0 (by omega) (by omega) (by omega) (by omega) (by omega) (by omega)
        refine ⟨⟨nI ns, rfl, rfl⟩, ⟨np, nf, ns + 1, nd, tp, ?_, ?_, ?_⟩⟩
        · refine BASE_add (m := m) ⟨by omega, by omega⟩ ⟨by omega, by omega⟩ ⟨by omega, by omega⟩ ?_ ?_ (vk 14 (by omega) (by omega) (by omega) (by omega) (by omega) (by omega)) (fun k a b => vk k (by omega) (by omega) (by omega) (by omega) (by omega) (by omega)) (vk 35 (by omega) (by omega) (by omega) (by omega) (by omega) (by omega)) (fun k a b => vk k (by omega) (by omega) (by omega) (by omega) (by omega) (by omega)) (v34 6 (by omega)) (v34 1 (by omega)) ?_ ?_ h.1
          · refine ⟨by rw [vk 1 (by omega) (by omega) (by omega) (by omega) (by omega) (by omega)]; exact h.1.2.1.1, by rw [vk 4 (by omega) (by omega) (by omega) (by omega) (by omega) (by omega)]; exact h.1.2.1.2.1, w1⟩
          · refine ⟨by rw [v34 3 (by omega)]; exact h.1.2.2.1.1, by rw [v34 4 (by omega)]; exact h.1.2.2.1.2.1, v3⟩
          · exact CPRE_seal2 hs (fun k a b c d e => vk k (by omega) (by omega) (by omega) (by omega) (by omega) (by omega)) w2 w3 e15 e26 h.1.2.2.2.1
          · exact RE_seal2 (fun k a b c d e => vk k (by omega) (by omega) (by omega) (by omega) (by omega) (by omega)) (fun k a b c d => vk k (by omega) (by omega) (by omega) (by omega) (by omega) (by omega)) w2 w3 w36 w37 e15 e26 (v34 2 (by omega)) h.re
        · rw [e0]
          rcases h.2.1 with q | ⟨q1, q2⟩
          · exact Or.inl q
          · refine Or.inr ⟨q1, CST_safe (m := m) ?_ ?_ ?_ (fun k a b => vk k (by omega) (by omega) (by omega) (by omega) (by omega) (by omega)) e0 q2⟩
            all_goals intro d hd w hw hb
            · rw [vk 2 (by omega) (by omega) (by omega) (by omega) (by omega) (by omega), vk 3 (by omega) (by omega) (by omega) (by omega) (by omega) (by omega)]; exact ⟨rfl, rfl⟩
            · rw [vk 5 (by omega) (by omega) (by omega) (by omega) (by omega) (by omega), vk 6 (by omega) (by omega) (by omega) (by omega) (by omega) (by omega)]; exact ⟨rfl, rfl⟩
            · have q := (mark_lt h hd (by omega) (by omega) hb).2
              have q' : w < ns := q
              rw [w2, w3, upd_ne (by omega), upd_ne (by omega)]
              exact ⟨rfl, rfl⟩
        · rw [v34 30 (by omega)]
          rcases h.2.2 with q | ⟨q1, q2⟩
          · exact Or.inl q
          · refine Or.inr ⟨q1, FRS_safe (m := m) ?_ ?_ ?_ (fun k a b => vk k (by omega) (by omega) (by omega) (by omega) (by omega) (by omega)) (fun j a b c => v34 j (by omega)) q2⟩
            all_goals intro d hd w hw hb
            · rw [vk 36 (by omega) (by omega) (by omega) (by omega) (by omega) (by omega), vk 37 (by omega) (by omega) (by omega) (by omega) (by omega) (by omega)]; exact ⟨rfl, rfl⟩
            · rw [vk 38 (by omega) (by omega) (by omega) (by omega) (by omega) (by omega), vk 39 (by omega) (by omega) (by omega) (by omega) (by omega) (by omega)]; exact ⟨rfl, rfl⟩
            · have q := h.1.2.2.2.2.2.2.2.2.1 d hd 2 (by omega) w (by omega) hb
              have q' : w < ns := q
              rw [w36, w37, upd_ne (by omega), upd_ne (by omega)]
              exact ⟨rfl, rfl⟩
