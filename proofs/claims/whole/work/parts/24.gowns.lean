/-! ===== the reference: owns ===== -/
def FR (m u : AM) : Prop := ∀ k, k ≠ 53 → k ≠ 54 → k ≠ 55 → k ≠ 56 → u k = m k
theorem FR_hmn {m u : AM} (h : FR m u) (d n k w : Nat) : hmn u d n k w ↔ hmn m d n k w := by
  show (∃ i, i < n ∧ u 46 (8 * d + i) = nI k ∧ u 47 (8 * d + i) = nI w) ↔ (∃ i, i < n ∧ m 46 (8 * d + i) = nI k ∧ m 47 (8 * d + i) = nI w)
  rw [h 46 (by omega) (by omega) (by omega) (by omega), h 47 (by omega) (by omega) (by omega) (by omega)]
theorem FR_mk {m u : AM} (h : FR m u) (d : Nat) : mk u d = mk m d := by
  show (u 45 d).toNatClampNeg = (m 45 d).toNatClampNeg
  rw [h 45 (by omega) (by omega) (by omega) (by omega)]
theorem FR_hm {m u : AM} (h : FR m u) (d k w : Nat) : hm u d k w ↔ hm m d k w := by
  show hmn u d (u 45 d).toNatClampNeg k w ↔ hmn m d (m 45 d).toNatClampNeg k w
  rw [h 45 (by omega) (by omega) (by omega) (by omega), (FR_hmn h)]
theorem FR_mok {m u : AM} (h : FR m u) {nd : Nat} (hM : MOK m nd) : MOK u nd := by
  obtain ⟨h1, h2, h3⟩ := hM
  refine ⟨h1, by rw [h 34 (by omega) (by omega) (by omega) (by omega)]; exact h2, fun d hd => ?_⟩
  rw [(FR_mk h), h 45 (by omega) (by omega) (by omega) (by omega), h 46 (by omega) (by omega) (by omega) (by omega), h 47 (by omega) (by omega) (by omega) (by omega)]
  exact h3 d hd
/-- what owns leaves of deed d -/
def OWN (m u : AM) (nd d : Nat) : Prop := isMax (lowS m d (mk m d)) (u 53 d).toInt ∧ isMin (hiS m d (mk m d)) (u 54 d).toInt ∧ ∀ e, e < nd → ((u 55 (12 * d + e) ≠ 0 ↔ ∃ h, h < 8 ∧ hm m d 3 h ∧ hm m e 3 h) ∧ (u 56 (12 * d + e) ≠ 0 ↔ hm m d 4 e))
def OWQ (m : AM) (nd : Nat) : APost := fun z u => z = none ∧ FR m u ∧ ∀ d, d < nd → OWN m u nd d
theorem nar_b01 (b : Bool) : vp_nar .boolean (b01 b) = b01 b := by cases b <;> rfl
theorem w_own_h (m : AM) (nd : Nat) (hM : MOK m nd) (d e : Nat) (hd : d < nd) (he : e < nd) (u : AM) (hF : FR m u)
    (kk : ∀ r : Bool, (r = true ↔ ∃ h, h < 8 ∧ hm m d 3 h ∧ hm m e 3 h) → AW 2 kX6_owns (OWQ m nd) 207 [some (.inr 34), some (.inl (nI d)), some (.inl (nI e)), some (.inl (b01 r)), none] [] u) :
    ∀ (n j : Nat) (r : Bool), j + n = 8 → (r = true ↔ ∃ h, h < j ∧ hm m d 3 h ∧ hm m e 3 h) → AW 2 kX6_owns (OWQ m nd) 162 [some (.inr 34), some (.inl (nI d)), some (.inl (nI e)), some (.inl (b01 r)), some (.inl (nI j))] [] u
  | 0, j, r, h, hr => by
    obtain rfl : j = 8 := by omega
    refine st_X6_owns_162 ?_; simp only [bX6_owns_162, exP, stP, p1, p2, pr, pobj, parr, sh0, sh1, sh2, sh3, sh4, sh5, sh6, sh7, sh8, sh9, sh10, sh11, sh12, sh13, sh14, sh15, sh16, sh17, sh18, sh19, sh20, sh21, sh22, sh23, sh24, sh25, sh26, sh27, sh28, sh29, sh30, sh31, sh32, sh33, sh34, sh35, sh36, sh37, sh38, sh39, sh40, sh41, sh42, sh43, sh44, sh45, sh46, sh47, sh48, sh49, sh50, sh51, sh52, sh53, sh54, sh55, sh56, sh57, sh58, sh59, brP, brN, swP, amask, apush, List.getElem?_cons_zero, List.getElem?_cons_succ, List.set_cons_zero, List.set_cons_succ, List.take_succ_cons, List.take_zero, List.drop_succ_cons, List.drop_zero, List.reverse_cons, List.reverse_nil, List.nil_append, List.cons_append, List.length_cons, List.length_nil, true_and, and_true, Nat.zero_le, Nat.reduceLeDiff, Nat.reduceAdd, Nat.reduceEqDiff, false_imp_iff, true_imp_iff, not_false_eq_true, not_true_eq_false, imp_self, forall_const, lit_le (k := 8) (n := 8) (by omega) (by omega)]
    exact kk r hr
  | n + 1, j, r, h, hr => by
    have hMu := FR_mok hF hM
    have next : ∀ r' : Bool, (r' = true ↔ ∃ h, h < j + 1 ∧ hm m d 3 h ∧ hm m e 3 h) → AW 2 kX6_owns (OWQ m nd) 200 [some (.inr 34), some (.inl (nI d)), some (.inl (nI e)), none, some (.inl (nI j))] [.inl (b01 r')] u := by
      intro r' hr'
      refine st_X6_owns_200 ?_; simp only [bX6_owns_200, exP, stP, p1, p2, pr, pobj, parr, sh0, sh1, sh2, sh3, sh4, sh5, sh6, sh7, sh8, sh9, sh10, sh11, sh12, sh13, sh14, sh15, sh16, sh17, sh18, sh19, sh20, sh21, sh22, sh23, sh24, sh25, sh26, sh27, sh28, sh29, sh30, sh31, sh32, sh33, sh34, sh35, sh36, sh37, sh38, sh39, sh40, sh41, sh42, sh43, sh44, sh45, sh46, sh47, sh48, sh49, sh50, sh51, sh52, sh53, sh54, sh55, sh56, sh57, sh58, sh59, brP, brN, swP, amask, apush, List.getElem?_cons_zero, List.getElem?_cons_succ, List.set_cons_zero, List.set_cons_succ, List.take_succ_cons, List.take_zero, List.drop_succ_cons, List.drop_zero, List.reverse_cons, List.reverse_nil, List.nil_append, List.cons_append, List.length_cons, List.length_nil, true_and, and_true, Nat.zero_le, Nat.reduceLeDiff, Nat.reduceAdd, Nat.reduceEqDiff, false_imp_iff, true_imp_iff, not_false_eq_true, not_true_eq_false, imp_self, forall_const]
      rw [nI_1]
      exact w_own_h m nd hM d e hd he u hF kk n (j + 1) r' (by omega) hr'
    have no : r = false → ¬ (hm m d 3 j ∧ hm m e 3 j) → AW 2 kX6_owns (OWQ m nd) 199 [some (.inr 34), some (.inl (nI d)), some (.inl (nI e)), none, some (.inl (nI j))] [] u := by
      intro h0 h1
      refine st_X6_owns_199 ?_; simp only [bX6_owns_199, exP, stP, p1, p2, pr, pobj, parr, sh0, sh1, sh2, sh3, sh4, sh5, sh6, sh7, sh8, sh9, sh10, sh11, sh12, sh13, sh14, sh15, sh16, sh17, sh18, sh19, sh20, sh21, sh22, sh23, sh24, sh25, sh26, sh27, sh28, sh29, sh30, sh31, sh32, sh33, sh34, sh35, sh36, sh37, sh38, sh39, sh40, sh41, sh42, sh43, sh44, sh45, sh46, sh47, sh48, sh49, sh50, sh51, sh52, sh53, sh54, sh55, sh56, sh57, sh58, sh59, brP, brN, swP, amask, apush, List.getElem?_cons_zero, List.getElem?_cons_succ, List.set_cons_zero, List.set_cons_succ, List.take_succ_cons, List.take_zero, List.drop_succ_cons, List.drop_zero, List.reverse_cons, List.reverse_nil, List.nil_append, List.cons_append, List.length_cons, List.length_nil, true_and, and_true, Nat.zero_le, Nat.reduceLeDiff, Nat.reduceAdd, Nat.reduceEqDiff, false_imp_iff, true_imp_iff, not_false_eq_true, not_true_eq_false, imp_self, forall_const]
      refine next false ⟨fun q => absurd q (by decide), ?_⟩
      rintro ⟨i, hi, hh⟩
      by_cases q : i = j
      · subst q; exact absurd hh h1
      · have := hr.mpr ⟨i, by omega, hh⟩
        rw [h0] at this; exact this
    have yes : (r = true ∨ (hm m d 3 j ∧ hm m e 3 j)) → AW 2 kX6_owns (OWQ m nd) 195 [some (.inr 34), some (.inl (nI d)), some (.inl (nI e)), none, some (.inl (nI j))] [] u := by
      intro h1
      refine st_X6_owns_195 ?_; simp only [bX6_owns_195, exP, stP, p1, p2, pr, pobj, parr, sh0, sh1, sh2, sh3, sh4, sh5, sh6, sh7, sh8, sh9, sh10, sh11, sh12, sh13, sh14, sh15, sh16, sh17, sh18, sh19, sh20, sh21, sh22, sh23, sh24, sh25, sh26, sh27, sh28, sh29, sh30, sh31, sh32, sh33, sh34, sh35, sh36, sh37, sh38, sh39, sh40, sh41, sh42, sh43, sh44, sh45, sh46, sh47, sh48, sh49, sh50, sh51, sh52, sh53, sh54, sh55, sh56, sh57, sh58, sh59, brP, brN, swP, amask, apush, List.getElem?_cons_zero, List.getElem?_cons_succ, List.set_cons_zero, List.set_cons_succ, List.take_succ_cons, List.take_zero, List.drop_succ_cons, List.drop_zero, List.reverse_cons, List.reverse_nil, List.nil_append, List.cons_append, List.length_cons, List.length_nil, true_and, and_true, Nat.zero_le, Nat.reduceLeDiff, Nat.reduceAdd, Nat.reduceEqDiff, false_imp_iff, true_imp_iff, not_false_eq_true, not_true_eq_false, imp_self, forall_const]
      refine next true ⟨fun _ => ?_, fun _ => rfl⟩
      rcases h1 with h1 | h1
      · obtain ⟨i, hi, hh⟩ := hr.mp h1
        exact ⟨i, by omega, hh⟩
      · exact ⟨j, by omega, h1⟩
    refine st_X6_owns_162 ?_; simp only [bX6_owns_162, exP, stP, p1, p2, pr, pobj, parr, sh0, sh1, sh2, sh3, sh4, sh5, sh6, sh7, sh8, sh9, sh10, sh11, sh12, sh13, sh14, sh15, sh16, sh17, sh18, sh19, sh20, sh21, sh22, sh23, sh24, sh25, sh26, sh27, sh28, sh29, sh30, sh31, sh32, sh33, sh34, sh35, sh36, sh37, sh38, sh39, sh40, sh41, sh42, sh43, sh44, sh45, sh46, sh47, sh48, sh49, sh50, sh51, sh52, sh53, sh54, sh55, sh56, sh57, sh58, sh59, brP, brN, swP, amask, apush, List.getElem?_cons_zero, List.getElem?_cons_succ, List.set_cons_zero, List.set_cons_succ, List.take_succ_cons, List.take_zero, List.drop_succ_cons, List.drop_zero, List.reverse_cons, List.reverse_nil, List.nil_append, List.cons_append, List.length_cons, List.length_nil, true_and, and_true, Nat.zero_le, Nat.reduceLeDiff, Nat.reduceAdd, Nat.reduceEqDiff, false_imp_iff, true_imp_iff, not_false_eq_true, not_true_eq_false, imp_self, forall_const, lit_nle (k := 8) (n := j) (by omega) (by omega)]
    refine st_X6_owns_169 ?_; simp only [bX6_owns_169, exP, stP, p1, p2, pr, pobj, parr, sh0, sh1, sh2, sh3, sh4, sh5, sh6, sh7, sh8, sh9, sh10, sh11, sh12, sh13, sh14, sh15, sh16, sh17, sh18, sh19, sh20, sh21, sh22, sh23, sh24, sh25, sh26, sh27, sh28, sh29, sh30, sh31, sh32, sh33, sh34, sh35, sh36, sh37, sh38, sh39, sh40, sh41, sh42, sh43, sh44, sh45, sh46, sh47, sh48, sh49, sh50, sh51, sh52, sh53, sh54, sh55, sh56, sh57, sh58, sh59, brP, brN, swP, amask, apush, List.getElem?_cons_zero, List.getElem?_cons_succ, List.set_cons_zero, List.set_cons_succ, List.take_succ_cons, List.take_zero, List.drop_succ_cons, List.drop_zero, List.reverse_cons, List.reverse_nil, List.nil_append, List.cons_append, List.length_cons, List.length_nil, true_and, and_true, Nat.zero_le, Nat.reduceLeDiff, Nat.reduceAdd, Nat.reduceEqDiff, false_imp_iff, true_imp_iff, not_false_eq_true, not_true_eq_false, imp_self, forall_const, b01_0]
    refine ⟨fun c => yes (Or.inl (by simpa using c)), fun c => ?_⟩
    refine st_X6_owns_173 ?_; simp only [bX6_owns_173, exP, stP, p1, p2, pr, pobj, parr, sh0, sh1, sh2, sh3, sh4, sh5, sh6, sh7, sh8, sh9, sh10, sh11, sh12, sh13, sh14, sh15, sh16, sh17, sh18, sh19, sh20, sh21, sh22, sh23, sh24, sh25, sh26, sh27, sh28, sh29, sh30, sh31, sh32, sh33, sh34, sh35, sh36, sh37, sh38, sh39, sh40, sh41, sh42, sh43, sh44, sh45, sh46, sh47, sh48, sh49, sh50, sh51, sh52, sh53, sh54, sh55, sh56, sh57, sh58, sh59, brP, brN, swP, amask, apush, List.getElem?_cons_zero, List.getElem?_cons_succ, List.set_cons_zero, List.set_cons_succ, List.take_succ_cons, List.take_zero, List.drop_succ_cons, List.drop_zero, List.reverse_cons, List.reverse_nil, List.nil_append, List.cons_append, List.length_cons, List.length_nil, true_and, and_true, Nat.zero_le, Nat.reduceLeDiff, Nat.reduceAdd, Nat.reduceEqDiff, false_imp_iff, true_imp_iff, not_false_eq_true, not_true_eq_false, imp_self, forall_const]
    refine ⟨_, ⟨0, by decide, c_hasMark u nd hMu d 3 j hd (by omega) (by omega)⟩, ?_⟩
    rintro z v ⟨rfl, q1, rfl, hq1⟩
    rw [(FR_hm hF)] at hq1
    simp only [exP, stP, p1, p2, pr, pobj, parr, sh0, sh1, sh2, sh3, sh4, sh5, sh6, sh7, sh8, sh9, sh10, sh11, sh12, sh13, sh14, sh15, sh16, sh17, sh18, sh19, sh20, sh21, sh22, sh23, sh24, sh25, sh26, sh27, sh28, sh29, sh30, sh31, sh32, sh33, sh34, sh35, sh36, sh37, sh38, sh39, sh40, sh41, sh42, sh43, sh44, sh45, sh46, sh47, sh48, sh49, sh50, sh51, sh52, sh53, sh54, sh55, sh56, sh57, sh58, sh59, brP, brN, swP, amask, apush, List.getElem?_cons_zero, List.getElem?_cons_succ, List.set_cons_zero, List.set_cons_succ, List.take_succ_cons, List.take_zero, List.drop_succ_cons, List.drop_zero, List.reverse_cons, List.reverse_nil, List.nil_append, List.cons_append, List.length_cons, List.length_nil, true_and, and_true, Nat.zero_le, Nat.reduceLeDiff, Nat.reduceAdd, Nat.reduceEqDiff, false_imp_iff, true_imp_iff, not_false_eq_true, not_true_eq_false, imp_self, forall_const, b01_0]
    refine ⟨fun c1 => no c (fun q => by rw [hq1.mpr q.1] at c1; cases c1), fun c1 => ?_⟩
    have c1' : q1 = true := by simpa using c1
    refine st_X6_owns_184 ?_; simp only [bX6_owns_184, exP, stP, p1, p2, pr, pobj, parr, sh0, sh1, sh2, sh3, sh4, sh5, sh6, sh7, sh8, sh9, sh10, sh11, sh12, sh13, sh14, sh15, sh16, sh17, sh18, sh19, sh20, sh21, sh22, sh23, sh24, sh25, sh26, sh27, sh28, sh29, sh30, sh31, sh32, sh33, sh34, sh35, sh36, sh37, sh38, sh39, sh40, sh41, sh42, sh43, sh44, sh45, sh46, sh47, sh48, sh49, sh50, sh51, sh52, sh53, sh54, sh55, sh56, sh57, sh58, sh59, brP, brN, swP, amask, apush, List.getElem?_cons_zero, List.getElem?_cons_succ, List.set_cons_zero, List.set_cons_succ, List.take_succ_cons, List.take_zero, List.drop_succ_cons, List.drop_zero, List.reverse_cons, List.reverse_nil, List.nil_append, List.cons_append, List.length_cons, List.length_nil, true_and, and_true, Nat.zero_le, Nat.reduceLeDiff, Nat.reduceAdd, Nat.reduceEqDiff, false_imp_iff, true_imp_iff, not_false_eq_true, not_true_eq_false, imp_self, forall_const]
    refine ⟨_, ⟨0, by decide, c_hasMark u nd hMu e 3 j he (by omega) (by omega)⟩, ?_⟩
    rintro z v ⟨rfl, q2, rfl, hq2⟩
    rw [(FR_hm hF)] at hq2
    simp only [exP, stP, p1, p2, pr, pobj, parr, sh0, sh1, sh2, sh3, sh4, sh5, sh6, sh7, sh8, sh9, sh10, sh11, sh12, sh13, sh14, sh15, sh16, sh17, sh18, sh19, sh20, sh21, sh22, sh23, sh24, sh25, sh26, sh27, sh28, sh29, sh30, sh31, sh32, sh33, sh34, sh35, sh36, sh37, sh38, sh39, sh40, sh41, sh42, sh43, sh44, sh45, sh46, sh47, sh48, sh49, sh50, sh51, sh52, sh53, sh54, sh55, sh56, sh57, sh58, sh59, brP, brN, swP, amask, apush, List.getElem?_cons_zero, List.getElem?_cons_succ, List.set_cons_zero, List.set_cons_succ, List.take_succ_cons, List.take_zero, List.drop_succ_cons, List.drop_zero, List.reverse_cons, List.reverse_nil, List.nil_append, List.cons_append, List.length_cons, List.length_nil, true_and, and_true, Nat.zero_le, Nat.reduceLeDiff, Nat.reduceAdd, Nat.reduceEqDiff, false_imp_iff, true_imp_iff, not_false_eq_true, not_true_eq_false, imp_self, forall_const, b01_0]
    refine ⟨fun c2 => no c (fun q => by rw [hq2.mpr q.2] at c2; cases c2), fun c2 => ?_⟩
    have c2' : q2 = true := by simpa using c2
    exact yes (Or.inr ⟨hq1.mp c1', hq2.mp c2'⟩)
theorem w_own_e (m : AM) (nd : Nat) (hM : MOK m nd) (d : Nat) (hd : d < nd)
    (kk : ∀ u, FR m u → (∀ d', d' < d + 1 → OWN m u nd d') → AW 2 kX6_owns (OWQ m nd) 243 [some (.inr 34), some (.inl (nI d)), none, none, none] [] u) :
    ∀ (n j : Nat) (u : AM), j + n = nd → FR m u → (∀ d', d' < d → OWN m u nd d') → isMax (lowS m d (mk m d)) (u 53 d).toInt → isMin (hiS m d (mk m d)) (u 54 d).toInt → (∀ e, e < j → ((u 55 (12 * d + e) ≠ 0 ↔ ∃ h, h < 8 ∧ hm m d 3 h ∧ hm m e 3 h) ∧ (u 56 (12 * d + e) ≠ 0 ↔ hm m d 4 e))) → AW 2 kX6_owns (OWQ m nd) 149 [some (.inr 34), some (.inl (nI d)), some (.inl (nI j)), none, none] [] u
  | 0, j, u, h, hF, h1, h2, h3, h4 => by
    obtain rfl : j = nd := by omega
    have hnd := hM.1
    have hn : u 34 6 = nI j := by rw [hF 34 (by omega) (by omega) (by omega) (by omega)]; exact hM.2.1
    refine st_X6_owns_149 ?_; simp only [bX6_owns_149, exP, stP, p1, p2, pr, pobj, parr, sh0, sh1, sh2, sh3, sh4, sh5, sh6, sh7, sh8, sh9, sh10, sh11, sh12, sh13, sh14, sh15, sh16, sh17, sh18, sh19, sh20, sh21, sh22, sh23, sh24, sh25, sh26, sh27, sh28, sh29, sh30, sh31, sh32, sh33, sh34, sh35, sh36, sh37, sh38, sh39, sh40, sh41, sh42, sh43, sh44, sh45, sh46, sh47, sh48, sh49, sh50, sh51, sh52, sh53, sh54, sh55, sh56, sh57, sh58, sh59, brP, brN, swP, amask, apush, List.getElem?_cons_zero, List.getElem?_cons_succ, List.set_cons_zero, List.set_cons_succ, List.take_succ_cons, List.take_zero, List.drop_succ_cons, List.drop_zero, List.reverse_cons, List.reverse_nil, List.nil_append, List.cons_append, List.length_cons, List.length_nil, true_and, and_true, Nat.zero_le, Nat.reduceLeDiff, Nat.reduceAdd, Nat.reduceEqDiff, false_imp_iff, true_imp_iff, not_false_eq_true, not_true_eq_false, imp_self, forall_const, hn, eq_true (nI_le (Nat.le_refl j) (show j < 2 ^ 31 by omega))]
    refine kk u hF (fun d' hd' => ?_)
    by_cases q : d' = d
    · subst q; exact ⟨h2, h3, h4⟩
    · exact h1 d' (by omega)
  | n + 1, j, u, h, hF, h1, h2, h3, h4 => by
    have hnd := hM.1
    have hn : u 34 6 = nI nd := by rw [hF 34 (by omega) (by omega) (by omega) (by omega)]; exact hM.2.1
    have vx := eq_true (vp_in_nI (show 12 * d + j < 144 by omega) (show 144 < 2 ^ 31 by omega))
    have cx := nI_clamp (show 12 * d + j < 2 ^ 31 by omega)
    refine st_X6_owns_149 ?_; simp only [bX6_owns_149, exP, stP, p1, p2, pr, pobj, parr, sh0, sh1, sh2, sh3, sh4, sh5, sh6, sh7, sh8, sh9, sh10, sh11, sh12, sh13, sh14, sh15, sh16, sh17, sh18, sh19, sh20, sh21, sh22, sh23, sh24, sh25, sh26, sh27, sh28, sh29, sh30, sh31, sh32, sh33, sh34, sh35, sh36, sh37, sh38, sh39, sh40, sh41, sh42, sh43, sh44, sh45, sh46, sh47, sh48, sh49, sh50, sh51, sh52, sh53, sh54, sh55, sh56, sh57, sh58, sh59, brP, brN, swP, amask, apush, List.getElem?_cons_zero, List.getElem?_cons_succ, List.set_cons_zero, List.set_cons_succ, List.take_succ_cons, List.take_zero, List.drop_succ_cons, List.drop_zero, List.reverse_cons, List.reverse_nil, List.nil_append, List.cons_append, List.length_cons, List.length_nil, true_and, and_true, Nat.zero_le, Nat.reduceLeDiff, Nat.reduceAdd, Nat.reduceEqDiff, false_imp_iff, true_imp_iff, not_false_eq_true, not_true_eq_false, imp_self, forall_const, hn, eq_false (nI_ge (show j < nd by omega) (show nd < 2 ^ 31 by omega))]
    refine st_X6_owns_157 ?_; simp only [bX6_owns_157, exP, stP, p1, p2, pr, pobj, parr, sh0, sh1, sh2, sh3, sh4, sh5, sh6, sh7, sh8, sh9, sh10, sh11, sh12, sh13, sh14, sh15, sh16, sh17, sh18, sh19, sh20, sh21, sh22, sh23, sh24, sh25, sh26, sh27, sh28, sh29, sh30, sh31, sh32, sh33, sh34, sh35, sh36, sh37, sh38, sh39, sh40, sh41, sh42, sh43, sh44, sh45, sh46, sh47, sh48, sh49, sh50, sh51, sh52, sh53, sh54, sh55, sh56, sh57, sh58, sh59, brP, brN, swP, amask, apush, List.getElem?_cons_zero, List.getElem?_cons_succ, List.set_cons_zero, List.set_cons_succ, List.take_succ_cons, List.take_zero, List.drop_succ_cons, List.drop_zero, List.reverse_cons, List.reverse_nil, List.nil_append, List.cons_append, List.length_cons, List.length_nil, true_and, and_true, Nat.zero_le, Nat.reduceLeDiff, Nat.reduceAdd, Nat.reduceEqDiff, false_imp_iff, true_imp_iff, not_false_eq_true, not_true_eq_false, imp_self, forall_const]
    refine w_own_h m nd hM d j hd (by omega) u hF (fun r hr => ?_) 8 0 false rfl ⟨fun q => absurd q (by decide), by rintro ⟨i, hi, -⟩; omega⟩
    refine st_X6_owns_207 ?_; simp only [bX6_owns_207, exP, stP, p1, p2, pr, pobj, parr, sh0, sh1, sh2, sh3, sh4, sh5, sh6, sh7, sh8, sh9, sh10, sh11, sh12, sh13, sh14, sh15, sh16, sh17, sh18, sh19, sh20, sh21, sh22, sh23, sh24, sh25, sh26, sh27, sh28, sh29, sh30, sh31, sh32, sh33, sh34, sh35, sh36, sh37, sh38, sh39, sh40, sh41, sh42, sh43, sh44, sh45, sh46, sh47, sh48, sh49, sh50, sh51, sh52, sh53, sh54, sh55, sh56, sh57, sh58, sh59, brP, brN, swP, amask, apush, List.getElem?_cons_zero, List.getElem?_cons_succ, List.set_cons_zero, List.set_cons_succ, List.take_succ_cons, List.take_zero, List.drop_succ_cons, List.drop_zero, List.reverse_cons, List.reverse_nil, List.nil_append, List.cons_append, List.length_cons, List.length_nil, true_and, and_true, Nat.zero_le, Nat.reduceLeDiff, Nat.reduceAdd, Nat.reduceEqDiff, false_imp_iff, true_imp_iff, not_false_eq_true, not_true_eq_false, imp_self, forall_const, nI_12, vx, cx, nar_b01, true_or, or_true]
    have hF1 : FR m (aup u 55 (upd (u 55) (12 * d + j) (b01 r))) := fun k k1 k2 k3 k4 => by rw [aup_ne k3]; exact hF k k1 k2 k3 k4
    refine ⟨_, ⟨0, by decide, c_hasMark _ nd (FR_mok hF1 hM) d 4 j hd (by omega) (by omega)⟩, ?_⟩
    rintro z v ⟨rfl, q1, rfl, hq1⟩
    rw [(FR_hm hF1)] at hq1
    simp only [exP, stP, p1, p2, pr, pobj, parr, sh0, sh1, sh2, sh3, sh4, sh5, sh6, sh7, sh8, sh9, sh10, sh11, sh12, sh13, sh14, sh15, sh16, sh17, sh18, sh19, sh20, sh21, sh22, sh23, sh24, sh25, sh26, sh27, sh28, sh29, sh30, sh31, sh32, sh33, sh34, sh35, sh36, sh37, sh38, sh39, sh40, sh41, sh42, sh43, sh44, sh45, sh46, sh47, sh48, sh49, sh50, sh51, sh52, sh53, sh54, sh55, sh56, sh57, sh58, sh59, brP, brN, swP, amask, apush, List.getElem?_cons_zero, List.getElem?_cons_succ, List.set_cons_zero, List.set_cons_succ, List.take_succ_cons, List.take_zero, List.drop_succ_cons, List.drop_zero, List.reverse_cons, List.reverse_nil, List.nil_append, List.cons_append, List.length_cons, List.length_nil, true_and, and_true, Nat.zero_le, Nat.reduceLeDiff, Nat.reduceAdd, Nat.reduceEqDiff, false_imp_iff, true_imp_iff, not_false_eq_true, not_true_eq_false, imp_self, forall_const, nI_12, vx, cx, nar_b01, true_or, or_true]
    rw [nI_1]
    have r53 : (aup (aup u 55 (upd (u 55) (12 * d + j) (b01 r))) 56 (upd (aup u 55 (upd (u 55) (12 * d + j) (b01 r)) 56) (12 * d + j) (b01 q1))) 53 = u 53 := by rw [aup_ne (by omega), aup_ne (by omega)]
    have r54 : (aup (aup u 55 (upd (u 55) (12 * d + j) (b01 r))) 56 (upd (aup u 55 (upd (u 55) (12 * d + j) (b01 r)) 56) (12 * d + j) (b01 q1))) 54 = u 54 := by rw [aup_ne (by omega), aup_ne (by omega)]
    have r55 : (aup (aup u 55 (upd (u 55) (12 * d + j) (b01 r))) 56 (upd (aup u 55 (upd (u 55) (12 * d + j) (b01 r)) 56) (12 * d + j) (b01 q1))) 55 = upd (u 55) (12 * d + j) (b01 r) := by rw [aup_ne (by omega), aup_eq]
    have r56 : (aup (aup u 55 (upd (u 55) (12 * d + j) (b01 r))) 56 (upd (aup u 55 (upd (u 55) (12 * d + j) (b01 r)) 56) (12 * d + j) (b01 q1))) 56 = upd (u 56) (12 * d + j) (b01 q1) := by rw [aup_eq, aup_ne (by omega)]
    have hF2 : FR m (aup (aup u 55 (upd (u 55) (12 * d + j) (b01 r))) 56 (upd (aup u 55 (upd (u 55) (12 * d + j) (b01 r)) 56) (12 * d + j) (b01 q1))) := fun k k1 k2 k3 k4 => by rw [aup_ne k4]; exact hF1 k k1 k2 k3 k4
    generalize aup (aup u 55 (upd (u 55) (12 * d + j) (b01 r))) 56 (upd (aup u 55 (upd (u 55) (12 * d + j) (b01 r)) 56) (12 * d + j) (b01 q1)) = v at r53 r54 r55 r56 hF2 ⊢
    refine w_own_e m nd hM d hd kk n (j + 1) v (by omega) hF2 (fun d' hd' => ?_) (by rw [r53]; exact h2) (by rw [r54]; exact h3) (fun e he => ?_)
    · obtain ⟨a1, a2, a3⟩ := h1 d' hd'
      refine ⟨by rw [r53]; exact a1, by rw [r54]; exact a2, fun e he => ?_⟩
      rw [r55, r56, upd_ne (by omega), upd_ne (by omega)]
      exact a3 e he
    · rw [r55, r56]
      by_cases q : e = j
      · subst q
        rw [upd_eq, upd_eq]
        refine ⟨?_, ?_⟩
        · rw [← hr]
          cases r <;> simp [b01]
        · rw [← hq1]
          cases q1 <;> simp [b01]
      · rw [upd_ne (by omega), upd_ne (by omega)]
        exact h4 e (by omega)
