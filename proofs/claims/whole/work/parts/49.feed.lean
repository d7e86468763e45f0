/-! ===== pairs: feed ===== -/
theorem BASE_text {m u : AM} {np nf ns nd tp tp' : Nat} (htp : tp' ≤ 40) (h : ∀ k, k ≠ 27 → k ≠ 28 → k ≠ 29 → k ≠ 30 → k ≠ 34 → k ≠ 35 → k ≠ 48 → k ≠ 49 → u k = m k) (e34 : ∀ j, j ≠ 1 → u 34 j = m 34 j) (ht : u 27 3 = nI tp' ∧ u 34 1 = nI tp' ∧ ∀ i, i < 40 → u 28 i = u 35 i &&& 255 ∧ u 35 i = (u 28 i).toInt8.toInt32) (hw : ∀ d, d < 12 → ∃ n, n ≤ 20 ∧ u 30 d = nI n ∧ u 48 d = nI n ∧ (nd ≤ d → n = 0) ∧ ∀ i, i < n → u 29 (20 * d + i) = u 49 (20 * d + i)) (hB : BASE m np nf ns nd tp) : BASE u np nf ns nd tp' := by
  have a : ∀ k, 1 ≤ k → k ≤ 26 → u k = m k := fun k k1 k2 => h k (by omega) (by omega) (by omega) (by omega) (by omega) (by omega) (by omega) (by omega)
  have b : ∀ k, 31 ≤ k → k ≤ 33 → u k = m k := fun k k1 k2 => h k (by omega) (by omega) (by omega) (by omega) (by omega) (by omega) (by omega) (by omega)
  have c : ∀ k, 36 ≤ k → k ≤ 47 → u k = m k := fun k k1 k2 => h k (by omega) (by omega) (by omega) (by omega) (by omega) (by omega) (by omega) (by omega)
  have d' : ∀ k, 50 ≤ k → k ≤ 52 → u k = m k := fun k k1 k2 => h k (by omega) (by omega) (by omega) (by omega) (by omega) (by omega) (by omega) (by omega)
  have em : ∀ d, mk u d = mk m d := fun d => by unfold mk; rw [c 45 (by omega) (by omega)]
  have eh : ∀ d n k w, hmn u d n k w = hmn m d n k w := fun d n k w => by unfold hmn; rw [c 46 (by omega) (by omega), c 47 (by omega) (by omega)]
  have ehm : ∀ d k w, hm u d k w = hm m d k w := fun d k w => by unfold hm; rw [em, eh]
  have es : ∀ d n, sumBC u d n = sumBC m d n := fun d n => by
    induction n with
    | zero => rfl
    | succ n ih => unfold sumBC; rw [ih, a 14 (by omega) (by omega)]
  have ew : wtm u = wtm m := by funext i; unfold wtm; rw [a 26 (by omega) (by omega)]
  unfold BASE
  unfold BASE at hB
  obtain ⟨g1, g2, g3, g4, g5, g6, g7, g8, g9, g10, g11, g12, g13⟩ := hB
  refine ⟨⟨g1.1, g1.2.1, g1.2.2.1, htp⟩, ?_, ?_, ?_, ?_, ?_, ?_, ?_, ?_, ?_, ht, hw, ?_⟩
  · rw [a 1 (by omega) (by omega), a 4 (by omega) (by omega), a 7 (by omega) (by omega)]; exact g2
  · rw [e34 3 (by omega), e34 4 (by omega), e34 5 (by omega)]; exact g3
  · unfold CPRE WOK at g4 ⊢
    rw [ew, a 2 (by omega) (by omega), a 3 (by omega) (by omega), a 5 (by omega) (by omega), a 6 (by omega) (by omega), a 8 (by omega) (by omega), a 9 (by omega) (by omega), a 10 (by omega) (by omega), a 11 (by omega) (by omega), a 12 (by omega) (by omega), a 15 (by omega) (by omega)]
    exact g4
  · exact MOK_congr (e34 6 (by omega)) (c 45 (by omega) (by omega)) (c 46 (by omega) (by omega)) (c 47 (by omega) (by omega)) g5
  · unfold MB
    simp only [ehm]
    rw [a 14 (by omega) (by omega)]
    exact g6
  · unfold RE at g7 ⊢
    rw [a 2 (by omega) (by omega), a 3 (by omega) (by omega), a 5 (by omega) (by omega), a 6 (by omega) (by omega), a 8 (by omega) (by omega), a 9 (by omega) (by omega), a 11 (by omega) (by omega), a 12 (by omega) (by omega), a 26 (by omega) (by omega), c 36 (by omega) (by omega), c 37 (by omega) (by omega), c 38 (by omega) (by omega), c 39 (by omega) (by omega), c 40 (by omega) (by omega), c 41 (by omega) (by omega), c 42 (by omega) (by omega), c 43 (by omega) (by omega), c 44 (by omega) (by omega), e34 2 (by omega), a 15 (by omega) (by omega)]
    exact g7
  · simp only [es, em]; exact g8
  · simp only [ehm]; exact g9
  · rw [a 14 (by omega) (by omega), c 45 (by omega) (by omega)]; exact g10
  · rw [b 31 (by omega) (by omega), b 32 (by omega) (by omega), b 33 (by omega) (by omega), d' 50 (by omega) (by omega), d' 51 (by omega) (by omega), d' 52 (by omega) (by omega)]; exact g13
theorem FRS_text {m u : AM} {nd : Nat} (h : ∀ k, 36 ≤ k → k ≤ 47 → u k = m k) (h' : ∀ k, 53 ≤ k → k ≤ 59 → u k = m k) (hz : ∀ j, j ≠ 1 → u 34 j = m 34 j) (hF : FRS m nd) : FRS u nd := by
  obtain ⟨h1, h2, h3, h4, h5⟩ := hF
  have eF : gF u = gF m := by funext d; unfold gF; rw [h' 53 (by omega) (by omega)]
  have eL : gL u = gL m := by funext d; unfold gL; rw [h' 54 (by omega) (by omega)]
  have eC : gC u = gC m := by funext a b; unfold gC; rw [h' 55 (by omega) (by omega), h' 56 (by omega) (by omega), hz 2 (by omega)]
  have eW : wtg u = wtg m := by funext d; unfold wtg; rw [h 44 (by omega) (by omega)]
  unfold FRS
  rw [eF, eL, eC, eW, hz 32 (by omega), hz 33 (by omega), h' 57 (by omega) (by omega), h' 58 (by omega) (by omega), h' 59 (by omega) (by omega)]
  refine ⟨fun d hd => OWN_cast (h1 d hd) h (fun k k1 k2 => h' k k1 (by omega)), ?_, h3, h4, h5⟩
  unfold GW at h2 ⊢
  rw [eF, eL, hz 6 (by omega), hz 2 (by omega), h' 55 (by omega) (by omega)]
  exact h2
theorem INV_text {m u : AM} {np nf ns nd tp tp' : Nat} (htp : tp' ≤ 40) (h : ∀ k, k ≠ 27 → k ≠ 28 → k ≠ 29 → k ≠ 30 → k ≠ 34 → k ≠ 35 → k ≠ 48 → k ≠ 49 → u k = m k) (e34 : ∀ j, j ≠ 1 → u 34 j = m 34 j) (ht : u 27 3 = nI tp' ∧ u 34 1 = nI tp' ∧ ∀ i, i < 40 → u 28 i = u 35 i &&& 255 ∧ u 35 i = (u 28 i).toInt8.toInt32) (hw : ∀ d, d < 12 → ∃ n, n ≤ 20 ∧ u 30 d = nI n ∧ u 48 d = nI n ∧ (nd ≤ d → n = 0) ∧ ∀ i, i < n → u 29 (20 * d + i) = u 49 (20 * d + i)) (hI : INVn m np nf ns nd tp) : INVn u np nf ns nd tp' := by
  obtain ⟨hB, hc, hf⟩ := hI
  refine ⟨BASE_text htp h e34 ht hw hB, ?_, ?_⟩
  · rw [h 0 (by omega) (by omega) (by omega) (by omega) (by omega) (by omega) (by omega) (by omega)]
    exact hc.imp id (fun q => ⟨q.1, CST_congr (fun k hk => h k (by omega) (by omega) (by omega) (by omega) (by omega) (by omega) (by omega) (by omega)) q.2⟩)
  · rw [e34 30 (by omega)]
    exact hf.imp id (fun q => ⟨q.1, FRS_text (fun k k1 k2 => h k (by omega) (by omega) (by omega) (by omega) (by omega) (by omega) (by omega) (by omega)) (fun k k1 k2 => h k (by omega) (by omega) (by omega) (by omega) (by omega) (by omega) (by omega) (by omega)) e34 q.2⟩)
/-! a shift that goes down by eight -/
def shD (l : Nat) : Int32 := nI (8 * l) + (-8)
theorem shD_succ (l : Nat) : shD (l + 1) = nI (8 * l) := by
  unfold shD
  rw [show 8 * (l + 1) = 8 * l + 8 by omega, ← nI_add, Int32.add_assoc, show nI 8 + (-8 : Int32) = 0 from by decide, Int32.add_zero]
def PB (x : Int32) (t l : Nat) (u v : AM) : Prop := (∀ k, k ≠ 27 → k ≠ 28 → v k = u k) ∧ v 27 3 = nI (t + l) ∧ (∀ i, i < t ∨ t + l ≤ i → v 28 i = u 28 i) ∧ ∀ i, i < l → v 28 (t + i) = ush x (nI (8 * (l - 1 - i))) &&& 255
theorem w_putBytes (Q : APost) (x : Int32) : ∀ (l t : Nat) (u : AM), l ≤ 4 → u 27 3 = nI t → t + l ≤ 40 → (∀ v, PB x t l u v → Q none v) → AW 1 kX4_putBytes Q 3 [some (.inr 27), some (.inl x), some (.inl (shD l))] [] u
  | 0, t, u, _, hu, ht, hQ => by
    refine st_X4_putBytes_3 ?_; simp only [bX4_putBytes_3, exP, stP, p1, p2, pr, pobj, parr, sh0, sh1, sh2, sh3, sh4, sh5, sh6, sh7, sh8, sh9, sh10, sh11, sh12, sh13, sh14, sh15, sh16, sh17, sh18, sh19, sh20, sh21, sh22, sh23, sh24, sh25, sh26, sh27, sh28, sh29, sh30, sh31, sh32, sh33, sh34, sh35, sh36, sh37, sh38, sh39, sh40, sh41, sh42, sh43, sh44, sh45, sh46, sh47, sh48, sh49, sh50, sh51, sh52, sh53, sh54, sh55, sh56, sh57, sh58, sh59, brP, brN, swP, amask, apush, List.getElem?_cons_zero, List.getElem?_cons_succ, List.set_cons_zero, List.set_cons_succ, List.take_succ_cons, List.take_zero, List.drop_succ_cons, List.drop_zero, List.reverse_cons, List.reverse_nil, List.nil_append, List.cons_append, List.length_cons, List.length_nil, true_and, and_true, Nat.zero_le, Nat.reduceLeDiff, Nat.reduceAdd, Nat.reduceEqDiff, false_imp_iff, true_imp_iff, not_false_eq_true, not_true_eq_false, imp_self, forall_const, show (shD 0 < 0) = True from eq_true (by decide)]
    refine st_X4_putBytes_55 ?_; simp only [bX4_putBytes_55, exP, stP, p1, p2, pr, pobj, parr, sh0, sh1, sh2, sh3, sh4, sh5, sh6, sh7, sh8, sh9, sh10, sh11, sh12, sh13, sh14, sh15, sh16, sh17, sh18, sh19, sh20, sh21, sh22, sh23, sh24, sh25, sh26, sh27, sh28, sh29, sh30, sh31, sh32, sh33, sh34, sh35, sh36, sh37, sh38, sh39, sh40, sh41, sh42, sh43, sh44, sh45, sh46, sh47, sh48, sh49, sh50, sh51, sh52, sh53, sh54, sh55, sh56, sh57, sh58, sh59, brP, brN, swP, amask, apush, List.getElem?_cons_zero, List.getElem?_cons_succ, List.set_cons_zero, List.set_cons_succ, List.take_succ_cons, List.take_zero, List.drop_succ_cons, List.drop_zero, List.reverse_cons, List.reverse_nil, List.nil_append, List.cons_append, List.length_cons, List.length_nil, true_and, and_true, Nat.zero_le, Nat.reduceLeDiff, Nat.reduceAdd, Nat.reduceEqDiff, false_imp_iff, true_imp_iff, not_false_eq_true, not_true_eq_false, imp_self, forall_const]
    exact hQ u ⟨fun _ _ _ => rfl, hu, fun _ _ => rfl, fun i hi => by omega⟩
  | l + 1, t, u, hl, hu, ht, hQ => by
    have vt := eq_true (vp_in_nI (show t < 40 by omega) (show 40 < 2 ^ 31 by omega))
    have ct := nI_clamp (show t < 2 ^ 31 by omega)
    rw [shD_succ]
    refine st_X4_putBytes_3 ?_; simp only [bX4_putBytes_3, exP, stP, p1, p2, pr, pobj, parr, sh0, sh1, sh2, sh3, sh4, sh5, sh6, sh7, sh8, sh9, sh10, sh11, sh12, sh13, sh14, sh15, sh16, sh17, sh18, sh19, sh20, sh21, sh22, sh23, sh24, sh25, sh26, sh27, sh28, sh29, sh30, sh31, sh32, sh33, sh34, sh35, sh36, sh37, sh38, sh39, sh40, sh41, sh42, sh43, sh44, sh45, sh46, sh47, sh48, sh49, sh50, sh51, sh52, sh53, sh54, sh55, sh56, sh57, sh58, sh59, brP, brN, swP, amask, apush, List.getElem?_cons_zero, List.getElem?_cons_succ, List.set_cons_zero, List.set_cons_succ, List.take_succ_cons, List.take_zero, List.drop_succ_cons, List.drop_zero, List.reverse_cons, List.reverse_nil, List.nil_append, List.cons_append, List.length_cons, List.length_nil, true_and, and_true, Nat.zero_le, Nat.reduceLeDiff, Nat.reduceAdd, Nat.reduceEqDiff, false_imp_iff, true_imp_iff, not_false_eq_true, not_true_eq_false, imp_self, forall_const, nI_lt0 (show 8 * l < 2147483648 by omega)]
    refine st_X4_putBytes_7 ?_; simp only [bX4_putBytes_7, exP, stP, p1, p2, pr, pobj, parr, sh0, sh1, sh2, sh3, sh4, sh5, sh6, sh7, sh8, sh9, sh10, sh11, sh12, sh13, sh14, sh15, sh16, sh17, sh18, sh19, sh20, sh21, sh22, sh23, sh24, sh25, sh26, sh27, sh28, sh29, sh30, sh31, sh32, sh33, sh34, sh35, sh36, sh37, sh38, sh39, sh40, sh41, sh42, sh43, sh44, sh45, sh46, sh47, sh48, sh49, sh50, sh51, sh52, sh53, sh54, sh55, sh56, sh57, sh58, sh59, brP, brN, swP, amask, apush, List.getElem?_cons_zero, List.getElem?_cons_succ, List.set_cons_zero, List.set_cons_succ, List.take_succ_cons, List.take_zero, List.drop_succ_cons, List.drop_zero, List.reverse_cons, List.reverse_nil, List.nil_append, List.cons_append, List.length_cons, List.length_nil, true_and, and_true, Nat.zero_le, Nat.reduceLeDiff, Nat.reduceAdd, Nat.reduceEqDiff, false_imp_iff, true_imp_iff, not_false_eq_true, not_true_eq_false, imp_self, forall_const, hu, nI_lt0 (show t < 2147483648 by omega)]
    refine st_X4_putBytes_14 ?_; simp only [bX4_putBytes_14, exP, stP, p1, p2, pr, pobj, parr, sh0, sh1, sh2, sh3, sh4, sh5, sh6, sh7, sh8, sh9, sh10, sh11, sh12, sh13, sh14, sh15, sh16, sh17, sh18, sh19, sh20, sh21, sh22, sh23, sh24, sh25, sh26, sh27, sh28, sh29, sh30, sh31, sh32, sh33, sh34, sh35, sh36, sh37, sh38, sh39, sh40, sh41, sh42, sh43, sh44, sh45, sh46, sh47, sh48, sh49, sh50, sh51, sh52, sh53, sh54, sh55, sh56, sh57, sh58, sh59, brP, brN, swP, amask, apush, List.getElem?_cons_zero, List.getElem?_cons_succ, List.set_cons_zero, List.set_cons_succ, List.take_succ_cons, List.take_zero, List.drop_succ_cons, List.drop_zero, List.reverse_cons, List.reverse_nil, List.nil_append, List.cons_append, List.length_cons, List.length_nil, true_and, and_true, Nat.zero_le, Nat.reduceLeDiff, Nat.reduceAdd, Nat.reduceEqDiff, false_imp_iff, true_imp_iff, not_false_eq_true, not_true_eq_false, imp_self, forall_const, hu, lit_nle (k := 40) (n := t) (by omega) (by omega)]
    refine st_X4_putBytes_23 ?_; simp only [bX4_putBytes_23, exP, stP, p1, p2, pr, pobj, parr, sh0, sh1, sh2, sh3, sh4, sh5, sh6, sh7, sh8, sh9, sh10, sh11, sh12, sh13, sh14, sh15, sh16, sh17, sh18, sh19, sh20, sh21, sh22, sh23, sh24, sh25, sh26, sh27, sh28, sh29, sh30, sh31, sh32, sh33, sh34, sh35, sh36, sh37, sh38, sh39, sh40, sh41, sh42, sh43, sh44, sh45, sh46, sh47, sh48, sh49, sh50, sh51, sh52, sh53, sh54, sh55, sh56, sh57, sh58, sh59, brP, brN, swP, amask, apush, List.getElem?_cons_zero, List.getElem?_cons_succ, List.set_cons_zero, List.set_cons_succ, List.take_succ_cons, List.take_zero, List.drop_succ_cons, List.drop_zero, List.reverse_cons, List.reverse_nil, List.nil_append, List.cons_append, List.length_cons, List.length_nil, true_and, and_true, Nat.zero_le, Nat.reduceLeDiff, Nat.reduceAdd, Nat.reduceEqDiff, false_imp_iff, true_imp_iff, not_false_eq_true, not_true_eq_false, imp_self, forall_const, hu, vt, ct, aup_ne (show (27 : Nat) ≠ 28 by omega), nI_1, true_or, or_true]
    refine st_X4_putBytes_49 ?_; simp only [bX4_putBytes_49, exP, stP, p1, p2, pr, pobj, parr, sh0, sh1, sh2, sh3, sh4, sh5, sh6, sh7, sh8, sh9, sh10, sh11, sh12, sh13, sh14, sh15, sh16, sh17, sh18, sh19, sh20, sh21, sh22, sh23, sh24, sh25, sh26, sh27, sh28, sh29, sh30, sh31, sh32, sh33, sh34, sh35, sh36, sh37, sh38, sh39, sh40, sh41, sh42, sh43, sh44, sh45, sh46, sh47, sh48, sh49, sh50, sh51, sh52, sh53, sh54, sh55, sh56, sh57, sh58, sh59, brP, brN, swP, amask, apush, List.getElem?_cons_zero, List.getElem?_cons_succ, List.set_cons_zero, List.set_cons_succ, List.take_succ_cons, List.take_zero, List.drop_succ_cons, List.drop_zero, List.reverse_cons, List.reverse_nil, List.nil_append, List.cons_append, List.length_cons, List.length_nil, true_and, and_true, Nat.zero_le, Nat.reduceLeDiff, Nat.reduceAdd, Nat.reduceEqDiff, false_imp_iff, true_imp_iff, not_false_eq_true, not_true_eq_false, imp_self, forall_const]
    refine w_putBytes Q x l (t + 1) _ (by omega) (by rw [aup_eq, upd_eq]) (by omega) (fun v hv => hQ v ?_)
    obtain ⟨v1, v2, v3, v4⟩ := hv
    refine ⟨fun k a b => by rw [v1 k a b, aup_ne a, aup_ne b], by rw [v2]; congr 1; omega, fun i hi => ?_, fun i hi => ?_⟩
    · rw [v3 i (by omega), aup_ne (by omega), aup_eq, upd_ne (by omega)]
    · cases i with
      | zero =>
        rw [v3 (t + 0) (by omega), aup_ne (by omega), aup_eq, show t + 0 = t from rfl, upd_eq, show l + 1 - 1 - 0 = l by omega]
        rfl
      | succ i =>
        rw [show t + (i + 1) = t + 1 + i by omega, v4 i (by omega), show l + 1 - 1 - (i + 1) = l - 1 - i by omega]
theorem c_putBytes (m : AM) (x : Int32) (t : Nat) (hu : m 27 3 = nI t) (ht : t + 4 ≤ 40) : AC 1 kX4_putBytes [.inr 27, .inl x] m (fun z v => z = none ∧ PB x t 4 m v) := by
  refine AC_of own_X4_putBytes (ls := [some (.inr 27), some (.inl x), none]) (z := 1) (Nat.le_of_ble_eq_true rfl) rfl ?_
  refine st_X4_putBytes_0 ?_; simp only [bX4_putBytes_0, exP, stP, p1, p2, pr, pobj, parr, sh0, sh1, sh2, sh3, sh4, sh5, sh6, sh7, sh8, sh9, sh10, sh11, sh12, sh13, sh14, sh15, sh16, sh17, sh18, sh19, sh20, sh21, sh22, sh23, sh24, sh25, sh26, sh27, sh28, sh29, sh30, sh31, sh32, sh33, sh34, sh35, sh36, sh37, sh38, sh39, sh40, sh41, sh42, sh43, sh44, sh45, sh46, sh47, sh48, sh49, sh50, sh51, sh52, sh53, sh54, sh55, sh56, sh57, sh58, sh59, brP, brN, swP, amask, apush, List.getElem?_cons_zero, List.getElem?_cons_succ, List.set_cons_zero, List.set_cons_succ, List.take_succ_cons, List.take_zero, List.drop_succ_cons, List.drop_zero, List.reverse_cons, List.reverse_nil, List.nil_append, List.cons_append, List.length_cons, List.length_nil, true_and, and_true, Nat.zero_le, Nat.reduceLeDiff, Nat.reduceAdd, Nat.reduceEqDiff, false_imp_iff, true_imp_iff, not_false_eq_true, not_true_eq_false, imp_self, forall_const]
  exact w_putBytes _ x 4 t m (by omega) hu ht (fun v hv => ⟨rfl, hv⟩)
def PM (x : Int32) (t l : Nat) (u v : AM) : Prop := (∀ k, k ≠ 34 → k ≠ 35 → v k = u k) ∧ (∀ j, j ≠ 1 → v 34 j = u 34 j) ∧ v 34 1 = nI (t + l) ∧ (∀ i, i < t ∨ t + l ≤ i → v 35 i = u 35 i) ∧ ∀ i, i < l → v 35 (t + i) = vp_nar .byte ((x >>> (nI (8 * (l - 1 - i)) &&& 31)).toInt8.toInt32)
theorem w_push (Q : APost) (x : Int32) : ∀ (l t : Nat) (u : AM), l ≤ 4 → u 34 1 = nI t → t + l ≤ 40 → (∀ v, PM x t l u v → Q none v) → AW 1 kX6_push Q 3 [some (.inr 34), some (.inl x), some (.inl (shD l))] [] u
  | 0, t, u, _, hu, ht, hQ => by
    refine st_X6_push_3 ?_; simp only [bX6_push_3, exP, stP, p1, p2, pr, pobj, parr, sh0, sh1, sh2, sh3, sh4, sh5, sh6, sh7, sh8, sh9, sh10, sh11, sh12, sh13, sh14, sh15, sh16, sh17, sh18, sh19, sh20, sh21, sh22, sh23, sh24, sh25, sh26, sh27, sh28, sh29, sh30, sh31, sh32, sh33, sh34, sh35, sh36, sh37, sh38, sh39, sh40, sh41, sh42, sh43, sh44, sh45, sh46, sh47, sh48, sh49, sh50, sh51, sh52, sh53, sh54, sh55, sh56, sh57, sh58, sh59, brP, brN, swP, amask, apush, List.getElem?_cons_zero, List.getElem?_cons_succ, List.set_cons_zero, List.set_cons_succ, List.take_succ_cons, List.take_zero, List.drop_succ_cons, List.drop_zero, List.reverse_cons, List.reverse_nil, List.nil_append, List.cons_append, List.length_cons, List.length_nil, true_and, and_true, Nat.zero_le, Nat.reduceLeDiff, Nat.reduceAdd, Nat.reduceEqDiff, false_imp_iff, true_imp_iff, not_false_eq_true, not_true_eq_false, imp_self, forall_const, show (shD 0 < 0) = True from eq_true (by decide)]
    refine st_X6_push_36 ?_; simp only [bX6_push_36, exP, stP, p1, p2, pr, pobj, parr, sh0, sh1, sh2, sh3, sh4, sh5, sh6, sh7, sh8, sh9, sh10, sh11, sh12, sh13, sh14, sh15, sh16, sh17, sh18, sh19, sh20, sh21, sh22, sh23, sh24, sh25, sh26, sh27, sh28, sh29, sh30, sh31, sh32, sh33, sh34, sh35, sh36, sh37, sh38, sh39, sh40, sh41, sh42, sh43, sh44, sh45, sh46, sh47, sh48, sh49, sh50, sh51, sh52, sh53, sh54, sh55, sh56, sh57, sh58, sh59, brP, brN, swP, amask, apush, List.getElem?_cons_zero, List.getElem?_cons_succ, List.set_cons_zero, List.set_cons_succ, List.take_succ_cons, List.take_zero, List.drop_succ_cons, List.drop_zero, List.reverse_cons, List.reverse_nil, List.nil_append, List.cons_append, List.length_cons, List.length_nil, true_and, and_true, Nat.zero_le, Nat.reduceLeDiff, Nat.reduceAdd, Nat.reduceEqDiff, false_imp_iff, true_imp_iff, not_false_eq_true, not_true_eq_false, imp_self, forall_const]
    exact hQ u ⟨fun _ _ _ => rfl, fun _ _ => rfl, hu, fun _ _ => rfl, fun i hi => by omega⟩
  | l + 1, t, u, hl, hu, ht, hQ => by
    have vt := eq_true (vp_in_nI (show t < 40 by omega) (show 40 < 2 ^ 31 by omega))
    have ct := nI_clamp (show t < 2 ^ 31 by omega)
    rw [shD_succ]
    refine st_X6_push_3 ?_; simp only [bX6_push_3, exP, stP, p1, p2, pr, pobj, parr, sh0, sh1, sh2, sh3, sh4, sh5, sh6, sh7, sh8, sh9, sh10, sh11, sh12, sh13, sh14, sh15, sh16, sh17, sh18, sh19, sh20, sh21, sh22, sh23, sh24, sh25, sh26, sh27, sh28, sh29, sh30, sh31, sh32, sh33, sh34, sh35, sh36, sh37, sh38, sh39, sh40, sh41, sh42, sh43, sh44, sh45, sh46, sh47, sh48, sh49, sh50, sh51, sh52, sh53, sh54, sh55, sh56, sh57, sh58, sh59, brP, brN, swP, amask, apush, List.getElem?_cons_zero, List.getElem?_cons_succ, List.set_cons_zero, List.set_cons_succ, List.take_succ_cons, List.take_zero, List.drop_succ_cons, List.drop_zero, List.reverse_cons, List.reverse_nil, List.nil_append, List.cons_append, List.length_cons, List.length_nil, true_and, and_true, Nat.zero_le, Nat.reduceLeDiff, Nat.reduceAdd, Nat.reduceEqDiff, false_imp_iff, true_imp_iff, not_false_eq_true, not_true_eq_false, imp_self, forall_const, nI_lt0 (show 8 * l < 2147483648 by omega)]
    refine st_X6_push_7 ?_; simp only [bX6_push_7, exP, stP, p1, p2, pr, pobj, parr, sh0, sh1, sh2, sh3, sh4, sh5, sh6, sh7, sh8, sh9, sh10, sh11, sh12, sh13, sh14, sh15, sh16, sh17, sh18, sh19, sh20, sh21, sh22, sh23, sh24, sh25, sh26, sh27, sh28, sh29, sh30, sh31, sh32, sh33, sh34, sh35, sh36, sh37, sh38, sh39, sh40, sh41, sh42, sh43, sh44, sh45, sh46, sh47, sh48, sh49, sh50, sh51, sh52, sh53, sh54, sh55, sh56, sh57, sh58, sh59, brP, brN, swP, amask, apush, List.getElem?_cons_zero, List.getElem?_cons_succ, List.set_cons_zero, List.set_cons_succ, List.take_succ_cons, List.take_zero, List.drop_succ_cons, List.drop_zero, List.reverse_cons, List.reverse_nil, List.nil_append, List.cons_append, List.length_cons, List.length_nil, true_and, and_true, Nat.zero_le, Nat.reduceLeDiff, Nat.reduceAdd, Nat.reduceEqDiff, false_imp_iff, true_imp_iff, not_false_eq_true, not_true_eq_false, imp_self, forall_const, hu, vt, ct, aup_ne (show (34 : Nat) ≠ 35 by omega), nI_1, true_or, or_true]
    refine w_push Q x l (t + 1) _ (by omega) (by rw [aup_eq, upd_eq]) (by omega) (fun v hv => hQ v ?_)
    obtain ⟨v1, v0, v2, v3, v4⟩ := hv
    refine ⟨fun k a b => by rw [v1 k a b, aup_ne a, aup_ne b], fun j hj => by rw [v0 j hj, aup_eq, upd_ne hj], by rw [v2]; congr 1; omega, fun i hi => ?_, fun i hi => ?_⟩
    · rw [v3 i (by omega), aup_ne (by omega), aup_eq, upd_ne (by omega)]
    · cases i with
      | zero =>
        rw [v3 (t + 0) (by omega), aup_ne (by omega), aup_eq, show t + 0 = t from rfl, upd_eq, show l + 1 - 1 - 0 = l by omega]
      | succ i =>
        rw [show t + (i + 1) = t + 1 + i by omega, v4 i (by omega), show l + 1 - 1 - (i + 1) = l - 1 - i by omega]
theorem c_push (m : AM) (x : Int32) (t : Nat) (hu : m 34 1 = nI t) (ht : t + 4 ≤ 40) : AC 1 kX6_push [.inr 34, .inl x] m (fun z v => z = none ∧ PM x t 4 m v) := by
  refine AC_of own_X6_push (ls := [some (.inr 34), some (.inl x), none]) (z := 1) (Nat.le_of_ble_eq_true rfl) rfl ?_
  refine st_X6_push_0 ?_; simp only [bX6_push_0, exP, stP, p1, p2, pr, pobj, parr, sh0, sh1, sh2, sh3, sh4, sh5, sh6, sh7, sh8, sh9, sh10, sh11, sh12, sh13, sh14, sh15, sh16, sh17, sh18, sh19, sh20, sh21, sh22, sh23, sh24, sh25, sh26, sh27, sh28, sh29, sh30, sh31, sh32, sh33, sh34, sh35, sh36, sh37, sh38, sh39, sh40, sh41, sh42, sh43, sh44, sh45, sh46, sh47, sh48, sh49, sh50, sh51, sh52, sh53, sh54, sh55, sh56, sh57, sh58, sh59, brP, brN, swP, amask, apush, List.getElem?_cons_zero, List.getElem?_cons_succ, List.set_cons_zero, List.set_cons_succ, List.take_succ_cons, List.take_zero, List.drop_succ_cons, List.drop_zero, List.reverse_cons, List.reverse_nil, List.nil_append, List.cons_append, List.length_cons, List.length_nil, true_and, and_true, Nat.zero_le, Nat.reduceLeDiff, Nat.reduceAdd, Nat.reduceEqDiff, false_imp_iff, true_imp_iff, not_false_eq_true, not_true_eq_false, imp_self, forall_const]
  exact w_push _ x 4 t m (by omega) hu ht (fun v hv => ⟨rfl, hv⟩)
/-! several of them -/
def PBn (w : Nat → Int32) (n t : Nat) (u v : AM) : Prop := (∀ k, k ≠ 27 → k ≠ 28 → v k = u k) ∧ v 27 3 = nI (t + 4 * n) ∧ (∀ i, i < t ∨ t + 4 * n ≤ i → v 28 i = u 28 i) ∧ ∀ i, i < 4 * n → v 28 (t + i) = ush (w (i / 4)) (nI (8 * (3 - i % 4))) &&& 255
theorem PBn_zero {w : Nat → Int32} {t : Nat} {u : AM} (h : u 27 3 = nI t) : PBn w 0 t u u := ⟨fun _ _ _ => rfl, h, fun _ _ => rfl, fun i hi => by omega⟩
theorem PBn_succ {w : Nat → Int32} {n t : Nat} {u v v' : AM} (h : PBn w n t u v) (h' : PB (w n) (t + 4 * n) 4 v v') : PBn w (n + 1) t u v' := by
  obtain ⟨a1, a2, a3, a4⟩ := h
  obtain ⟨b1, b2, b3, b4⟩ := h'
  refine ⟨fun k p q => (b1 k p q).trans (a1 k p q), by rw [b2]; congr 1, fun i hi => by rw [b3 i (by omega), a3 i (by omega)], fun i hi => ?_⟩
  by_cases q : i < 4 * n
  · rw [b3 (t + i) (by omega), a4 i q]
  · have := b4 (i - 4 * n) (by omega)
    rw [show t + 4 * n + (i - 4 * n) = t + i by omega, show 4 - 1 - (i - 4 * n) = 3 - i % 4 by omega] at this
    rw [this, show i / 4 = n by omega]
def PMn (w : Nat → Int32) (n t : Nat) (u v : AM) : Prop := (∀ k, k ≠ 34 → k ≠ 35 → v k = u k) ∧ (∀ j, j ≠ 1 → v 34 j = u 34 j) ∧ v 34 1 = nI (t + 4 * n) ∧ (∀ i, i < t ∨ t + 4 * n ≤ i → v 35 i = u 35 i) ∧ ∀ i, i < 4 * n → v 35 (t + i) = vp_nar .byte ((w (i / 4) >>> (nI (8 * (3 - i % 4)) &&& 31)).toInt8.toInt32)
theorem PMn_zero {w : Nat → Int32} {t : Nat} {u : AM} (h : u 34 1 = nI t) : PMn w 0 t u u := ⟨fun _ _ _ => rfl, fun _ _ => rfl, h, fun _ _ => rfl, fun i hi => by omega⟩
theorem PMn_succ {w : Nat → Int32} {n t : Nat} {u v v' : AM} (h : PMn w n t u v) (h' : PM (w n) (t + 4 * n) 4 v v') : PMn w (n + 1) t u v' := by
  obtain ⟨a1, a0, a2, a3, a4⟩ := h
  obtain ⟨b1, b0, b2, b3, b4⟩ := h'
  refine ⟨fun k p q => (b1 k p q).trans (a1 k p q), fun j hj => (b0 j hj).trans (a0 j hj), by rw [b2]; congr 1, fun i hi => by rw [b3 i (by omega), a3 i (by omega)], fun i hi => ?_⟩
  by_cases q : i < 4 * n
  · rw [b3 (t + i) (by omega), a4 i q]
  · have := b4 (i - 4 * n) (by omega)
    rw [show t + 4 * n + (i - 4 * n) = t + i by omega, show 4 - 1 - (i - 4 * n) = 3 - i % 4 by omega] at this
    rw [this, show i / 4 = n by omega]
theorem bt_byte (x : Int32) {i : Nat} (hi : i < 32) : bt (x.toInt8.toInt32) i = bt x (if i < 8 then i else 7) := by
  unfold bt
  have e7 : (BitVec.signExtend 8 x.toBitVec).msb = x.toBitVec.getLsbD 7 := by
    rw [BitVec.msb_eq_getLsbD_last, BitVec.getLsbD_signExtend]
    simp
  rw [Int8.toBitVec_toInt32, Int32.toBitVec_toInt8, BitVec.getLsbD_signExtend, e7, BitVec.getLsbD_signExtend]
  by_cases q : i < 8
  · simp [hi, q]
  · simp [hi, q]
theorem nar_byte (x : Int32) : vp_nar .byte x = x.toInt8.toInt32 := rfl
theorem byte_rel (x : Int32) {s : Nat} (hs : s ≤ 24) : ush x (nI s) &&& 255 = (vp_nar .byte ((x >>> (nI s &&& 31)).toInt8.toInt32)) &&& 255 ∧ vp_nar .byte ((x >>> (nI s &&& 31)).toInt8.toInt32) = (ush x (nI s) &&& 255).toInt8.toInt32 := by
  rw [nar_byte]
  constructor
  · apply b_ext
    intro i hi
    rw [b_and, b_and, b_255]
    by_cases q : i < 8
    · rw [bt_byte _ hi, if_pos q, bt_byte _ hi, if_pos q, b_sshr s (by omega) x hi, if_pos (by omega)]
      unfold ush
      rw [b_ushr s (by omega)]
    · simp [q]
  · apply b_ext
    intro i hi
    rw [bt_byte _ hi, bt_byte _ hi]
    have h8 : ∀ j, j < 8 → bt ((x >>> (nI s &&& 31)).toInt8.toInt32) j = bt (ush x (nI s) &&& 255) j := by
      intro j hj
      rw [bt_byte _ (by omega), if_pos hj, b_sshr s (by omega) x (by omega), if_pos (by omega), b_and, b_255, decide_eq_true hj, Bool.and_true]
      unfold ush
      rw [b_ushr s (by omega)]
    exact h8 _ (by split <;> omega)
def wf5 (a b c d e : Int32) : Nat → Int32
  | 0 => a
  | 1 => b
  | 2 => c
  | 3 => d
  | _ => e
theorem p_feed {m : AM} (h : INV m) (a b c d e : Int32) : PAIR kX5_feed kX6_feed [.inl a, .inl b, .inl c, .inl d, .inl e] m := by
  obtain ⟨np, nf, ns, nd, tp, h⟩ := h
  have h40 := h.1.1.2.2.2
  obtain ⟨t1, t2, t3⟩ := h.1.2.2.2.2.2.2.2.2.2.2.1
  have x20 : nI tp + 20 = nI (tp + 20) := nI_litadd tp 20
  by_cases ht : tp + 20 ≤ 40
  · have le40 : (nI (tp + 20) ≤ (40 : Int32)) = True := eq_true (nI_le (a := tp + 20) (b := 40) ht (by omega))
    refine ⟨fun z u => z = some (nI (tp + 20)) ∧ PBn (wf5 a b c d e) 5 tp m u, ⟨20, by decide, ?_⟩, ?_⟩
    · refine AC_of own_X5_feed (ls := [some (.inr 0), some (.inl a), some (.inl b), some (.inl c), some (.inl d), some (.inl e)]) (z := 0) (Nat.le_of_ble_eq_true rfl) rfl ?_
      refine st_X5_feed_0 ?_; simp only [bX5_feed_0, exP, stP, p1, p2, pr, pobj, parr, sh0, sh1, sh2, sh3, sh4, sh5, sh6, sh7, sh8, sh9, sh10, sh11, sh12, sh13, sh14, sh15, sh16, sh17, sh18, sh19, sh20, sh21, sh22, sh23, sh24, sh25, sh26, sh27, sh28, sh29, sh30, sh31, sh32, sh33, sh34, sh35, sh36, sh37, sh38, sh39, sh40, sh41, sh42, sh43, sh44, sh45, sh46, sh47, sh48, sh49, sh50, sh51, sh52, sh53, sh54, sh55, sh56, sh57, sh58, sh59, brP, brN, swP, amask, apush, List.getElem?_cons_zero, List.getElem?_cons_succ, List.set_cons_zero, List.set_cons_succ, List.take_succ_cons, List.take_zero, List.drop_succ_cons, List.drop_zero, List.reverse_cons, List.reverse_nil, List.nil_append, List.cons_append, List.length_cons, List.length_nil, true_and, and_true, Nat.zero_le, Nat.reduceLeDiff, Nat.reduceAdd, Nat.reduceEqDiff, false_imp_iff, true_imp_iff, not_false_eq_true, not_true_eq_false, imp_self, forall_const, t1, x20, le40]
      refine st_X5_feed_17 ?_; simp only [bX5_feed_17, exP, stP, p1, p2, pr, pobj, parr, sh0, sh1, sh2, sh3, sh4, sh5, sh6, sh7, sh8, sh9, sh10, sh11, sh12, sh13, sh14, sh15, sh16, sh17, sh18, sh19, sh20, sh21, sh22, sh23, sh24, sh25, sh26, sh27, sh28, sh29, sh30, sh31, sh32, sh33, sh34, sh35, sh36, sh37, sh38, sh39, sh40, sh41, sh42, sh43, sh44, sh45, sh46, sh47, sh48, sh49, sh50, sh51, sh52, sh53, sh54, sh55, sh56, sh57, sh58, sh59, brP, brN, swP, amask, apush, List.getElem?_cons_zero, List.getElem?_cons_succ, List.set_cons_zero, List.set_cons_succ, List.take_succ_cons, List.take_zero, List.drop_succ_cons, List.drop_zero, List.reverse_cons, List.reverse_nil, List.nil_append, List.cons_append, List.length_cons, List.length_nil, true_and, and_true, Nat.zero_le, Nat.reduceLeDiff, Nat.reduceAdd, Nat.reduceEqDiff, false_imp_iff, true_imp_iff, not_false_eq_true, not_true_eq_false, imp_self, forall_const]
      have q0 := PBn_zero (w := wf5 a b c d e) t1
      refine ⟨_, ⟨1, by decide, c_putBytes m a tp t1 (by omega)⟩, ?_⟩
      rintro _ u1 ⟨rfl, r1⟩
      simp only [exP, stP, p1, p2, pr, pobj, parr, sh0, sh1, sh2, sh3, sh4, sh5, sh6, sh7, sh8, sh9, sh10, sh11, sh12, sh13, sh14, sh15, sh16, sh17, sh18, sh19, sh20, sh21, sh22, sh23, sh24, sh25, sh26, sh27, sh28, sh29, sh30, sh31, sh32, sh33, sh34, sh35, sh36, sh37, sh38, sh39, sh40, sh41, sh42, sh43, sh44, sh45, sh46, sh47, sh48, sh49, sh50, sh51, sh52, sh53, sh54, sh55, sh56, sh57, sh58, sh59, brP, brN, swP, amask, apush, List.getElem?_cons_zero, List.getElem?_cons_succ, List.set_cons_zero, List.set_cons_succ, List.take_succ_cons, List.take_zero, List.drop_succ_cons, List.drop_zero, List.reverse_cons, List.reverse_nil, List.nil_append, List.cons_append, List.length_cons, List.length_nil, true_and, and_true, Nat.zero_le, Nat.reduceLeDiff, Nat.reduceAdd, Nat.reduceEqDiff, false_imp_iff, true_imp_iff, not_false_eq_true, not_true_eq_false, imp_self, forall_const]
      have q1 := PBn_succ q0 r1
      refine ⟨_, ⟨1, by decide, c_putBytes u1 b (tp + 4 * 1) q1.2.1 (by omega)⟩, ?_⟩
      rintro _ u2 ⟨rfl, r2⟩
      simp only [exP, stP, p1, p2, pr, pobj, parr, sh0, sh1, sh2, sh3, sh4, sh5, sh6, sh7, sh8, sh9, sh10, sh11, sh12, sh13, sh14, sh15, sh16, sh17, sh18, sh19, sh20, sh21, sh22, sh23, sh24, sh25, sh26, sh27, sh28, sh29, sh30, sh31, sh32, sh33, sh34, sh35, sh36, sh37, sh38, sh39, sh40, sh41, sh42, sh43, sh44, sh45, sh46, sh47, sh48, sh49, sh50, sh51, sh52, sh53, sh54, sh55, sh56, sh57, sh58, sh59, brP, brN, swP, amask, apush, List.getElem?_cons_zero, List.getElem?_cons_succ, List.set_cons_zero, List.set_cons_succ, List.take_succ_cons, List.take_zero, List.drop_succ_cons, List.drop_zero, List.reverse_cons, List.reverse_nil, List.nil_append, List.cons_append, List.length_cons, List.length_nil, true_and, and_true, Nat.zero_le, Nat.reduceLeDiff, Nat.reduceAdd, Nat.reduceEqDiff, false_imp_iff, true_imp_iff, not_false_eq_true, not_true_eq_false, imp_self, forall_const]
      have q2 := PBn_succ q1 r2
      refine ⟨_, ⟨1, by decide, c_putBytes u2 c (tp + 4 * 2) q2.2.1 (by omega)⟩, ?_⟩
      rintro _ u3 ⟨rfl, r3⟩
      simp only [exP, stP, p1, p2, pr, pobj, parr, sh0, sh1, sh2, sh3, sh4, sh5, sh6, sh7, sh8, sh9, sh10, sh11, sh12, sh13, sh14, sh15, sh16, sh17, sh18, sh19, sh20, sh21, sh22, sh23, sh24, sh25, sh26, sh27, sh28, sh29, sh30, sh31, sh32, sh33, sh34, sh35, sh36, sh37, sh38, sh39, sh40, sh41, sh42, sh43, sh44, sh45, sh46, sh47, sh48, sh49, sh50, sh51, sh52, sh53, sh54, sh55, sh56, sh57, sh58, sh59, brP, brN, swP, amask, apush, List.getElem?_cons_zero, List.getElem?_cons_succ, List.set_cons_zero, List.set_cons_succ, List.take_succ_cons, List.take_zero, List.drop_succ_cons, List.drop_zero, List.reverse_cons, List.reverse_nil, List.nil_append, List.cons_append, List.length_cons, List.length_nil, true_and, and_true, Nat.zero_le, Nat.reduceLeDiff, Nat.reduceAdd, Nat.reduceEqDiff, false_imp_iff, true_imp_iff, not_false_eq_true, not_true_eq_false, imp_self, forall_const]
      have q3 := PBn_succ q2 r3
      refine ⟨_, ⟨1, by decide, c_putBytes u3 d (tp + 4 * 3) q3.2.1 (by omega)⟩, ?_⟩
      rintro _ u4 ⟨rfl, r4⟩
      simp only [exP, stP, p1, p2, pr, pobj, parr, sh0, sh1, sh2, sh3, sh4, sh5, sh6, sh7, sh8, sh9, sh10, sh11, sh12, sh13, sh14, sh15, sh16, sh17, sh18, sh19, sh20, sh21, sh22, sh23, sh24, sh25, sh26, sh27, sh28, sh29, sh30, sh31, sh32, sh33, sh34, sh35, sh36, sh37, sh38, sh39, sh40, sh41, sh42, sh43, sh44, sh45, sh46, sh47, sh48, sh49, sh50, sh51, sh52, sh53, sh54, sh55, sh56, sh57, sh58, sh59, brP, brN, swP, amask, apush, List.getElem?_cons_zero, List.getElem?_cons_succ, List.set_cons_zero, List.set_cons_succ, List.take_succ_cons, List.take_zero, List.drop_succ_cons, List.drop_zero, List.reverse_cons, List.reverse_nil, List.nil_append, List.cons_append, List.length_cons, List.length_nil, true_and, and_true, Nat.zero_le, Nat.reduceLeDiff, Nat.reduceAdd, Nat.reduceEqDiff, false_imp_iff, true_imp_iff, not_false_eq_true, not_true_eq_false, imp_self, forall_const]
      have q4 := PBn_succ q3 r4
      refine ⟨_, ⟨1, by decide, c_putBytes u4 e (tp + 4 * 4) q4.2.1 (by omega)⟩, ?_⟩
      rintro _ u5 ⟨rfl, r5⟩
      simp only [exP, stP, p1, p2, pr, pobj, parr, sh0, sh1, sh2, sh3, sh4, sh5, sh6, sh7, sh8, sh9, sh10, sh11, sh12, sh13, sh14, sh15, sh16, sh17, sh18, sh19, sh20, sh21, sh22, sh23, sh24, sh25, sh26, sh27, sh28, sh29, sh30, sh31, sh32, sh33, sh34, sh35, sh36, sh37, sh38, sh39, sh40, sh41, sh42, sh43, sh44, sh45, sh46, sh47, sh48, sh49, sh50, sh51, sh52, sh53, sh54, sh55, sh56, sh57, sh58, sh59, brP, brN, swP, amask, apush, List.getElem?_cons_zero, List.getElem?_cons_succ, List.set_cons_zero, List.set_cons_succ, List.take_succ_cons, List.take_zero, List.drop_succ_cons, List.drop_zero, List.reverse_cons, List.reverse_nil, List.nil_append, List.cons_append, List.length_cons, List.length_nil, true_and, and_true, Nat.zero_le, Nat.reduceLeDiff, Nat.reduceAdd, Nat.reduceEqDiff, false_imp_iff, true_imp_iff, not_false_eq_true, not_true_eq_false, imp_self, forall_const]
      have q5 := PBn_succ q4 r5
      exact ⟨Or.inl trivial, by rw [q5.2.1], q5⟩
    · rintro r u ⟨rfl, hu⟩
      obtain ⟨u1, u2, u3, u4⟩ := id hu
      have u34 : u 34 = m 34 := u1 34 (by omega) (by omega)
      have t2' : u 34 1 = nI tp := by rw [u34]; exact t2
      refine ⟨fun z v => z = some (nI (tp + 20)) ∧ PMn (wf5 a b c d e) 5 tp u v, ⟨20, by decide, ?_⟩, ?_⟩
      · refine AC_of own_X6_feed (ls := [some (.inr 34), some (.inl a), some (.inl b), some (.inl c), some (.inl d), some (.inl e)]) (z := 0) (Nat.le_of_ble_eq_true rfl) rfl ?_
        refine st_X6_feed_0 ?_; simp only [bX6_feed_0, exP, stP, p1, p2, pr, pobj, parr, sh0, sh1, sh2, sh3, sh4, sh5, sh6, sh7, sh8, sh9, sh10, sh11, sh12, sh13, sh14, sh15, sh16, sh17, sh18, sh19, sh20, sh21, sh22, sh23, sh24, sh25, sh26, sh27, sh28, sh29, sh30, sh31, sh32, sh33, sh34, sh35, sh36, sh37, sh38, sh39, sh40, sh41, sh42, sh43, sh44, sh45, sh46, sh47, sh48, sh49, sh50, sh51, sh52, sh53, sh54, sh55, sh56, sh57, sh58, sh59, brP, brN, swP, amask, apush, List.getElem?_cons_zero, List.getElem?_cons_succ, List.set_cons_zero, List.set_cons_succ, List.take_succ_cons, List.take_zero, List.drop_succ_cons, List.drop_zero, List.reverse_cons, List.reverse_nil, List.nil_append, List.cons_append, List.length_cons, List.length_nil, true_and, and_true, Nat.zero_le, Nat.reduceLeDiff, Nat.reduceAdd, Nat.reduceEqDiff, false_imp_iff, true_imp_iff, not_false_eq_true, not_true_eq_false, imp_self, forall_const, t2', x20, le40]
        refine st_X6_feed_14 ?_; simp only [bX6_feed_14, exP, stP, p1, p2, pr, pobj, parr, sh0, sh1, sh2, sh3, sh4, sh5, sh6, sh7, sh8, sh9, sh10, sh11, sh12, sh13, sh14, sh15, sh16, sh17, sh18, sh19, sh20, sh21, sh22, sh23, sh24, sh25, sh26, sh27, sh28, sh29, sh30, sh31, sh32, sh33, sh34, sh35, sh36, sh37, sh38, sh39, sh40, sh41, sh42, sh43, sh44, sh45, sh46, sh47, sh48, sh49, sh50, sh51, sh52, sh53, sh54, sh55, sh56, sh57, sh58, sh59, brP, brN, swP, amask, apush, List.getElem?_cons_zero, List.getElem?_cons_succ, List.set_cons_zero, List.set_cons_succ, List.take_succ_cons, List.take_zero, List.drop_succ_cons, List.drop_zero, List.reverse_cons, List.reverse_nil, List.nil_append, List.cons_append, List.length_cons, List.length_nil, true_and, and_true, Nat.zero_le, Nat.reduceLeDiff, Nat.reduceAdd, Nat.reduceEqDiff, false_imp_iff, true_imp_iff, not_false_eq_true, not_true_eq_false, imp_self, forall_const]
        have q0 := PMn_zero (w := wf5 a b c d e) t2'
        refine ⟨_, ⟨1, by decide, c_push u a tp t2' (by omega)⟩, ?_⟩
        rintro _ u1 ⟨rfl, r1⟩
        simp only [exP, stP, p1, p2, pr, pobj, parr, sh0, sh1, sh2, sh3, sh4, sh5, sh6, sh7, sh8, sh9, sh10, sh11, sh12, sh13, sh14, sh15, sh16, sh17, sh18, sh19, sh20, sh21, sh22, sh23, sh24, sh25, sh26, sh27, sh28, sh29, sh30, sh31, sh32, sh33, sh34, sh35, sh36, sh37, sh38, sh39, sh40, sh41, sh42, sh43, sh44, sh45, sh46, sh47, sh48, sh49, sh50, sh51, sh52, sh53, sh54, sh55, sh56, sh57, sh58, sh59, brP, brN, swP, amask, apush, List.getElem?_cons_zero, List.getElem?_cons_succ, List.set_cons_zero, List.set_cons_succ, List.take_succ_cons, List.take_zero, List.drop_succ_cons, List.drop_zero, List.reverse_cons, List.reverse_nil, List.nil_append, List.cons_append, List.length_cons, List.length_nil, true_and, and_true, Nat.zero_le, Nat.reduceLeDiff, Nat.reduceAdd, Nat.reduceEqDiff, false_imp_iff, true_imp_iff, not_false_eq_true, not_true_eq_false, imp_self, forall_const]
        have q1 := PMn_succ q0 r1
        refine ⟨_, ⟨1, by decide, c_push u1 b (tp + 4 * 1) q1.2.2.1 (by omega)⟩, ?_⟩
        rintro _ u2 ⟨rfl, r2⟩
        simp only [exP, stP, p1, p2, pr, pobj, parr, sh0, sh1, sh2, sh3, sh4, sh5, sh6, sh7, sh8, sh9, sh10, sh11, sh12, sh13, sh14, sh15, sh16, sh17, sh18, sh19, sh20, sh21, sh22, sh23, sh24, sh25, sh26, sh27, sh28, sh29, sh30, sh31, sh32, sh33, sh34, sh35, sh36, sh37, sh38, sh39, sh40, sh41, sh42, sh43, sh44, sh45, sh46, sh47, sh48, sh49, sh50, sh51, sh52, sh53, sh54, sh55, sh56, sh57, sh58, sh59, brP, brN, swP, amask, apush, List.getElem?_cons_zero, List.getElem?_cons_succ, List.set_cons_zero, List.set_cons_succ, List.take_succ_cons, List.take_zero, List.drop_succ_cons, List.drop_zero, List.reverse_cons, List.reverse_nil, List.nil_append, List.cons_append, List.length_cons, List.length_nil, true_and, and_true, Nat.zero_le, Nat.reduceLeDiff, Nat.reduceAdd, Nat.reduceEqDiff, false_imp_iff, true_imp_iff, not_false_eq_true, not_true_eq_false, imp_self, forall_const]
        have q2 := PMn_succ q1 r2
        refine ⟨_, ⟨1, by decide, c_push u2 c (tp + 4 * 2) q2.2.2.1 (by omega)⟩, ?_⟩
        rintro _ u3 ⟨rfl, r3⟩
        simp only [exP, stP, p1, p2, pr, pobj, parr, sh0, sh1, sh2, sh3, sh4, sh5, sh6, sh7, sh8, sh9, sh10, sh11, sh12, sh13, sh14, sh15, sh16, sh17, sh18, sh19, sh20, sh21, sh22, sh23, sh24, sh25, sh26, sh27, sh28, sh29, sh30, sh31, sh32, sh33, sh34, sh35, sh36, sh37, sh38, sh39, sh40, sh41, sh42, sh43, sh44, sh45, sh46, sh47, sh48, sh49, sh50, sh51, sh52, sh53, sh54, sh55, sh56, sh57, sh58, sh59, brP, brN, swP, amask, apush, List.getElem?_cons_zero, List.getElem?_cons_succ, List.set_cons_zero, List.set_cons_succ, List.take_succ_cons, List.take_zero, List.drop_succ_cons, List.drop_zero, List.reverse_cons, List.reverse_nil, List.nil_append, List.cons_append, List.length_cons, List.length_nil, true_and, and_true, Nat.zero_le, Nat.reduceLeDiff, Nat.reduceAdd, Nat.reduceEqDiff, false_imp_iff, true_imp_iff, not_false_eq_true, not_true_eq_false, imp_self, forall_const]
        have q3 := PMn_succ q2 r3
        refine ⟨_, ⟨1, by decide, c_push u3 d (tp + 4 * 3) q3.2.2.1 (by omega)⟩, ?_⟩
        rintro _ u4 ⟨rfl, r4⟩
        simp only [exP, stP, p1, p2, pr, pobj, parr, sh0, sh1, sh2, sh3, sh4, sh5, sh6, sh7, sh8, sh9, sh10, sh11, sh12, sh13, sh14, sh15, sh16, sh17, sh18, sh19, sh20, sh21, sh22, sh23, sh24, sh25, sh26, sh27, sh28, sh29, sh30, sh31, sh32, sh33, sh34, sh35, sh36, sh37, sh38, sh39, sh40, sh41, sh42, sh43, sh44, sh45, sh46, sh47, sh48, sh49, sh50, sh51, sh52, sh53, sh54, sh55, sh56, sh57, sh58, sh59, brP, brN, swP, amask, apush, List.getElem?_cons_zero, List.getElem?_cons_succ, List.set_cons_zero, List.set_cons_succ, List.take_succ_cons, List.take_zero, List.drop_succ_cons, List.drop_zero, List.reverse_cons, List.reverse_nil, List.nil_append, List.cons_append, List.length_cons, List.length_nil, true_and, and_true, Nat.zero_le, Nat.reduceLeDiff, Nat.reduceAdd, Nat.reduceEqDiff, false_imp_iff, true_imp_iff, not_false_eq_true, not_true_eq_false, imp_self, forall_const]
        have q4 := PMn_succ q3 r4
        refine ⟨_, ⟨1, by decide, c_push u4 e (tp + 4 * 4) q4.2.2.1 (by omega)⟩, ?_⟩
        rintro _ u5 ⟨rfl, r5⟩
        simp only [exP, stP, p1, p2, pr, pobj, parr, sh0, sh1, sh2, sh3, sh4, sh5, sh6, sh7, sh8, sh9, sh10, sh11, sh12, sh13, sh14, sh15, sh16, sh17, sh18, sh19, sh20, sh21, sh22, sh23, sh24, sh25, sh26, sh27, sh28, sh29, sh30, sh31, sh32, sh33, sh34, sh35, sh36, sh37, sh38, sh39, sh40, sh41, sh42, sh43, sh44, sh45, sh46, sh47, sh48, sh49, sh50, sh51, sh52, sh53, sh54, sh55, sh56, sh57, sh58, sh59, brP, brN, swP, amask, apush, List.getElem?_cons_zero, List.getElem?_cons_succ, List.set_cons_zero, List.set_cons_succ, List.take_succ_cons, List.take_zero, List.drop_succ_cons, List.drop_zero, List.reverse_cons, List.reverse_nil, List.nil_append, List.cons_append, List.length_cons, List.length_nil, true_and, and_true, Nat.zero_le, Nat.reduceLeDiff, Nat.reduceAdd, Nat.reduceEqDiff, false_imp_iff, true_imp_iff, not_false_eq_true, not_true_eq_false, imp_self, forall_const]
        have q5 := PMn_succ q4 r5
        exact ⟨Or.inl trivial, by rw [q5.2.2.1], q5⟩
      · rintro r' v ⟨rfl, v1, v0, v2, v3, v4⟩
        refine ⟨⟨_, rfl, rfl⟩, ⟨np, nf, ns, nd, tp + 20, ?_⟩⟩
        have v28 : v 28 = u 28 := v1 28 (by omega) (by omega)
        refine INV_text (m := m) ht (fun k k1 k2 k3 k4 k5 k6 k7 k8 => by rw [v1 k k5 k6, u1 k k1 k2]) (fun j hj => by rw [v0 j hj, u34]) ⟨?_, v2, fun i hi => ?_⟩ ?_ h
        · rw [v1 27 (by omega) (by omega)]; exact u2
        · rw [v28]
          by_cases q : i < tp ∨ tp + 4 * 5 ≤ i
          · rw [u3 i q, v3 i q, u1 35 (by omega) (by omega)]
            exact t3 i hi
          · have e1 := u4 (i - tp) (by omega)
            have e2 := v4 (i - tp) (by omega)
            rw [show tp + (i - tp) = i by omega] at e1 e2
            rw [e1, e2]
            exact byte_rel _ (by omega)
        · rw [v1 29 (by omega) (by omega), v1 30 (by omega) (by omega), v1 48 (by omega) (by omega), v1 49 (by omega) (by omega), u1 29 (by omega) (by omega), u1 30 (by omega) (by omega), u1 48 (by omega) (by omega), u1 49 (by omega) (by omega)]
          exact h.1.2.2.2.2.2.2.2.2.2.2.2.1
  · have le40 : (nI (tp + 20) ≤ (40 : Int32)) = False := eq_false (nI_ge (a := 40) (b := tp + 20) (by omega) (by omega))
    refine ⟨fun z u => m = u ∧ z = some (-1), ⟨20, by decide, ?_⟩, ?_⟩
    · refine AC_of own_X5_feed (ls := [some (.inr 0), some (.inl a), some (.inl b), some (.inl c), some (.inl d), some (.inl e)]) (z := 0) (Nat.le_of_ble_eq_true rfl) rfl ?_
      refine st_X5_feed_0 ?_; simp only [bX5_feed_0, exP, stP, p1, p2, pr, pobj, parr, sh0, sh1, sh2, sh3, sh4, sh5, sh6, sh7, sh8, sh9, sh10, sh11, sh12, sh13, sh14, sh15, sh16, sh17, sh18, sh19, sh20, sh21, sh22, sh23, sh24, sh25, sh26, sh27, sh28, sh29, sh30, sh31, sh32, sh33, sh34, sh35, sh36, sh37, sh38, sh39, sh40, sh41, sh42, sh43, sh44, sh45, sh46, sh47, sh48, sh49, sh50, sh51, sh52, sh53, sh54, sh55, sh56, sh57, sh58, sh59, brP, brN, swP, amask, apush, List.getElem?_cons_zero, List.getElem?_cons_succ, List.set_cons_zero, List.set_cons_succ, List.take_succ_cons, List.take_zero, List.drop_succ_cons, List.drop_zero, List.reverse_cons, List.reverse_nil, List.nil_append, List.cons_append, List.length_cons, List.length_nil, true_and, and_true, Nat.zero_le, Nat.reduceLeDiff, Nat.reduceAdd, Nat.reduceEqDiff, false_imp_iff, true_imp_iff, not_false_eq_true, not_true_eq_false, imp_self, forall_const, t1, x20, le40]
      refine st_X5_feed_15 ?_; simp only [bX5_feed_15, exP, stP, p1, p2, pr, pobj, parr, sh0, sh1, sh2, sh3, sh4, sh5, sh6, sh7, sh8, sh9, sh10, sh11, sh12, sh13, sh14, sh15, sh16, sh17, sh18, sh19, sh20, sh21, sh22, sh23, sh24, sh25, sh26, sh27, sh28, sh29, sh30, sh31, sh32, sh33, sh34, sh35, sh36, sh37, sh38, sh39, sh40, sh41, sh42, sh43, sh44, sh45, sh46, sh47, sh48, sh49, sh50, sh51, sh52, sh53, sh54, sh55, sh56, sh57, sh58, sh59, brP, brN, swP, amask, apush, List.getElem?_cons_zero, List.getElem?_cons_succ, List.set_cons_zero, List.set_cons_succ, List.take_succ_cons, List.take_zero, List.drop_succ_cons, List.drop_zero, List.reverse_cons, List.reverse_nil, List.nil_append, List.cons_append, List.length_cons, List.length_nil, true_and, and_true, Nat.zero_le, Nat.reduceLeDiff, Nat.reduceAdd, Nat.reduceEqDiff, false_imp_iff, true_imp_iff, not_false_eq_true, not_true_eq_false, imp_self, forall_const]
      simp
    · rintro r u ⟨rfl, rfl⟩
      refine ⟨fun z u => m = u ∧ z = some (-1), ⟨20, by decide, ?_⟩, ?_⟩
      · refine AC_of own_X6_feed (ls := [some (.inr 34), some (.inl a), some (.inl b), some (.inl c), some (.inl d), some (.inl e)]) (z := 0) (Nat.le_of_ble_eq_true rfl) rfl ?_
        refine st_X6_feed_0 ?_; simp only [bX6_feed_0, exP, stP, p1, p2, pr, pobj, parr, sh0, sh1, sh2, sh3, sh4, sh5, sh6, sh7, sh8, sh9, sh10, sh11, sh12, sh13, sh14, sh15, sh16, sh17, sh18, sh19, sh20, sh21, sh22, sh23, sh24, sh25, sh26, sh27, sh28, sh29, sh30, sh31, sh32, sh33, sh34, sh35, sh36, sh37, sh38, sh39, sh40, sh41, sh42, sh43, sh44, sh45, sh46, sh47, sh48, sh49, sh50, sh51, sh52, sh53, sh54, sh55, sh56, sh57, sh58, sh59, brP, brN, swP, amask, apush, List.getElem?_cons_zero, List.getElem?_cons_succ, List.set_cons_zero, List.set_cons_succ, List.take_succ_cons, List.take_zero, List.drop_succ_cons, List.drop_zero, List.reverse_cons, List.reverse_nil, List.nil_append, List.cons_append, List.length_cons, List.length_nil, true_and, and_true, Nat.zero_le, Nat.reduceLeDiff, Nat.reduceAdd, Nat.reduceEqDiff, false_imp_iff, true_imp_iff, not_false_eq_true, not_true_eq_false, imp_self, forall_const, t2, x20, le40]
        refine st_X6_feed_12 ?_; simp only [bX6_feed_12, exP, stP, p1, p2, pr, pobj, parr, sh0, sh1, sh2, sh3, sh4, sh5, sh6, sh7, sh8, sh9, sh10, sh11, sh12, sh13, sh14, sh15, sh16, sh17, sh18, sh19, sh20, sh21, sh22, sh23, sh24, sh25, sh26, sh27, sh28, sh29, sh30, sh31, sh32, sh33, sh34, sh35, sh36, sh37, sh38, sh39, sh40, sh41, sh42, sh43, sh44, sh45, sh46, sh47, sh48, sh49, sh50, sh51, sh52, sh53, sh54, sh55, sh56, sh57, sh58, sh59, brP, brN, swP, amask, apush, List.getElem?_cons_zero, List.getElem?_cons_succ, List.set_cons_zero, List.set_cons_succ, List.take_succ_cons, List.take_zero, List.drop_succ_cons, List.drop_zero, List.reverse_cons, List.reverse_nil, List.nil_append, List.cons_append, List.length_cons, List.length_nil, true_and, and_true, Nat.zero_le, Nat.reduceLeDiff, Nat.reduceAdd, Nat.reduceEqDiff, false_imp_iff, true_imp_iff, not_false_eq_true, not_true_eq_false, imp_self, forall_const]
        simp
      · rintro r' v ⟨rfl, rfl⟩
        exact ⟨⟨-1, rfl, rfl⟩, ⟨np, nf, ns, nd, tp, h⟩⟩
