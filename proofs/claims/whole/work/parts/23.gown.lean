/-! ===== the reference: marks and own years ===== -/
def mk (m : AM) (d : Nat) : Nat := (m 45 d).toNatClampNeg
/-- among the first n marks of d is one of kind k, which w -/
def hmn (m : AM) (d n k w : Nat) : Prop := ∃ i, i < n ∧ m 46 (8 * d + i) = nI k ∧ m 47 (8 * d + i) = nI w
def hm (m : AM) (d k w : Nat) : Prop := hmn m d (mk m d) k w
def wlim (k : Nat) : Nat := match k with
  | 0 => 20
  | 1 => 10
  | 2 => 8
  | 3 => 8
  | _ => 12
def MOK (m : AM) (nd : Nat) : Prop := nd ≤ 12 ∧ m 34 6 = nI nd ∧ ∀ d, d < nd → m 45 d = nI (mk m d) ∧ mk m d ≤ 8 ∧ ∀ i, i < mk m d → ∃ k w, k < 5 ∧ w < wlim k ∧ m 46 (8 * d + i) = nI k ∧ m 47 (8 * d + i) = nI w
theorem wlim_le (k : Nat) : wlim k ≤ 20 := by unfold wlim; split <;> omega
theorem nI_8 (a b : Nat) : (8 : Int32) * nI a + nI b = nI (8 * a + b) := by rw [nI_litmul _ 8, nI_add]
theorem nI_8' (a : Nat) : (8 : Int32) * nI a = nI (8 * a) := nI_litmul a 8
theorem c_hasMark (m : AM) (nd : Nat) (hM : MOK m nd) (d k w : Nat) (hd : d < nd) (hk : k < 5) (hw : w < 20) : AC 0 kX6_hasMark [.inr 34, .inl (nI d), .inl (nI k), .inl (nI w)] m (fun z u => m = u ∧ ∃ r, z = some (b01 r) ∧ (r = true ↔ hm m d k w)) := by
  obtain ⟨hnd, hn, hMd⟩ := hM
  obtain ⟨e45, hmk, hml⟩ := hMd d hd
  refine AC_of own_X6_hasMark (ls := [some (.inr 34), some (.inl (nI d)), some (.inl (nI k)), some (.inl (nI w)), none]) (z := 1) (Nat.le_of_ble_eq_true rfl) rfl ?_
  have vd := eq_true (vp_in_nI (show d < 12 by omega) (show 12 < 2 ^ 31 by omega))
  have cd := nI_clamp (show d < 2 ^ 31 by omega)
  have loop : ∀ (n j : Nat), j + n = mk m d → (¬ hmn m d j k w) → AW 0 kX6_hasMark (fun z u => m = u ∧ ∃ r, z = some (b01 r) ∧ (r = true ↔ hm m d k w)) 6 [some (.inr 34), some (.inl (nI d)), some (.inl (nI k)), some (.inl (nI w)), some (.inl (nI (8 * d + j)))] [] m := by
    intro n
    induction n with
    | zero =>
      intro j hj hno
      obtain rfl : j = mk m d := by omega
      refine st_X6_hasMark_6 ?_; simp only [bX6_hasMark_6, exP, stP, p1, p2, pr, pobj, parr, sh0, sh1, sh2, sh3, sh4, sh5, sh6, sh7, sh8, sh9, sh10, sh11, sh12, sh13, sh14, sh15, sh16, sh17, sh18, sh19, sh20, sh21, sh22, sh23, sh24, sh25, sh26, sh27, sh28, sh29, sh30, sh31, sh32, sh33, sh34, sh35, sh36, sh37, sh38, sh39, sh40, sh41, sh42, sh43, sh44, sh45, sh46, sh47, sh48, sh49, sh50, sh51, sh52, sh53, sh54, sh55, sh56, sh57, sh58, sh59, brP, brN, swP, amask, apush, List.getElem?_cons_zero, List.getElem?_cons_succ, List.set_cons_zero, List.set_cons_succ, List.take_succ_cons, List.take_zero, List.drop_succ_cons, List.drop_zero, List.reverse_cons, List.reverse_nil, List.nil_append, List.cons_append, List.length_cons, List.length_nil, true_and, and_true, Nat.zero_le, Nat.reduceLeDiff, Nat.reduceAdd, Nat.reduceEqDiff, false_imp_iff, true_imp_iff, not_false_eq_true, not_true_eq_false, imp_self, forall_const, vd, cd, nI_8', e45, nI_add, eq_true (nI_le (Nat.le_refl (8 * d + mk m d)) (show 8 * d + mk m d < 2 ^ 31 by omega))]
      refine st_X6_hasMark_52 ?_; simp only [bX6_hasMark_52, exP, stP, p1, p2, pr, pobj, parr, sh0, sh1, sh2, sh3, sh4, sh5, sh6, sh7, sh8, sh9, sh10, sh11, sh12, sh13, sh14, sh15, sh16, sh17, sh18, sh19, sh20, sh21, sh22, sh23, sh24, sh25, sh26, sh27, sh28, sh29, sh30, sh31, sh32, sh33, sh34, sh35, sh36, sh37, sh38, sh39, sh40, sh41, sh42, sh43, sh44, sh45, sh46, sh47, sh48, sh49, sh50, sh51, sh52, sh53, sh54, sh55, sh56, sh57, sh58, sh59, brP, brN, swP, amask, apush, List.getElem?_cons_zero, List.getElem?_cons_succ, List.set_cons_zero, List.set_cons_succ, List.take_succ_cons, List.take_zero, List.drop_succ_cons, List.drop_zero, List.reverse_cons, List.reverse_nil, List.nil_append, List.cons_append, List.length_cons, List.length_nil, true_and, and_true, Nat.zero_le, Nat.reduceLeDiff, Nat.reduceAdd, Nat.reduceEqDiff, false_imp_iff, true_imp_iff, not_false_eq_true, not_true_eq_false, imp_self, forall_const]
      exact ⟨Or.inr (Or.inl trivial), false, rfl, fun q => absurd q (by decide), fun q => absurd q hno⟩
    | succ n ih =>
      intro j hj hno
      obtain ⟨k', w', hk', hw', e46, e47⟩ := hml j (by omega)
      have hl := wlim_le k'
      have vx := eq_true (vp_in_nI (show 8 * d + j < 96 by omega) (show 96 < 2 ^ 31 by omega))
      have cx := nI_clamp (show 8 * d + j < 2 ^ 31 by omega)
      have next : ¬ (k' = k ∧ w' = w) → AW 0 kX6_hasMark (fun z u => m = u ∧ ∃ r, z = some (b01 r) ∧ (r = true ↔ hm m d k w)) 46 [some (.inr 34), some (.inl (nI d)), some (.inl (nI k)), some (.inl (nI w)), some (.inl (nI (8 * d + j)))] [] m := by
        intro hq
        refine st_X6_hasMark_46 ?_; simp only [bX6_hasMark_46, exP, stP, p1, p2, pr, pobj, parr, sh0, sh1, sh2, sh3, sh4, sh5, sh6, sh7, sh8, sh9, sh10, sh11, sh12, sh13, sh14, sh15, sh16, sh17, sh18, sh19, sh20, sh21, sh22, sh23, sh24, sh25, sh26, sh27, sh28, sh29, sh30, sh31, sh32, sh33, sh34, sh35, sh36, sh37, sh38, sh39, sh40, sh41, sh42, sh43, sh44, sh45, sh46, sh47, sh48, sh49, sh50, sh51, sh52, sh53, sh54, sh55, sh56, sh57, sh58, sh59, brP, brN, swP, amask, apush, List.getElem?_cons_zero, List.getElem?_cons_succ, List.set_cons_zero, List.set_cons_succ, List.take_succ_cons, List.take_zero, List.drop_succ_cons, List.drop_zero, List.reverse_cons, List.reverse_nil, List.nil_append, List.cons_append, List.length_cons, List.length_nil, true_and, and_true, Nat.zero_le, Nat.reduceLeDiff, Nat.reduceAdd, Nat.reduceEqDiff, false_imp_iff, true_imp_iff, not_false_eq_true, not_true_eq_false, imp_self, forall_const]
        rw [nI_1]
        refine ih (j + 1) (by omega) ?_
        rintro ⟨i, hi, h1, h2⟩
        by_cases r : i = j
        · subst r
          rw [e46] at h1
          rw [e47] at h2
          exact hq ⟨(nI_eq (by omega) (by omega)).mp h1, (nI_eq (by omega) (by omega)).mp h2⟩
        · exact hno ⟨i, by omega, h1, h2⟩
      refine st_X6_hasMark_6 ?_; simp only [bX6_hasMark_6, exP, stP, p1, p2, pr, pobj, parr, sh0, sh1, sh2, sh3, sh4, sh5, sh6, sh7, sh8, sh9, sh10, sh11, sh12, sh13, sh14, sh15, sh16, sh17, sh18, sh19, sh20, sh21, sh22, sh23, sh24, sh25, sh26, sh27, sh28, sh29, sh30, sh31, sh32, sh33, sh34, sh35, sh36, sh37, sh38, sh39, sh40, sh41, sh42, sh43, sh44, sh45, sh46, sh47, sh48, sh49, sh50, sh51, sh52, sh53, sh54, sh55, sh56, sh57, sh58, sh59, brP, brN, swP, amask, apush, List.getElem?_cons_zero, List.getElem?_cons_succ, List.set_cons_zero, List.set_cons_succ, List.take_succ_cons, List.take_zero, List.drop_succ_cons, List.drop_zero, List.reverse_cons, List.reverse_nil, List.nil_append, List.cons_append, List.length_cons, List.length_nil, true_and, and_true, Nat.zero_le, Nat.reduceLeDiff, Nat.reduceAdd, Nat.reduceEqDiff, false_imp_iff, true_imp_iff, not_false_eq_true, not_true_eq_false, imp_self, forall_const, vd, cd, nI_8', e45, nI_add, eq_false (nI_ge (show 8 * d + j < 8 * d + mk m d by omega) (show 8 * d + mk m d < 2 ^ 31 by omega))]
      refine st_X6_hasMark_22 ?_; simp only [bX6_hasMark_22, exP, stP, p1, p2, pr, pobj, parr, sh0, sh1, sh2, sh3, sh4, sh5, sh6, sh7, sh8, sh9, sh10, sh11, sh12, sh13, sh14, sh15, sh16, sh17, sh18, sh19, sh20, sh21, sh22, sh23, sh24, sh25, sh26, sh27, sh28, sh29, sh30, sh31, sh32, sh33, sh34, sh35, sh36, sh37, sh38, sh39, sh40, sh41, sh42, sh43, sh44, sh45, sh46, sh47, sh48, sh49, sh50, sh51, sh52, sh53, sh54, sh55, sh56, sh57, sh58, sh59, brP, brN, swP, amask, apush, List.getElem?_cons_zero, List.getElem?_cons_succ, List.set_cons_zero, List.set_cons_succ, List.take_succ_cons, List.take_zero, List.drop_succ_cons, List.drop_zero, List.reverse_cons, List.reverse_nil, List.nil_append, List.cons_append, List.length_cons, List.length_nil, true_and, and_true, Nat.zero_le, Nat.reduceLeDiff, Nat.reduceAdd, Nat.reduceEqDiff, false_imp_iff, true_imp_iff, not_false_eq_true, not_true_eq_false, imp_self, forall_const, vx, cx, e46, nI_inj (show k' < 2147483648 by omega) (show k < 2147483648 by omega)]
      refine ⟨fun c => next (fun q => c q.1), fun c => ?_⟩
      refine st_X6_hasMark_33 ?_; simp only [bX6_hasMark_33, exP, stP, p1, p2, pr, pobj, parr, sh0, sh1, sh2, sh3, sh4, sh5, sh6, sh7, sh8, sh9, sh10, sh11, sh12, sh13, sh14, sh15, sh16, sh17, sh18, sh19, sh20, sh21, sh22, sh23, sh24, sh25, sh26, sh27, sh28, sh29, sh30, sh31, sh32, sh33, sh34, sh35, sh36, sh37, sh38, sh39, sh40, sh41, sh42, sh43, sh44, sh45, sh46, sh47, sh48, sh49, sh50, sh51, sh52, sh53, sh54, sh55, sh56, sh57, sh58, sh59, brP, brN, swP, amask, apush, List.getElem?_cons_zero, List.getElem?_cons_succ, List.set_cons_zero, List.set_cons_succ, List.take_succ_cons, List.take_zero, List.drop_succ_cons, List.drop_zero, List.reverse_cons, List.reverse_nil, List.nil_append, List.cons_append, List.length_cons, List.length_nil, true_and, and_true, Nat.zero_le, Nat.reduceLeDiff, Nat.reduceAdd, Nat.reduceEqDiff, false_imp_iff, true_imp_iff, not_false_eq_true, not_true_eq_false, imp_self, forall_const, vx, cx, e47, nI_inj (show w' < 2147483648 by omega) (show w < 2147483648 by omega)]
      refine ⟨fun c1 => next (fun q => c1 q.2), fun c1 => ?_⟩
      refine st_X6_hasMark_44 ?_; simp only [bX6_hasMark_44, exP, stP, p1, p2, pr, pobj, parr, sh0, sh1, sh2, sh3, sh4, sh5, sh6, sh7, sh8, sh9, sh10, sh11, sh12, sh13, sh14, sh15, sh16, sh17, sh18, sh19, sh20, sh21, sh22, sh23, sh24, sh25, sh26, sh27, sh28, sh29, sh30, sh31, sh32, sh33, sh34, sh35, sh36, sh37, sh38, sh39, sh40, sh41, sh42, sh43, sh44, sh45, sh46, sh47, sh48, sh49, sh50, sh51, sh52, sh53, sh54, sh55, sh56, sh57, sh58, sh59, brP, brN, swP, amask, apush, List.getElem?_cons_zero, List.getElem?_cons_succ, List.set_cons_zero, List.set_cons_succ, List.take_succ_cons, List.take_zero, List.drop_succ_cons, List.drop_zero, List.reverse_cons, List.reverse_nil, List.nil_append, List.cons_append, List.length_cons, List.length_nil, true_and, and_true, Nat.zero_le, Nat.reduceLeDiff, Nat.reduceAdd, Nat.reduceEqDiff, false_imp_iff, true_imp_iff, not_false_eq_true, not_true_eq_false, imp_self, forall_const]
      subst c; subst c1
      exact ⟨Or.inr (Or.inr trivial), true, rfl, fun _ => ⟨j, by omega, e46, e47⟩, fun _ => rfl⟩
  refine st_X6_hasMark_0 ?_; simp only [bX6_hasMark_0, exP, stP, p1, p2, pr, pobj, parr, sh0, sh1, sh2, sh3, sh4, sh5, sh6, sh7, sh8, sh9, sh10, sh11, sh12, sh13, sh14, sh15, sh16, sh17, sh18, sh19, sh20, sh21, sh22, sh23, sh24, sh25, sh26, sh27, sh28, sh29, sh30, sh31, sh32, sh33, sh34, sh35, sh36, sh37, sh38, sh39, sh40, sh41, sh42, sh43, sh44, sh45, sh46, sh47, sh48, sh49, sh50, sh51, sh52, sh53, sh54, sh55, sh56, sh57, sh58, sh59, brP, brN, swP, amask, apush, List.getElem?_cons_zero, List.getElem?_cons_succ, List.set_cons_zero, List.set_cons_succ, List.take_succ_cons, List.take_zero, List.drop_succ_cons, List.drop_zero, List.reverse_cons, List.reverse_nil, List.nil_append, List.cons_append, List.length_cons, List.length_nil, true_and, and_true, Nat.zero_le, Nat.reduceLeDiff, Nat.reduceAdd, Nat.reduceEqDiff, false_imp_iff, true_imp_iff, not_false_eq_true, not_true_eq_false, imp_self, forall_const, nI_8']
  exact loop (mk m d) 0 (by omega) (by rintro ⟨i, hi, -⟩; omega)
def isMax (S : Int → Prop) (x : Int) : Prop := S x ∧ ∀ v, S v → v ≤ x
def isMin (S : Int → Prop) (x : Int) : Prop := S x ∧ ∀ v, S v → x ≤ v
theorem isMax_uniq {S : Int → Prop} {x y : Int} (h1 : isMax S x) (h2 : isMax S y) : x = y := by
  have := h1.2 y h2.1
  have := h2.2 x h1.1
  omega
theorem isMin_uniq {S : Int → Prop} {x y : Int} (h1 : isMin S x) (h2 : isMin S y) : x = y := by
  have := h1.2 y h2.1
  have := h2.2 x h1.1
  omega
theorem isMax_step {S S' : Int → Prop} {x a : Int} (h : isMax S x) (hs : ∀ v, S' v ↔ S v ∨ v = a) : isMax S' (if x < a then a else x) := by
  split
  · refine ⟨(hs a).mpr (Or.inr rfl), fun v hv => ?_⟩
    rcases (hs v).mp hv with q | q
    · have := h.2 v q; omega
    · omega
  · refine ⟨(hs x).mpr (Or.inl h.1), fun v hv => ?_⟩
    rcases (hs v).mp hv with q | q
    · exact h.2 v q
    · omega
theorem isMin_step {S S' : Int → Prop} {x a : Int} (h : isMin S x) (hs : ∀ v, S' v ↔ S v ∨ v = a) : isMin S' (if a < x then a else x) := by
  split
  · refine ⟨(hs a).mpr (Or.inr rfl), fun v hv => ?_⟩
    rcases (hs v).mp hv with q | q
    · have := h.2 v q; omega
    · omega
  · refine ⟨(hs x).mpr (Or.inl h.1), fun v hv => ?_⟩
    rcases (hs v).mp hv with q | q
    · exact h.2 v q
    · omega
theorem isMax_congr {S S' : Int → Prop} {x : Int} (h : isMax S x) (hs : ∀ v, S' v ↔ S v) : isMax S' x := ⟨(hs x).mpr h.1, fun v hv => h.2 v ((hs v).mp hv)⟩
theorem isMin_congr {S S' : Int → Prop} {x : Int} (h : isMin S x) (hs : ∀ v, S' v ↔ S v) : isMin S' x := ⟨(hs x).mpr h.1, fun v hv => h.2 v ((hs v).mp hv)⟩
theorem c_narrows (m : AM) (d : Nat) (hd : d < 12) (a b : Int32) : AC 0 kX6_narrows [.inr 34, .inl (nI d), .inl a, .inl b] m (fun z u => z = none ∧ (∀ k, k ≠ 53 → k ≠ 54 → u k = m k) ∧ (∀ j, j ≠ d → u 53 j = m 53 j ∧ u 54 j = m 54 j) ∧ (u 53 d).toInt = (if (m 53 d).toInt < a.toInt then a.toInt else (m 53 d).toInt) ∧ (u 54 d).toInt = (if b.toInt < (m 54 d).toInt then b.toInt else (m 54 d).toInt)) := by
  have vd := eq_true (vp_in_nI (show d < 12 by omega) (show 12 < 2 ^ 31 by omega))
  have cd := nI_clamp (show d < 2 ^ 31 by omega)
  refine AC_of own_X6_narrows (ls := [some (.inr 34), some (.inl (nI d)), some (.inl a), some (.inl b)]) (z := 0) (Nat.le_of_ble_eq_true rfl) rfl ?_
  have part2 : ∀ x : Int32, x.toInt = (if (m 53 d).toInt < a.toInt then a.toInt else (m 53 d).toInt) → AW 0 kX6_narrows (fun z u => z = none ∧ (∀ k, k ≠ 53 → k ≠ 54 → u k = m k) ∧ (∀ j, j ≠ d → u 53 j = m 53 j ∧ u 54 j = m 54 j) ∧ (u 53 d).toInt = (if (m 53 d).toInt < a.toInt then a.toInt else (m 53 d).toInt) ∧ (u 54 d).toInt = (if b.toInt < (m 54 d).toInt then b.toInt else (m 54 d).toInt)) 25 [some (.inr 34), some (.inl (nI d)), none, some (.inl b)] [.inl x, .inl (nI d), .inr 53] m := by
    intro x hx
    have fin : ∀ w : Int32, w.toInt = (if b.toInt < (m 54 d).toInt then b.toInt else (m 54 d).toInt) → AW 0 kX6_narrows (fun z u => z = none ∧ (∀ k, k ≠ 53 → k ≠ 54 → u k = m k) ∧ (∀ j, j ≠ d → u 53 j = m 53 j ∧ u 54 j = m 54 j) ∧ (u 53 d).toInt = (if (m 53 d).toInt < a.toInt then a.toInt else (m 53 d).toInt) ∧ (u 54 d).toInt = (if b.toInt < (m 54 d).toInt then b.toInt else (m 54 d).toInt)) 51 [none, none, none, none] [.inl w, .inl (nI d), .inr 54] (aup m 53 (upd (m 53) d x)) := by
      intro w hw
      refine st_X6_narrows_51 ?_; simp only [bX6_narrows_51, exP, stP, p1, p2, pr, pobj, parr, sh0, sh1, sh2, sh3, sh4, sh5, sh6, sh7, sh8, sh9, sh10, sh11, sh12, sh13, sh14, sh15, sh16, sh17, sh18, sh19, sh20, sh21, sh22, sh23, sh24, sh25, sh26, sh27, sh28, sh29, sh30, sh31, sh32, sh33, sh34, sh35, sh36, sh37, sh38, sh39, sh40, sh41, sh42, sh43, sh44, sh45, sh46, sh47, sh48, sh49, sh50, sh51, sh52, sh53, sh54, sh55, sh56, sh57, sh58, sh59, brP, brN, swP, amask, apush, List.getElem?_cons_zero, List.getElem?_cons_succ, List.set_cons_zero, List.set_cons_succ, List.take_succ_cons, List.take_zero, List.drop_succ_cons, List.drop_zero, List.reverse_cons, List.reverse_nil, List.nil_append, List.cons_append, List.length_cons, List.length_nil, true_and, and_true, Nat.zero_le, Nat.reduceLeDiff, Nat.reduceAdd, Nat.reduceEqDiff, false_imp_iff, true_imp_iff, not_false_eq_true, not_true_eq_false, imp_self, forall_const, vd, cd]
      refine ⟨fun k k1 k2 => by rw [aup_ne k2, aup_ne k1], fun j hj => ?_, ?_, ?_⟩
      · rw [aup_ne (by omega), aup_eq, aup_eq, aup_ne (by omega), upd_ne hj, upd_ne hj]
        exact ⟨rfl, rfl⟩
      · rw [aup_ne (by omega), aup_eq, upd_eq]; exact hx
      · rw [aup_eq, upd_eq]; exact hw
    have e54 : aup m 53 (upd (m 53) d x) 54 = m 54 := aup_ne (by omega)
    refine st_X6_narrows_25 ?_; simp only [bX6_narrows_25, exP, stP, p1, p2, pr, pobj, parr, sh0, sh1, sh2, sh3, sh4, sh5, sh6, sh7, sh8, sh9, sh10, sh11, sh12, sh13, sh14, sh15, sh16, sh17, sh18, sh19, sh20, sh21, sh22, sh23, sh24, sh25, sh26, sh27, sh28, sh29, sh30, sh31, sh32, sh33, sh34, sh35, sh36, sh37, sh38, sh39, sh40, sh41, sh42, sh43, sh44, sh45, sh46, sh47, sh48, sh49, sh50, sh51, sh52, sh53, sh54, sh55, sh56, sh57, sh58, sh59, brP, brN, swP, amask, apush, List.getElem?_cons_zero, List.getElem?_cons_succ, List.set_cons_zero, List.set_cons_succ, List.take_succ_cons, List.take_zero, List.drop_succ_cons, List.drop_zero, List.reverse_cons, List.reverse_nil, List.nil_append, List.cons_append, List.length_cons, List.length_nil, true_and, and_true, Nat.zero_le, Nat.reduceLeDiff, Nat.reduceAdd, Nat.reduceEqDiff, false_imp_iff, true_imp_iff, not_false_eq_true, not_true_eq_false, imp_self, forall_const, vd, cd, e54]
    refine ⟨fun c => ?_, fun c => ?_⟩
    · rw [Int32.le_iff_toInt_le] at c
      refine st_X6_narrows_45 ?_; simp only [bX6_narrows_45, exP, stP, p1, p2, pr, pobj, parr, sh0, sh1, sh2, sh3, sh4, sh5, sh6, sh7, sh8, sh9, sh10, sh11, sh12, sh13, sh14, sh15, sh16, sh17, sh18, sh19, sh20, sh21, sh22, sh23, sh24, sh25, sh26, sh27, sh28, sh29, sh30, sh31, sh32, sh33, sh34, sh35, sh36, sh37, sh38, sh39, sh40, sh41, sh42, sh43, sh44, sh45, sh46, sh47, sh48, sh49, sh50, sh51, sh52, sh53, sh54, sh55, sh56, sh57, sh58, sh59, brP, brN, swP, amask, apush, List.getElem?_cons_zero, List.getElem?_cons_succ, List.set_cons_zero, List.set_cons_succ, List.take_succ_cons, List.take_zero, List.drop_succ_cons, List.drop_zero, List.reverse_cons, List.reverse_nil, List.nil_append, List.cons_append, List.length_cons, List.length_nil, true_and, and_true, Nat.zero_le, Nat.reduceLeDiff, Nat.reduceAdd, Nat.reduceEqDiff, false_imp_iff, true_imp_iff, not_false_eq_true, not_true_eq_false, imp_self, forall_const, vd, cd, e54]
      refine fin _ ?_
      rw [if_neg (by omega)]
    · rw [Int32.le_iff_toInt_le] at c
      refine st_X6_narrows_41 ?_; simp only [bX6_narrows_41, exP, stP, p1, p2, pr, pobj, parr, sh0, sh1, sh2, sh3, sh4, sh5, sh6, sh7, sh8, sh9, sh10, sh11, sh12, sh13, sh14, sh15, sh16, sh17, sh18, sh19, sh20, sh21, sh22, sh23, sh24, sh25, sh26, sh27, sh28, sh29, sh30, sh31, sh32, sh33, sh34, sh35, sh36, sh37, sh38, sh39, sh40, sh41, sh42, sh43, sh44, sh45, sh46, sh47, sh48, sh49, sh50, sh51, sh52, sh53, sh54, sh55, sh56, sh57, sh58, sh59, brP, brN, swP, amask, apush, List.getElem?_cons_zero, List.getElem?_cons_succ, List.set_cons_zero, List.set_cons_succ, List.take_succ_cons, List.take_zero, List.drop_succ_cons, List.drop_zero, List.reverse_cons, List.reverse_nil, List.nil_append, List.cons_append, List.length_cons, List.length_nil, true_and, and_true, Nat.zero_le, Nat.reduceLeDiff, Nat.reduceAdd, Nat.reduceEqDiff, false_imp_iff, true_imp_iff, not_false_eq_true, not_true_eq_false, imp_self, forall_const]
      refine fin _ ?_
      rw [if_pos (by omega)]
  refine st_X6_narrows_0 ?_; simp only [bX6_narrows_0, exP, stP, p1, p2, pr, pobj, parr, sh0, sh1, sh2, sh3, sh4, sh5, sh6, sh7, sh8, sh9, sh10, sh11, sh12, sh13, sh14, sh15, sh16, sh17, sh18, sh19, sh20, sh21, sh22, sh23, sh24, sh25, sh26, sh27, sh28, sh29, sh30, sh31, sh32, sh33, sh34, sh35, sh36, sh37, sh38, sh39, sh40, sh41, sh42, sh43, sh44, sh45, sh46, sh47, sh48, sh49, sh50, sh51, sh52, sh53, sh54, sh55, sh56, sh57, sh58, sh59, brP, brN, swP, amask, apush, List.getElem?_cons_zero, List.getElem?_cons_succ, List.set_cons_zero, List.set_cons_succ, List.take_succ_cons, List.take_zero, List.drop_succ_cons, List.drop_zero, List.reverse_cons, List.reverse_nil, List.nil_append, List.cons_append, List.length_cons, List.length_nil, true_and, and_true, Nat.zero_le, Nat.reduceLeDiff, Nat.reduceAdd, Nat.reduceEqDiff, false_imp_iff, true_imp_iff, not_false_eq_true, not_true_eq_false, imp_self, forall_const, vd, cd]
  refine ⟨fun c => ?_, fun c => ?_⟩
  · rw [Int32.le_iff_toInt_le] at c
    refine st_X6_narrows_19 ?_; simp only [bX6_narrows_19, exP, stP, p1, p2, pr, pobj, parr, sh0, sh1, sh2, sh3, sh4, sh5, sh6, sh7, sh8, sh9, sh10, sh11, sh12, sh13, sh14, sh15, sh16, sh17, sh18, sh19, sh20, sh21, sh22, sh23, sh24, sh25, sh26, sh27, sh28, sh29, sh30, sh31, sh32, sh33, sh34, sh35, sh36, sh37, sh38, sh39, sh40, sh41, sh42, sh43, sh44, sh45, sh46, sh47, sh48, sh49, sh50, sh51, sh52, sh53, sh54, sh55, sh56, sh57, sh58, sh59, brP, brN, swP, amask, apush, List.getElem?_cons_zero, List.getElem?_cons_succ, List.set_cons_zero, List.set_cons_succ, List.take_succ_cons, List.take_zero, List.drop_succ_cons, List.drop_zero, List.reverse_cons, List.reverse_nil, List.nil_append, List.cons_append, List.length_cons, List.length_nil, true_and, and_true, Nat.zero_le, Nat.reduceLeDiff, Nat.reduceAdd, Nat.reduceEqDiff, false_imp_iff, true_imp_iff, not_false_eq_true, not_true_eq_false, imp_self, forall_const, vd, cd]
    refine part2 _ ?_
    rw [if_neg (by omega)]
  · rw [Int32.le_iff_toInt_le] at c
    refine st_X6_narrows_15 ?_; simp only [bX6_narrows_15, exP, stP, p1, p2, pr, pobj, parr, sh0, sh1, sh2, sh3, sh4, sh5, sh6, sh7, sh8, sh9, sh10, sh11, sh12, sh13, sh14, sh15, sh16, sh17, sh18, sh19, sh20, sh21, sh22, sh23, sh24, sh25, sh26, sh27, sh28, sh29, sh30, sh31, sh32, sh33, sh34, sh35, sh36, sh37, sh38, sh39, sh40, sh41, sh42, sh43, sh44, sh45, sh46, sh47, sh48, sh49, sh50, sh51, sh52, sh53, sh54, sh55, sh56, sh57, sh58, sh59, brP, brN, swP, amask, apush, List.getElem?_cons_zero, List.getElem?_cons_succ, List.set_cons_zero, List.set_cons_succ, List.take_succ_cons, List.take_zero, List.drop_succ_cons, List.drop_zero, List.reverse_cons, List.reverse_nil, List.nil_append, List.cons_append, List.length_cons, List.length_nil, true_and, and_true, Nat.zero_le, Nat.reduceLeDiff, Nat.reduceAdd, Nat.reduceEqDiff, false_imp_iff, true_imp_iff, not_false_eq_true, not_true_eq_false, imp_self, forall_const]
    refine part2 _ ?_
    rw [if_pos (by omega)]
def lowS (m : AM) (d n : Nat) : Int → Prop := fun v => v = (m 42 d).toInt ∨ (∃ w, w < 20 ∧ hmn m d n 0 w ∧ v = (m 36 w).toInt) ∨ (∃ w, w < 10 ∧ hmn m d n 1 w ∧ v = (m 38 w).toInt) ∨ (∃ w, w < 8 ∧ hmn m d n 2 w ∧ v = (m 40 w).toInt)
def hiS (m : AM) (d n : Nat) : Int → Prop := fun v => v = (m 43 d).toInt ∨ (∃ w, w < 20 ∧ hmn m d n 0 w ∧ v = (m 37 w).toInt) ∨ (∃ w, w < 10 ∧ hmn m d n 1 w ∧ v = (m 39 w).toInt) ∨ (∃ w, w < 8 ∧ hmn m d n 2 w ∧ v = (m 41 w).toInt)
theorem hmn_succ {m : AM} {d n k w k' w' : Nat} (hk : k < 5) (hw : w < 20) (hk' : k' < 5) (hw' : w' < 20) (e1 : m 46 (8 * d + n) = nI k) (e2 : m 47 (8 * d + n) = nI w) : hmn m d (n + 1) k' w' ↔ hmn m d n k' w' ∨ (k' = k ∧ w' = w) := by
  constructor
  · rintro ⟨i, hi, h1, h2⟩
    by_cases r : i = n
    · subst r
      rw [e1] at h1
      rw [e2] at h2
      exact Or.inr ⟨((nI_eq (by omega) (by omega)).mp h1).symm, ((nI_eq (by omega) (by omega)).mp h2).symm⟩
    · exact Or.inl ⟨i, by omega, h1, h2⟩
  · rintro (⟨i, hi, h1, h2⟩ | ⟨rfl, rfl⟩)
    · exact ⟨i, by omega, h1, h2⟩
    · exact ⟨n, by omega, e1, e2⟩
def rowF (k : Nat) : Nat := match k with
  | 0 => 36
  | 1 => 38
  | _ => 40
def rowT (k : Nat) : Nat := match k with
  | 0 => 37
  | 1 => 39
  | _ => 41
theorem lowS_succ {m : AM} {d n k w : Nat} (hk : k < 5) (hw : w < wlim k) (e1 : m 46 (8 * d + n) = nI k) (e2 : m 47 (8 * d + n) = nI w) : (k < 3 → ∀ v, lowS m d (n + 1) v ↔ lowS m d n v ∨ v = (m (rowF k) w).toInt) ∧ (¬ k < 3 → ∀ v, lowS m d (n + 1) v ↔ lowS m d n v) := by
  have hl := wlim_le k
  have hs : ∀ k' w', k' < 5 → w' < 20 → (hmn m d (n + 1) k' w' ↔ hmn m d n k' w' ∨ (k' = k ∧ w' = w)) := fun k' w' h1 h2 => hmn_succ hk (by omega) h1 h2 e1 e2
  constructor
  · intro h3 v
    have h3' : k = 0 ∨ k = 1 ∨ k = 2 := by omega
    unfold lowS
    constructor
    · rintro (h | ⟨x, hx, hh, hv⟩ | ⟨x, hx, hh, hv⟩ | ⟨x, hx, hh, hv⟩)
      · exact Or.inl (Or.inl h)
      · rcases (hs 0 x (by omega) (by omega)).mp hh with q | ⟨rfl, rfl⟩
        · exact Or.inl (Or.inr (Or.inl ⟨x, hx, q, hv⟩))
        · exact Or.inr hv
      · rcases (hs 1 x (by omega) (by omega)).mp hh with q | ⟨rfl, rfl⟩
        · exact Or.inl (Or.inr (Or.inr (Or.inl ⟨x, hx, q, hv⟩)))
        · exact Or.inr hv
      · rcases (hs 2 x (by omega) (by omega)).mp hh with q | ⟨rfl, rfl⟩
        · exact Or.inl (Or.inr (Or.inr (Or.inr ⟨x, hx, q, hv⟩)))
        · exact Or.inr hv
    · rintro ((h | ⟨x, hx, hh, hv⟩ | ⟨x, hx, hh, hv⟩ | ⟨x, hx, hh, hv⟩) | h)
      · exact Or.inl h
      · exact Or.inr (Or.inl ⟨x, hx, (hs 0 x (by omega) (by omega)).mpr (Or.inl hh), hv⟩)
      · exact Or.inr (Or.inr (Or.inl ⟨x, hx, (hs 1 x (by omega) (by omega)).mpr (Or.inl hh), hv⟩))
      · exact Or.inr (Or.inr (Or.inr ⟨x, hx, (hs 2 x (by omega) (by omega)).mpr (Or.inl hh), hv⟩))
      · rcases h3' with rfl | rfl | rfl
        · exact Or.inr (Or.inl ⟨w, hw, (hs 0 w (by omega) (by omega)).mpr (Or.inr ⟨rfl, rfl⟩), h⟩)
        · exact Or.inr (Or.inr (Or.inl ⟨w, hw, (hs 1 w (by omega) (by omega)).mpr (Or.inr ⟨rfl, rfl⟩), h⟩))
        · exact Or.inr (Or.inr (Or.inr ⟨w, hw, (hs 2 w (by omega) (by omega)).mpr (Or.inr ⟨rfl, rfl⟩), h⟩))
  · intro h3 v
    have t : ∀ k' w', k' < 3 → w' < 20 → (hmn m d (n + 1) k' w' ↔ hmn m d n k' w') := fun k' w' h1 h2 => by
      rw [hs k' w' (by omega) h2]
      constructor
      · rintro (q | q)
        · exact q
        · omega
      · intro q; exact Or.inl q
    unfold lowS
    constructor
    · rintro (h | ⟨x, hx, hh, hv⟩ | ⟨x, hx, hh, hv⟩ | ⟨x, hx, hh, hv⟩)
      · exact Or.inl h
      · exact Or.inr (Or.inl ⟨x, hx, (t 0 x (by omega) (by omega)).mp hh, hv⟩)
      · exact Or.inr (Or.inr (Or.inl ⟨x, hx, (t 1 x (by omega) (by omega)).mp hh, hv⟩))
      · exact Or.inr (Or.inr (Or.inr ⟨x, hx, (t 2 x (by omega) (by omega)).mp hh, hv⟩))
    · rintro (h | ⟨x, hx, hh, hv⟩ | ⟨x, hx, hh, hv⟩ | ⟨x, hx, hh, hv⟩)
      · exact Or.inl h
      · exact Or.inr (Or.inl ⟨x, hx, (t 0 x (by omega) (by omega)).mpr hh, hv⟩)
      · exact Or.inr (Or.inr (Or.inl ⟨x, hx, (t 1 x (by omega) (by omega)).mpr hh, hv⟩))
      · exact Or.inr (Or.inr (Or.inr ⟨x, hx, (t 2 x (by omega) (by omega)).mpr hh, hv⟩))
theorem hiS_succ {m : AM} {d n k w : Nat} (hk : k < 5) (hw : w < wlim k) (e1 : m 46 (8 * d + n) = nI k) (e2 : m 47 (8 * d + n) = nI w) : (k < 3 → ∀ v, hiS m d (n + 1) v ↔ hiS m d n v ∨ v = (m (rowT k) w).toInt) ∧ (¬ k < 3 → ∀ v, hiS m d (n + 1) v ↔ hiS m d n v) := by
  have hl := wlim_le k
  have hs : ∀ k' w', k' < 5 → w' < 20 → (hmn m d (n + 1) k' w' ↔ hmn m d n k' w' ∨ (k' = k ∧ w' = w)) := fun k' w' h1 h2 => hmn_succ hk (by omega) h1 h2 e1 e2
  constructor
  · intro h3 v
    have h3' : k = 0 ∨ k = 1 ∨ k = 2 := by omega
    unfold hiS
    constructor
    · rintro (h | ⟨x, hx, hh, hv⟩ | ⟨x, hx, hh, hv⟩ | ⟨x, hx, hh, hv⟩)
      · exact Or.inl (Or.inl h)
      · rcases (hs 0 x (by omega) (by omega)).mp hh with q | ⟨rfl, rfl⟩
        · exact Or.inl (Or.inr (Or.inl ⟨x, hx, q, hv⟩))
        · exact Or.inr hv
      · rcases (hs 1 x (by omega) (by omega)).mp hh with q | ⟨rfl, rfl⟩
        · exact Or.inl (Or.inr (Or.inr (Or.inl ⟨x, hx, q, hv⟩)))
        · exact Or.inr hv
      · rcases (hs 2 x (by omega) (by omega)).mp hh with q | ⟨rfl, rfl⟩
        · exact Or.inl (Or.inr (Or.inr (Or.inr ⟨x, hx, q, hv⟩)))
        · exact Or.inr hv
    · rintro ((h | ⟨x, hx, hh, hv⟩ | ⟨x, hx, hh, hv⟩ | ⟨x, hx, hh, hv⟩) | h)
      · exact Or.inl h
      · exact Or.inr (Or.inl ⟨x, hx, (hs 0 x (by omega) (by omega)).mpr (Or.inl hh), hv⟩)
      · exact Or.inr (Or.inr (Or.inl ⟨x, hx, (hs 1 x (by omega) (by omega)).mpr (Or.inl hh), hv⟩))
      · exact Or.inr (Or.inr (Or.inr ⟨x, hx, (hs 2 x (by omega) (by omega)).mpr (Or.inl hh), hv⟩))
      · rcases h3' with rfl | rfl | rfl
        · exact Or.inr (Or.inl ⟨w, hw, (hs 0 w (by omega) (by omega)).mpr (Or.inr ⟨rfl, rfl⟩), h⟩)
        · exact Or.inr (Or.inr (Or.inl ⟨w, hw, (hs 1 w (by omega) (by omega)).mpr (Or.inr ⟨rfl, rfl⟩), h⟩))
        · exact Or.inr (Or.inr (Or.inr ⟨w, hw, (hs 2 w (by omega) (by omega)).mpr (Or.inr ⟨rfl, rfl⟩), h⟩))
  · intro h3 v
    have t : ∀ k' w', k' < 3 → w' < 20 → (hmn m d (n + 1) k' w' ↔ hmn m d n k' w') := fun k' w' h1 h2 => by
      rw [hs k' w' (by omega) h2]
      constructor
      · rintro (q | q)
        · exact q
        · omega
      · intro q; exact Or.inl q
    unfold hiS
    constructor
    · rintro (h | ⟨x, hx, hh, hv⟩ | ⟨x, hx, hh, hv⟩ | ⟨x, hx, hh, hv⟩)
      · exact Or.inl h
      · exact Or.inr (Or.inl ⟨x, hx, (t 0 x (by omega) (by omega)).mp hh, hv⟩)
      · exact Or.inr (Or.inr (Or.inl ⟨x, hx, (t 1 x (by omega) (by omega)).mp hh, hv⟩))
      · exact Or.inr (Or.inr (Or.inr ⟨x, hx, (t 2 x (by omega) (by omega)).mp hh, hv⟩))
    · rintro (h | ⟨x, hx, hh, hv⟩ | ⟨x, hx, hh, hv⟩ | ⟨x, hx, hh, hv⟩)
      · exact Or.inl h
      · exact Or.inr (Or.inl ⟨x, hx, (t 0 x (by omega) (by omega)).mpr hh, hv⟩)
      · exact Or.inr (Or.inr (Or.inl ⟨x, hx, (t 1 x (by omega) (by omega)).mpr hh, hv⟩))
      · exact Or.inr (Or.inr (Or.inr ⟨x, hx, (t 2 x (by omega) (by omega)).mpr hh, hv⟩))
