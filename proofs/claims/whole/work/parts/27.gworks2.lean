/-! ===== the reference: works, whole ===== -/
theorem OWN_cast {m u v : AM} {nd d : Nat} (h : OWN m u nd d) (h1 : ∀ k, 36 ≤ k → k ≤ 47 → v k = m k) (h2 : ∀ k, 53 ≤ k → k ≤ 56 → v k = u k) : OWN v v nd d := by
  have eh : ∀ d n k w, hmn v d n k w = hmn m d n k w := fun d n k w => by unfold hmn; rw [h1 46 (by omega) (by omega), h1 47 (by omega) (by omega)]
  have em : ∀ d, mk v d = mk m d := fun d => by unfold mk; rw [h1 45 (by omega) (by omega)]
  have ehm : ∀ d k w, hm v d k w = hm m d k w := fun d k w => by unfold hm; rw [em, eh]
  have el : ∀ d n, lowS v d n = lowS m d n := fun d n => by
    unfold lowS
    simp only [eh]
    rw [h1 36 (by omega) (by omega), h1 38 (by omega) (by omega), h1 40 (by omega) (by omega), h1 42 (by omega) (by omega)]
  have ei : ∀ d n, hiS v d n = hiS m d n := fun d n => by
    unfold hiS
    simp only [eh]
    rw [h1 37 (by omega) (by omega), h1 39 (by omega) (by omega), h1 41 (by omega) (by omega), h1 43 (by omega) (by omega)]
  unfold OWN at h ⊢
  simp only [el, ei, em, ehm]
  rw [h2 53 (by omega) (by omega), h2 54 (by omega) (by omega), h2 55 (by omega) (by omega), h2 56 (by omega) (by omega)]
  exact h
theorem OWN_range {m u : AM} {nd d : Nat} (hd : d < 12) (hy : YOK m) (h : OWN m u nd d) : 0 ≤ (u 53 d).toInt ∧ (u 53 d).toInt ≤ 3000 ∧ 0 ≤ (u 54 d).toInt ∧ (u 54 d).toInt ≤ 3000 := by
  obtain ⟨⟨h1, -⟩, ⟨h2, -⟩, -⟩ := h
  have a : 0 ≤ (u 53 d).toInt ∧ (u 53 d).toInt ≤ 3000 := by
    rcases h1 with e | ⟨w, hw, -, e⟩ | ⟨w, hw, -, e⟩ | ⟨w, hw, -, e⟩
    · rw [e]; exact (hy.2.2.2 d hd).1
    · rw [e]; exact (hy.1 w hw).1
    · rw [e]; exact (hy.2.1 w hw).1
    · rw [e]; exact (hy.2.2.1 w hw).1
  have b : 0 ≤ (u 54 d).toInt ∧ (u 54 d).toInt ≤ 3000 := by
    rcases h2 with e | ⟨w, hw, -, e⟩ | ⟨w, hw, -, e⟩ | ⟨w, hw, -, e⟩
    · rw [e]; exact (hy.2.2.2 d hd).2
    · rw [e]; exact (hy.1 w hw).2
    · rw [e]; exact (hy.2.1 w hw).2
    · rw [e]; exact (hy.2.2.1 w hw).2
  exact ⟨a.1, a.2, b.1, b.2⟩
def WKQ (m : AM) (nd : Nat) : APost := fun z u => z = none ∧ WFR m u ∧ u 34 30 = 1 ∧ FRS u nd
theorem c_works (m : AM) (nd : Nat) (hP : PRE m nd) (hf : m 34 30 = 0 ∨ (m 34 30 = 1 ∧ FRS m nd)) : AC 3 kX6_works [.inr 34] m (WKQ m nd) := by
  obtain ⟨hM, hY, hW, hwt⟩ := hP
  have hnd := hM.1
  have hA := fullN_lt hnd
  refine AC_of own_X6_works (ls := [some (.inr 34), none, none, none]) (z := 3) (Nat.le_of_ble_eq_true rfl) rfl ?_
  rcases hf with hf | ⟨hf, hF⟩
  · refine st_X6_works_0 ?_; simp only [bX6_works_0, exP, stP, p1, p2, pr, pobj, parr, sh0, sh1, sh2, sh3, sh4, sh5, sh6, sh7, sh8, sh9, sh10, sh11, sh12, sh13, sh14, sh15, sh16, sh17, sh18, sh19, sh20, sh21, sh22, sh23, sh24, sh25, sh26, sh27, sh28, sh29, sh30, sh31, sh32, sh33, sh34, sh35, sh36, sh37, sh38, sh39, sh40, sh41, sh42, sh43, sh44, sh45, sh46, sh47, sh48, sh49, sh50, sh51, sh52, sh53, sh54, sh55, sh56, sh57, sh58, sh59, brP, brN, swP, amask, apush, List.getElem?_cons_zero, List.getElem?_cons_succ, List.set_cons_zero, List.set_cons_succ, List.take_succ_cons, List.take_zero, List.drop_succ_cons, List.drop_zero, List.reverse_cons, List.reverse_nil, List.nil_append, List.cons_append, List.length_cons, List.length_nil, true_and, and_true, Nat.zero_le, Nat.reduceLeDiff, Nat.reduceAdd, Nat.reduceEqDiff, false_imp_iff, true_imp_iff, not_false_eq_true, not_true_eq_false, imp_self, forall_const, hf]
    refine st_X6_works_8 ?_; simp only [bX6_works_8, exP, stP, p1, p2, pr, pobj, parr, sh0, sh1, sh2, sh3, sh4, sh5, sh6, sh7, sh8, sh9, sh10, sh11, sh12, sh13, sh14, sh15, sh16, sh17, sh18, sh19, sh20, sh21, sh22, sh23, sh24, sh25, sh26, sh27, sh28, sh29, sh30, sh31, sh32, sh33, sh34, sh35, sh36, sh37, sh38, sh39, sh40, sh41, sh42, sh43, sh44, sh45, sh46, sh47, sh48, sh49, sh50, sh51, sh52, sh53, sh54, sh55, sh56, sh57, sh58, sh59, brP, brN, swP, amask, apush, List.getElem?_cons_zero, List.getElem?_cons_succ, List.set_cons_zero, List.set_cons_succ, List.take_succ_cons, List.take_zero, List.drop_succ_cons, List.drop_zero, List.reverse_cons, List.reverse_nil, List.nil_append, List.cons_append, List.length_cons, List.length_nil, true_and, and_true, Nat.zero_le, Nat.reduceLeDiff, Nat.reduceAdd, Nat.reduceEqDiff, false_imp_iff, true_imp_iff, not_false_eq_true, not_true_eq_false, imp_self, forall_const, true_or]
    refine ⟨Or.inr (Or.inr trivial), ?_⟩
    have r0 : ∀ k, k ≠ 34 → aup m 34 (upd (m 34) 30 1) k = m k := fun k hk => aup_ne hk
    have s0 : ∀ j, j ≠ 30 → aup m 34 (upd (m 34) 30 1) 34 j = m 34 j := fun j hj => by rw [aup_eq, upd_ne hj]
    have t0 : aup m 34 (upd (m 34) 30 1) 34 30 = 1 := by rw [aup_eq, upd_eq]
    generalize aup m 34 (upd (m 34) 30 1) = m0 at r0 s0 t0 ⊢
    have hM0 : MOK m0 nd := by
      have em : ∀ d, mk m0 d = mk m d := fun d => by unfold mk; rw [r0 45 (by omega)]
      refine ⟨hnd, by rw [s0 6 (by omega)]; exact hM.2.1, fun d hd => ?_⟩
      rw [em, r0 45 (by omega), r0 46 (by omega), r0 47 (by omega)]
      exact hM.2.2 d hd
    refine ⟨_, ⟨2, by decide, c_owns m0 nd hM0⟩, ?_⟩
    rintro z u1 ⟨rfl, hFR, hOWN⟩
    simp only [exP, stP, p1, p2, pr, pobj, parr, sh0, sh1, sh2, sh3, sh4, sh5, sh6, sh7, sh8, sh9, sh10, sh11, sh12, sh13, sh14, sh15, sh16, sh17, sh18, sh19, sh20, sh21, sh22, sh23, sh24, sh25, sh26, sh27, sh28, sh29, sh30, sh31, sh32, sh33, sh34, sh35, sh36, sh37, sh38, sh39, sh40, sh41, sh42, sh43, sh44, sh45, sh46, sh47, sh48, sh49, sh50, sh51, sh52, sh53, sh54, sh55, sh56, sh57, sh58, sh59, brP, brN, swP, amask, apush, List.getElem?_cons_zero, List.getElem?_cons_succ, List.set_cons_zero, List.set_cons_succ, List.take_succ_cons, List.take_zero, List.drop_succ_cons, List.drop_zero, List.reverse_cons, List.reverse_nil, List.nil_append, List.cons_append, List.length_cons, List.length_nil, true_and, and_true, Nat.zero_le, Nat.reduceLeDiff, Nat.reduceAdd, Nat.reduceEqDiff, false_imp_iff, true_imp_iff, not_false_eq_true, not_true_eq_false, imp_self, forall_const]
    have u34 : u1 34 = m0 34 := hFR 34 (by omega) (by omega) (by omega) (by omega)
    rw [show u1 34 6 = nI nd by rw [u34]; exact hM0.2.1, shl_full nd hnd]
    have rb : ∀ k, k ≠ 34 → aup u1 34 (upd (u1 34) 33 0) k = u1 k := fun k hk => aup_ne hk
    have sb : ∀ j, j ≠ 33 → aup u1 34 (upd (u1 34) 33 0) 34 j = m0 34 j := fun j hj => by rw [aup_eq, upd_ne hj, u34]
    have tb : aup u1 34 (upd (u1 34) 33 0) 34 33 = 0 := by rw [aup_eq, upd_eq]
    generalize aup u1 34 (upd (u1 34) 33 0) = b at rb sb tb ⊢
    -- b: the memory behind owns
    have bk : ∀ k, k ≠ 34 → (k < 53 ∨ 56 < k) → b k = m k := fun k k1 k2 => by rw [rb k k1, hFR k (by omega) (by omega) (by omega) (by omega), r0 k k1]
    have b34 : ∀ j, j ≠ 30 → j ≠ 33 → b 34 j = m 34 j := fun j j1 j2 => by rw [sb j j2, s0 j j1]
    have bO : ∀ d, d < nd → OWN b b nd d := fun d hd => OWN_cast (hOWN d hd) (fun k k1 k2 => by rw [rb k (by omega)]; exact hFR k (by omega) (by omega) (by omega) (by omega)) (fun k k1 k2 => rb k (by omega))
    have bY : YOK b := YOK_congr (fun k k1 k2 => bk k (by omega) (by omega)) hY
    have bG : GW b nd := by
      refine ⟨hnd, by rw [b34 6 (by omega) (by omega)]; exact hM.2.1, fun d hd => OWN_range (by omega) bY (bO d hd), by rw [b34 2 (by omega) (by omega)]; exact hW, fun x y hx hy => ?_⟩
      have h1 := ((bO x hx).2.2 y hy).1
      have h2 := ((bO y hy).2.2 x hx).1
      have h3 : (b 55 (12 * x + y) ≠ 0) ↔ (b 55 (12 * y + x) ≠ 0) := by
        rw [h1, h2]
        constructor
        · rintro ⟨h, a1, a2, a3⟩; exact ⟨h, a1, a3, a2⟩
        · rintro ⟨h, a1, a2, a3⟩; exact ⟨h, a1, a3, a2⟩
      constructor
      · intro h
        exact Classical.byContradiction (fun q => h3.mpr q h)
      · intro h
        exact Classical.byContradiction (fun q => h3.mp q h)
    have bW : wtg b = wtg m := by funext i; unfold wtg; rw [bk 44 (by omega) (by omega)]
    have bW2 : ∀ i, i < nd → 0 ≤ wtg b i ∧ wtg b i ≤ 99 := fun i hi => by rw [bW]; have := hwt i hi; omega
    refine w_works1 _ b nd bG (fun v hv => ?_) (fullN nd + 1) 0 b (by omega) ⟨SG.rf b, fun x hx => by omega, 0, tb, by omega, Or.inl ⟨rfl, fun x hx => by omega⟩⟩
    obtain ⟨hS, hg, q, hq1, hq2, hq3⟩ := hv
    refine st_X6_works_90 ?_; simp only [bX6_works_90, exP, stP, p1, p2, pr, pobj, parr, sh0, sh1, sh2, sh3, sh4, sh5, sh6, sh7, sh8, sh9, sh10, sh11, sh12, sh13, sh14, sh15, sh16, sh17, sh18, sh19, sh20, sh21, sh22, sh23, sh24, sh25, sh26, sh27, sh28, sh29, sh30, sh31, sh32, sh33, sh34, sh35, sh36, sh37, sh38, sh39, sh40, sh41, sh42, sh43, sh44, sh45, sh46, sh47, sh48, sh49, sh50, sh51, sh52, sh53, sh54, sh55, sh56, sh57, sh58, sh59, brP, brN, swP, amask, apush, List.getElem?_cons_zero, List.getElem?_cons_succ, List.set_cons_zero, List.set_cons_succ, List.take_succ_cons, List.take_zero, List.drop_succ_cons, List.drop_zero, List.reverse_cons, List.reverse_nil, List.nil_append, List.cons_append, List.length_cons, List.length_nil, true_and, and_true, Nat.zero_le, Nat.reduceLeDiff, Nat.reduceAdd, Nat.reduceEqDiff, false_imp_iff, true_imp_iff, not_false_eq_true, not_true_eq_false, imp_self, forall_const, true_or]
    have e1 : nI (fullN nd) = nI (fullN nd + 1) - 1 := (nI_pred (fullN nd)).symm
    have fullA : agr (gF b) (gL b) (gC b) (dif (fullN nd) (fullN nd)) := agr_congr (t := 0) (fun i _ => by rw [dif_bit]; simp) agr_zero
    have qq : (q = 0 ∧ agr (gF b) (gL b) (gC b) (fullN nd)) ∨ isQ (gF b) (gL b) (gC b) (fullN nd) q := by
      rcases hq3 with ⟨a1, a2⟩ | ⟨a1, a2, a3⟩
      · exact Or.inl ⟨a1, a2 _ (by omega)⟩
      · refine Or.inr ⟨sub_fullN.mpr (le_fullN.mp (by omega)), a2, fun t ht hn => a3 t ?_ hn⟩
        have := le_fullN.mpr (sub_fullN.mp ht)
        omega
    have key := w_works2 (WKQ m nd) b nd bG bW2 (fun w hw => by
      obtain ⟨hSw, hgw, ⟨q', hq1', hq2'⟩, f, hf1, hf2, hf3, -, hf5⟩ := hw
      have hf6 : f < 4096 := by omega
      have hd := dif_le (A := fullN nd) (x := f)
      have hin : inN (dif (fullN nd) f) nd := dif_in (le_fullN.mp (Nat.le_refl _))
      have hisF : isF (gF b) (gL b) (gC b) (wtg b) (fullN nd) f := ⟨sub_fullN.mpr (le_fullN.mp hf2), hf3, fun t ht hat => hf5 t (by omega) (le_fullN.mpr (sub_fullN.mp ht)) hat⟩
      refine st_X6_works_165 ?_; simp only [bX6_works_165, exP, stP, p1, p2, pr, pobj, parr, sh0, sh1, sh2, sh3, sh4, sh5, sh6, sh7, sh8, sh9, sh10, sh11, sh12, sh13, sh14, sh15, sh16, sh17, sh18, sh19, sh20, sh21, sh22, sh23, sh24, sh25, sh26, sh27, sh28, sh29, sh30, sh31, sh32, sh33, sh34, sh35, sh36, sh37, sh38, sh39, sh40, sh41, sh42, sh43, sh44, sh45, sh46, sh47, sh48, sh49, sh50, sh51, sh52, sh53, sh54, sh55, sh56, sh57, sh58, sh59, brP, brN, swP, amask, apush, List.getElem?_cons_zero, List.getElem?_cons_succ, List.set_cons_zero, List.set_cons_succ, List.take_succ_cons, List.take_zero, List.drop_succ_cons, List.drop_zero, List.reverse_cons, List.reverse_nil, List.nil_append, List.cons_append, List.length_cons, List.length_nil, true_and, and_true, Nat.zero_le, Nat.reduceLeDiff, Nat.reduceAdd, Nat.reduceEqDiff, false_imp_iff, true_imp_iff, not_false_eq_true, not_true_eq_false, imp_self, forall_const]
      rw [hf1, and_not2 hA hf6]
      refine ⟨_, ⟨1, by decide, c_ups w nd _ (SG_GW hSw bG) (by omega) hin⟩, ?_⟩
      rintro z w1 ⟨rfl, a1, a2⟩
      have hS1 : SG b w1 := hSw.tr ⟨fun k _ k2 _ _ => a1 k k2, fun j _ _ => by rw [a1 34 (by omega)]⟩
      simp only [exP, stP, p1, p2, pr, pobj, parr, sh0, sh1, sh2, sh3, sh4, sh5, sh6, sh7, sh8, sh9, sh10, sh11, sh12, sh13, sh14, sh15, sh16, sh17, sh18, sh19, sh20, sh21, sh22, sh23, sh24, sh25, sh26, sh27, sh28, sh29, sh30, sh31, sh32, sh33, sh34, sh35, sh36, sh37, sh38, sh39, sh40, sh41, sh42, sh43, sh44, sh45, sh46, sh47, sh48, sh49, sh50, sh51, sh52, sh53, sh54, sh55, sh56, sh57, sh58, sh59, brP, brN, swP, amask, apush, List.getElem?_cons_zero, List.getElem?_cons_succ, List.set_cons_zero, List.set_cons_succ, List.take_succ_cons, List.take_zero, List.drop_succ_cons, List.drop_zero, List.reverse_cons, List.reverse_nil, List.nil_append, List.cons_append, List.length_cons, List.length_nil, true_and, and_true, Nat.zero_le, Nat.reduceLeDiff, Nat.reduceAdd, Nat.reduceEqDiff, false_imp_iff, true_imp_iff, not_false_eq_true, not_true_eq_false, imp_self, forall_const]
      rw [show w1 34 32 = nI f by rw [a1 34 (by omega)]; exact hf1, and_not2 hA hf6]
      refine ⟨_, ⟨1, by decide, c_downs w1 nd _ (SG_GW hS1 bG) (by omega) hin⟩, ?_⟩
      rintro z w2 ⟨rfl, c1, c2⟩
      have hS2 : SG b w2 := hS1.tr ⟨fun k _ _ k3 _ => c1 k k3, fun j _ _ => by rw [c1 34 (by omega)]⟩
      simp only [exP, stP, p1, p2, pr, pobj, parr, sh0, sh1, sh2, sh3, sh4, sh5, sh6, sh7, sh8, sh9, sh10, sh11, sh12, sh13, sh14, sh15, sh16, sh17, sh18, sh19, sh20, sh21, sh22, sh23, sh24, sh25, sh26, sh27, sh28, sh29, sh30, sh31, sh32, sh33, sh34, sh35, sh36, sh37, sh38, sh39, sh40, sh41, sh42, sh43, sh44, sh45, sh46, sh47, sh48, sh49, sh50, sh51, sh52, sh53, sh54, sh55, sh56, sh57, sh58, sh59, brP, brN, swP, amask, apush, List.getElem?_cons_zero, List.getElem?_cons_succ, List.set_cons_zero, List.set_cons_succ, List.take_succ_cons, List.take_zero, List.drop_succ_cons, List.drop_zero, List.reverse_cons, List.reverse_nil, List.nil_append, List.cons_append, List.length_cons, List.length_nil, true_and, and_true, Nat.zero_le, Nat.reduceLeDiff, Nat.reduceAdd, Nat.reduceEqDiff, false_imp_iff, true_imp_iff, not_false_eq_true, not_true_eq_false, imp_self, forall_const]
      rw [SG_F hSw, SG_C hSw] at a2
      rw [SG_L hS1, SG_C hS1] at c2
      have e34 : w2 34 = w 34 := by rw [c1 34 (by omega), a1 34 (by omega)]
      refine ⟨rfl, ⟨fun k k1 k2 => ?_, fun j j1 j2 j3 => ?_⟩, ?_, fun d hd => ?_, SG_GW hS2 bG, fun t ht => ?_, ⟨f, ?_, ?_, ?_, ?_⟩, q', ?_, ?_⟩
      · rw [hS2.1 k k1 (by omega) (by omega) (by omega)]; exact bk k k1 (by omega)
      · rw [hS2.2 j j2 j3]; exact b34 j j1 j3
      · rw [hS2.2 30 (by omega) (by omega), sb 30 (by omega)]; exact t0
      · exact OWN_cast (bO d hd) (fun k k1 k2 => hS2.1 k (by omega) (by omega) (by omega) (by omega)) (fun k k1 k2 => hS2.1 k (by omega) (by omega) (by omega) (by omega))
      · rw [SG_F hS2, SG_L hS2, SG_C hS2, c1 59 (by omega), a1 59 (by omega)]; exact hgw t ht
      · rw [e34]; exact hf1
      · rw [SG_F hS2, SG_L hS2, SG_C hS2, SG_W hS2]; exact hisF
      · rw [SG_F hS2, SG_C hS2, c1 57 (by omega)]; exact a2
      · rw [SG_L hS2, SG_C hS2]; exact c2
      · rw [e34]; exact hq1'
      · rw [SG_F hS2, SG_L hS2, SG_C hS2]; exact hq2')
    rw [e1]
    have := key (fullN nd + 1) (aup v 34 (upd (v 34) 32 (nI (fullN nd)))) (Nat.le_refl _) ⟨⟨fun k k1 k2 k3 k4 => by rw [aup_ne k1]; exact hS.1 k k1 k2 k3 k4, fun j j1 j2 => by rw [aup_eq, upd_ne j1]; exact hS.2 j j1 j2⟩, fun x hx => by rw [aup_ne (by omega)]; exact hg x (by omega), ⟨q, by rw [aup_eq, upd_ne (by omega)]; exact hq1, qq⟩, fullN nd, by rw [aup_eq, upd_eq], Nat.le_refl _, fullA, Or.inr rfl, fun x hx hxA => by omega⟩
    rw [← e1] at this ⊢
    exact this
  · refine st_X6_works_0 ?_; simp only [bX6_works_0, exP, stP, p1, p2, pr, pobj, parr, sh0, sh1, sh2, sh3, sh4, sh5, sh6, sh7, sh8, sh9, sh10, sh11, sh12, sh13, sh14, sh15, sh16, sh17, sh18, sh19, sh20, sh21, sh22, sh23, sh24, sh25, sh26, sh27, sh28, sh29, sh30, sh31, sh32, sh33, sh34, sh35, sh36, sh37, sh38, sh39, sh40, sh41, sh42, sh43, sh44, sh45, sh46, sh47, sh48, sh49, sh50, sh51, sh52, sh53, sh54, sh55, sh56, sh57, sh58, sh59, brP, brN, swP, amask, apush, List.getElem?_cons_zero, List.getElem?_cons_succ, List.set_cons_zero, List.set_cons_succ, List.take_succ_cons, List.take_zero, List.drop_succ_cons, List.drop_zero, List.reverse_cons, List.reverse_nil, List.nil_append, List.cons_append, List.length_cons, List.length_nil, true_and, and_true, Nat.zero_le, Nat.reduceLeDiff, Nat.reduceAdd, Nat.reduceEqDiff, false_imp_iff, true_imp_iff, not_false_eq_true, not_true_eq_false, imp_self, forall_const, hf]
    refine ⟨fun q => absurd q (by decide), fun _ => ?_⟩
    refine st_X6_works_7 ?_; simp only [bX6_works_7, exP, stP, p1, p2, pr, pobj, parr, sh0, sh1, sh2, sh3, sh4, sh5, sh6, sh7, sh8, sh9, sh10, sh11, sh12, sh13, sh14, sh15, sh16, sh17, sh18, sh19, sh20, sh21, sh22, sh23, sh24, sh25, sh26, sh27, sh28, sh29, sh30, sh31, sh32, sh33, sh34, sh35, sh36, sh37, sh38, sh39, sh40, sh41, sh42, sh43, sh44, sh45, sh46, sh47, sh48, sh49, sh50, sh51, sh52, sh53, sh54, sh55, sh56, sh57, sh58, sh59, brP, brN, swP, amask, apush, List.getElem?_cons_zero, List.getElem?_cons_succ, List.set_cons_zero, List.set_cons_succ, List.take_succ_cons, List.take_zero, List.drop_succ_cons, List.drop_zero, List.reverse_cons, List.reverse_nil, List.nil_append, List.cons_append, List.length_cons, List.length_nil, true_and, and_true, Nat.zero_le, Nat.reduceLeDiff, Nat.reduceAdd, Nat.reduceEqDiff, false_imp_iff, true_imp_iff, not_false_eq_true, not_true_eq_false, imp_self, forall_const]
    exact ⟨rfl, ⟨fun _ _ _ => rfl, fun _ _ _ _ => rfl⟩, hf, hF⟩
