/-! ===== the class: settle ===== -/
def CPRE (m : AM) (nd : Nat) : Prop := nd ≤ 12 ∧ m 10 2 = nI nd ∧ (∀ i, i < 20 → 0 ≤ (m 2 i).toInt ∧ (m 2 i).toInt ≤ 3000 ∧ 0 ≤ (m 3 i).toInt ∧ (m 3 i).toInt ≤ 3000) ∧ (∀ i, i < 10 → 0 ≤ (m 5 i).toInt ∧ (m 5 i).toInt ≤ 3000 ∧ 0 ≤ (m 6 i).toInt ∧ (m 6 i).toInt ≤ 3000) ∧ (∀ i, i < 8 → 0 ≤ (m 8 i).toInt ∧ (m 8 i).toInt ≤ 3000 ∧ 0 ≤ (m 9 i).toInt ∧ (m 9 i).toInt ≤ 3000) ∧ (∀ i, i < 12 → 0 ≤ (m 11 i).toInt ∧ (m 11 i).toInt ≤ 3000 ∧ 0 ≤ (m 12 i).toInt ∧ (m 12 i).toInt ≤ 3000) ∧ (0 ≤ (m 15 9).toInt ∧ (m 15 9).toInt ≤ 200) ∧ WOK m ∧ ∀ i, i < nd → 1 ≤ wtm m i
/-- the rules of deed d, as settle lays them -/
def CRL (m u : AM) (nd d : Nat) : Prop := isMax (cLow m nd d) (u 16 d).toInt ∧ isMin (cHi m nd d) (u 17 d).toInt ∧ u 19 d = m 14 (4 * 12 + d) ∧ ∀ e, e < 32 → (bt (u 18 d) e = true ↔ e < 12 ∧ shH m d e)
def CST (u : AM) (nd : Nat) : Prop := (∀ d, d < 12 → CRL u u nd d) ∧ TW u ∧ ∃ f, u 0 11 = nI (dif (fullN nd) f) ∧ isF (nF u) (nL u) (nC u) (wtm u) (fullN nd) f ∧ isM (nF u) (nC u) (dif (fullN nd) f) (fun b => (u 20 b).toInt) ∧ isG (nL u) (nC u) (dif (fullN nd) f) (fun b => (u 21 b).toInt)
def CFR (m u : AM) : Prop := (∀ k, k ≠ 0 → k ≠ 15 → (k < 16 ∨ 25 < k) → u k = m k) ∧ (∀ j, j ≠ 11 → j ≠ 12 → u 0 j = m 0 j) ∧ ∀ j, j ≠ 10 → u 15 j = m 15 j
theorem CRL_range {m u : AM} {nd d : Nat} (hd : d < 12) (hp : CPRE m nd) (h : CRL m u nd d) : 0 ≤ (u 16 d).toInt ∧ (u 16 d).toInt ≤ 3000 ∧ 0 ≤ (u 17 d).toInt ∧ (u 17 d).toInt ≤ 3000 := by
  obtain ⟨-, -, y1, y2, y3, y4, -⟩ := hp
  obtain ⟨⟨h1, -⟩, ⟨h2, -⟩, -⟩ := h
  have a : 0 ≤ (u 16 d).toInt ∧ (u 16 d).toInt ≤ 3000 := by
    rcases h1 with e | ⟨w, hw, -, e⟩ | ⟨w, hw, -, e⟩ | ⟨w, hw, -, e⟩
    · rw [e]
      have := y4 d hd
      split <;> omega
    · have := y1 w hw; omega
    · have := y2 w hw; omega
    · have := y3 w hw; omega
  have b : 0 ≤ (u 17 d).toInt ∧ (u 17 d).toInt ≤ 3000 := by
    rcases h2 with e | ⟨w, hw, -, e⟩ | ⟨w, hw, -, e⟩ | ⟨w, hw, -, e⟩
    · rw [e]
      have := y4 d hd
      split <;> omega
    · have := y1 w hw; omega
    · have := y2 w hw; omega
    · have := y3 w hw; omega
  exact ⟨a.1, a.2, b.1, b.2⟩
theorem CRL_cast {m u v : AM} {nd d : Nat} (h : CRL m u nd d) (h1 : ∀ k, k ≠ 0 → k < 15 → v k = m k) (h2 : ∀ k, 16 ≤ k → k ≤ 19 → v k = u k) : CRL v v nd d := by
  unfold CRL cLow cHi shH at h ⊢
  rw [h1 2 (by omega) (by omega), h1 3 (by omega) (by omega), h1 5 (by omega) (by omega), h1 6 (by omega) (by omega), h1 8 (by omega) (by omega), h1 9 (by omega) (by omega), h1 11 (by omega) (by omega), h1 12 (by omega) (by omega), h1 14 (by omega) (by omega), h2 16 (by omega) (by omega), h2 17 (by omega) (by omega), h2 18 (by omega) (by omega), h2 19 (by omega) (by omega)]
  exact h
def STQ (m : AM) (nd : Nat) : APost := fun z u => z = none ∧ CFR m u ∧ u 0 12 = 1 ∧ CST u nd
def SLI (m u : AM) (nd j : Nat) : Prop := (∀ k, k ≠ 16 → k ≠ 17 → k ≠ 18 → k ≠ 19 → u k = m k) ∧ ∀ d, d < j → CRL m u nd d
theorem c_settle (m : AM) (nd : Nat) (hp : CPRE m nd) (hs : m 0 12 = 0 ∨ (m 0 12 = 1 ∧ CST m nd)) : AC 19 kX5_settle [.inr 0] m (STQ m nd) := by
  have hp0 := hp
  obtain ⟨hnd, hn, -, -, -, -, pw, hwok, hpos⟩ := hp
  have hA := fullN_lt hnd
  have hA12 : low12 (fullN nd) := lt_low12 hA
  refine AC_of own_X5_settle (ls := [some (.inr 0), none]) (z := 1) (Nat.le_of_ble_eq_true rfl) rfl ?_
  rcases hs with hs | ⟨hs, hC⟩
  · have loop : ∀ (n j : Nat) (u : AM), j + n = 12 → SLI m u nd j → AW 19 kX5_settle (STQ m nd) 10 [some (.inr 0), some (.inl (nI j))] [] u := by
      intro n
      induction n with
      | zero =>
        intro j u hj hI
        obtain rfl : j = 12 := by omega
        obtain ⟨h1, h2⟩ := hI
        have hnu : u 10 2 = nI nd := by rw [h1 10 (by omega) (by omega) (by omega) (by omega)]; exact hn
        have uO : ∀ d, d < 12 → CRL u u nd d := fun d hd => CRL_cast (h2 d hd) (fun k _ k2 => h1 k (by omega) (by omega) (by omega) (by omega)) (fun k _ _ => rfl)
        have hTW : TW u := ⟨fun d hd => CRL_range hd hp0 (h2 d hd), by rw [h1 15 (by omega) (by omega) (by omega) (by omega)]; exact pw⟩
        have hW : wtm u = wtm m := by funext i; unfold wtm; rw [h1 26 (by omega) (by omega) (by omega) (by omega)]
        have hwok' : WOK u := by unfold WOK; rw [hW]; exact hwok
        refine st_X5_settle_10 ?_; simp only [bX5_settle_10, exP, stP, p1, p2, pr, pobj, parr, sh0, sh1, sh2, sh3, sh4, sh5, sh6, sh7, sh8, sh9, sh10, sh11, sh12, sh13, sh14, sh15, sh16, sh17, sh18, sh19, sh20, sh21, sh22, sh23, sh24, sh25, sh26, sh27, sh28, sh29, sh30, sh31, sh32, sh33, sh34, sh35, sh36, sh37, sh38, sh39, sh40, sh41, sh42, sh43, sh44, sh45, sh46, sh47, sh48, sh49, sh50, sh51, sh52, sh53, sh54, sh55, sh56, sh57, sh58, sh59, brP, brN, swP, amask, apush, List.getElem?_cons_zero, List.getElem?_cons_succ, List.set_cons_zero, List.set_cons_succ, List.take_succ_cons, List.take_zero, List.drop_succ_cons, List.drop_zero, List.reverse_cons, List.reverse_nil, List.nil_append, List.cons_append, List.length_cons, List.length_nil, true_and, and_true, Nat.zero_le, Nat.reduceLeDiff, Nat.reduceAdd, Nat.reduceEqDiff, false_imp_iff, true_imp_iff, not_false_eq_true, not_true_eq_false, imp_self, forall_const, lit_le (k := 12) (n := 12) (by omega) (by omega)]
        refine st_X5_settle_85 ?_; simp only [bX5_settle_85, exP, stP, p1, p2, pr, pobj, parr, sh0, sh1, sh2, sh3, sh4, sh5, sh6, sh7, sh8, sh9, sh10, sh11, sh12, sh13, sh14, sh15, sh16, sh17, sh18, sh19, sh20, sh21, sh22, sh23, sh24, sh25, sh26, sh27, sh28, sh29, sh30, sh31, sh32, sh33, sh34, sh35, sh36, sh37, sh38, sh39, sh40, sh41, sh42, sh43, sh44, sh45, sh46, sh47, sh48, sh49, sh50, sh51, sh52, sh53, sh54, sh55, sh56, sh57, sh58, sh59, brP, brN, swP, amask, apush, List.getElem?_cons_zero, List.getElem?_cons_succ, List.set_cons_zero, List.set_cons_succ, List.take_succ_cons, List.take_zero, List.drop_succ_cons, List.drop_zero, List.reverse_cons, List.reverse_nil, List.nil_append, List.cons_append, List.length_cons, List.length_nil, true_and, and_true, Nat.zero_le, Nat.reduceLeDiff, Nat.reduceAdd, Nat.reduceEqDiff, false_imp_iff, true_imp_iff, not_false_eq_true, not_true_eq_false, imp_self, forall_const]
        refine ⟨_, ⟨0, by decide, c_allDeeds u nd hnd hnu⟩, ?_⟩; rintro _ _ ⟨rfl, rfl⟩; simp only [exP, stP, p1, p2, pr, pobj, parr, sh0, sh1, sh2, sh3, sh4, sh5, sh6, sh7, sh8, sh9, sh10, sh11, sh12, sh13, sh14, sh15, sh16, sh17, sh18, sh19, sh20, sh21, sh22, sh23, sh24, sh25, sh26, sh27, sh28, sh29, sh30, sh31, sh32, sh33, sh34, sh35, sh36, sh37, sh38, sh39, sh40, sh41, sh42, sh43, sh44, sh45, sh46, sh47, sh48, sh49, sh50, sh51, sh52, sh53, sh54, sh55, sh56, sh57, sh58, sh59, brP, brN, swP, amask, apush, List.getElem?_cons_zero, List.getElem?_cons_succ, List.set_cons_zero, List.set_cons_succ, List.take_succ_cons, List.take_zero, List.drop_succ_cons, List.drop_zero, List.reverse_cons, List.reverse_nil, List.nil_append, List.cons_append, List.length_cons, List.length_nil, true_and, and_true, Nat.zero_le, Nat.reduceLeDiff, Nat.reduceAdd, Nat.reduceEqDiff, false_imp_iff, true_imp_iff, not_false_eq_true, not_true_eq_false, imp_self, forall_const]
        refine ⟨_, ⟨0, by decide, c_allDeeds u nd hnd hnu⟩, ?_⟩; rintro _ _ ⟨rfl, rfl⟩; simp only [exP, stP, p1, p2, pr, pobj, parr, sh0, sh1, sh2, sh3, sh4, sh5, sh6, sh7, sh8, sh9, sh10, sh11, sh12, sh13, sh14, sh15, sh16, sh17, sh18, sh19, sh20, sh21, sh22, sh23, sh24, sh25, sh26, sh27, sh28, sh29, sh30, sh31, sh32, sh33, sh34, sh35, sh36, sh37, sh38, sh39, sh40, sh41, sh42, sh43, sh44, sh45, sh46, sh47, sh48, sh49, sh50, sh51, sh52, sh53, sh54, sh55, sh56, sh57, sh58, sh59, brP, brN, swP, amask, apush, List.getElem?_cons_zero, List.getElem?_cons_succ, List.set_cons_zero, List.set_cons_succ, List.take_succ_cons, List.take_zero, List.drop_succ_cons, List.drop_zero, List.reverse_cons, List.reverse_nil, List.nil_append, List.cons_append, List.length_cons, List.length_nil, true_and, and_true, Nat.zero_le, Nat.reduceLeDiff, Nat.reduceAdd, Nat.reduceEqDiff, false_imp_iff, true_imp_iff, not_false_eq_true, not_true_eq_false, imp_self, forall_const]
        refine ⟨_, ⟨18, by decide, c_lightest u (fullN nd) hA12 hTW hwok' (fun i hi => by rw [fullN_bit] at hi; rw [hW]; exact hpos i (by simpa using hi))⟩, ?_⟩
        rintro z v ⟨hSM, f, rfl, hf12, hf⟩
        simp only [exP, stP, p1, p2, pr, pobj, parr, sh0, sh1, sh2, sh3, sh4, sh5, sh6, sh7, sh8, sh9, sh10, sh11, sh12, sh13, sh14, sh15, sh16, sh17, sh18, sh19, sh20, sh21, sh22, sh23, sh24, sh25, sh26, sh27, sh28, sh29, sh30, sh31, sh32, sh33, sh34, sh35, sh36, sh37, sh38, sh39, sh40, sh41, sh42, sh43, sh44, sh45, sh46, sh47, sh48, sh49, sh50, sh51, sh52, sh53, sh54, sh55, sh56, sh57, sh58, sh59, brP, brN, swP, amask, apush, List.getElem?_cons_zero, List.getElem?_cons_succ, List.set_cons_zero, List.set_cons_succ, List.take_succ_cons, List.take_zero, List.drop_succ_cons, List.drop_zero, List.reverse_cons, List.reverse_nil, List.nil_append, List.cons_append, List.length_cons, List.length_nil, true_and, and_true, Nat.zero_le, Nat.reduceLeDiff, Nat.reduceAdd, Nat.reduceEqDiff, false_imp_iff, true_imp_iff, not_false_eq_true, not_true_eq_false, imp_self, forall_const, true_or]
        rw [and_not2 hA (low12_lt hf12)]
        have hd := dif_le (A := fullN nd) (x := f)
        have r0 : ∀ k, k ≠ 0 → aup v 0 (upd (v 0) 11 (nI (dif (fullN nd) f))) k = v k := fun k hk => aup_ne hk
        have s0 : ∀ j, j ≠ 11 → aup v 0 (upd (v 0) 11 (nI (dif (fullN nd) f))) 0 j = v 0 j := fun j hj => by rw [aup_eq, upd_ne hj]
        have t0 : aup v 0 (upd (v 0) 11 (nI (dif (fullN nd) f))) 0 11 = nI (dif (fullN nd) f) := by rw [aup_eq, upd_eq]
        generalize aup v 0 (upd (v 0) 11 (nI (dif (fullN nd) f))) = w at r0 s0 t0 ⊢
        rw [t0]
        have wF : nF w = nF u := by rw [← hSM.eF]; funext d; unfold nF; rw [r0 16 (by omega)]
        have wL : nL w = nL u := by rw [← hSM.eL]; funext d; unfold nL; rw [r0 17 (by omega)]
        have wC : nC w = nC u := by rw [← hSM.eC]; funext a b; unfold nC; rw [r0 19 (by omega), r0 18 (by omega), r0 15 (by omega)]
        have wT : TW w := by
          unfold TW
          rw [wF, wL, r0 15 (by omega), hSM.2 9 (by omega)]
          exact hTW
        refine ⟨_, ⟨3, by decide, c_keepYears w wT (dif (fullN nd) f) (by omega)⟩, ?_⟩
        rintro z x ⟨rfl, k1, k2, k3, k4⟩
        simp only [exP, stP, p1, p2, pr, pobj, parr, sh0, sh1, sh2, sh3, sh4, sh5, sh6, sh7, sh8, sh9, sh10, sh11, sh12, sh13, sh14, sh15, sh16, sh17, sh18, sh19, sh20, sh21, sh22, sh23, sh24, sh25, sh26, sh27, sh28, sh29, sh30, sh31, sh32, sh33, sh34, sh35, sh36, sh37, sh38, sh39, sh40, sh41, sh42, sh43, sh44, sh45, sh46, sh47, sh48, sh49, sh50, sh51, sh52, sh53, sh54, sh55, sh56, sh57, sh58, sh59, brP, brN, swP, amask, apush, List.getElem?_cons_zero, List.getElem?_cons_succ, List.set_cons_zero, List.set_cons_succ, List.take_succ_cons, List.take_zero, List.drop_succ_cons, List.drop_zero, List.reverse_cons, List.reverse_nil, List.nil_append, List.cons_append, List.length_cons, List.length_nil, true_and, and_true, Nat.zero_le, Nat.reduceLeDiff, Nat.reduceAdd, Nat.reduceEqDiff, false_imp_iff, true_imp_iff, not_false_eq_true, not_true_eq_false, imp_self, forall_const, true_or, or_true]
        rw [wF, wC] at k3
        rw [wF, wL, wC] at k4
        have k5 := k4 hf.2.1
        have xr : ∀ k, k ≠ 0 → aup x 0 (upd (x 0) 12 1) k = x k := fun k hk => aup_ne hk
        have xs : ∀ j, j ≠ 12 → aup x 0 (upd (x 0) 12 1) 0 j = x 0 j := fun j hj => by rw [aup_eq, upd_ne hj]
        have xt : aup x 0 (upd (x 0) 12 1) 0 12 = 1 := by rw [aup_eq, upd_eq]
        generalize aup x 0 (upd (x 0) 12 1) = y at xr xs xt ⊢
        -- rows of y
        have yk : ∀ k, k ≠ 0 → k ≠ 15 → (k < 20 ∨ 25 < k) → y k = u k := fun k a1 a2 a3 => by
          rw [xr k a1, k1 k a2 (by omega) (by omega) (by omega) (by omega) (by omega), r0 k a1]
          exact hSM.1 k a2 (by omega) (by omega) (by omega) (by omega)
        have y15 : ∀ j, j ≠ 10 → y 15 j = u 15 j := fun j hj => by rw [xr 15 (by omega), k2 j hj, r0 15 (by omega)]; exact hSM.2 j hj
        have yF : nF y = nF u := by funext d; unfold nF; rw [yk 16 (by omega) (by omega) (by omega)]
        have yL : nL y = nL u := by funext d; unfold nL; rw [yk 17 (by omega) (by omega) (by omega)]
        have yC : nC y = nC u := by funext a b; unfold nC; rw [yk 19 (by omega) (by omega) (by omega), yk 18 (by omega) (by omega) (by omega), y15 9 (by omega)]
        have yW : wtm y = wtm u := by funext i; unfold wtm; rw [yk 26 (by omega) (by omega) (by omega)]
        refine ⟨rfl, ⟨fun k a1 a2 a3 => ?_, fun j j1 j2 => ?_, fun j hj => ?_⟩, xt, fun d hd => ?_, ?_, f, ?_, ?_, ?_, ?_⟩
        · rw [yk k a1 a2 (by omega)]; exact h1 k (by omega) (by omega) (by omega) (by omega)
        · rw [xs j j2, k1 0 (by omega) (by omega) (by omega) (by omega) (by omega) (by omega), s0 j j1, hSM.1 0 (by omega) (by omega) (by omega) (by omega) (by omega), h1 0 (by omega) (by omega) (by omega) (by omega)]
        · rw [y15 j hj, h1 15 (by omega) (by omega) (by omega) (by omega)]
        · exact CRL_cast (uO d hd) (fun k a1 a2 => yk k a1 (by omega) (by omega)) (fun k a1 a2 => yk k (by omega) (by omega) (by omega))
        · unfold TW
          rw [yF, yL, y15 9 (by omega)]
          exact hTW
        · rw [xs 11 (by omega), k1 0 (by omega) (by omega) (by omega) (by omega) (by omega) (by omega)]; exact t0
        · rw [yF, yL, yC, yW]; exact hf
        · rw [yF, yC, xr 20 (by omega)]; exact k3
        · rw [yL, yC, xr 21 (by omega)]; exact k5
      | succ n ih =>
        intro j u hj hI
        obtain ⟨h1, h2⟩ := hI
        have vj := eq_true (vp_in_nI (show j < 12 by omega) (show 12 < 2 ^ 31 by omega))
        have cj := nI_clamp (show j < 2 ^ 31 by omega)
        have hnu : ∀ v : AM, (∀ k, k ≠ 16 → k ≠ 17 → k ≠ 18 → k ≠ 19 → v k = m k) → v 10 2 = nI nd := fun v hv => by rw [hv 10 (by omega) (by omega) (by omega) (by omega)]; exact hn
        have low_c : ∀ v : AM, (∀ k, k ≠ 16 → k ≠ 17 → k ≠ 18 → k ≠ 19 → v k = m k) → cLow v nd j = cLow m nd j := fun v hv => by
          unfold cLow
          rw [hv 2 (by omega) (by omega) (by omega) (by omega), hv 5 (by omega) (by omega) (by omega) (by omega), hv 8 (by omega) (by omega) (by omega) (by omega), hv 11 (by omega) (by omega) (by omega) (by omega), hv 14 (by omega) (by omega) (by omega) (by omega)]
        have hi_c : ∀ v : AM, (∀ k, k ≠ 16 → k ≠ 17 → k ≠ 18 → k ≠ 19 → v k = m k) → cHi v nd j = cHi m nd j := fun v hv => by
          unfold cHi
          rw [hv 3 (by omega) (by omega) (by omega) (by omega), hv 6 (by omega) (by omega) (by omega) (by omega), hv 9 (by omega) (by omega) (by omega) (by omega), hv 12 (by omega) (by omega) (by omega) (by omega), hv 14 (by omega) (by omega) (by omega) (by omega)]
        refine st_X5_settle_10 ?_; simp only [bX5_settle_10, exP, stP, p1, p2, pr, pobj, parr, sh0, sh1, sh2, sh3, sh4, sh5, sh6, sh7, sh8, sh9, sh10, sh11, sh12, sh13, sh14, sh15, sh16, sh17, sh18, sh19, sh20, sh21, sh22, sh23, sh24, sh25, sh26, sh27, sh28, sh29, sh30, sh31, sh32, sh33, sh34, sh35, sh36, sh37, sh38, sh39, sh40, sh41, sh42, sh43, sh44, sh45, sh46, sh47, sh48, sh49, sh50, sh51, sh52, sh53, sh54, sh55, sh56, sh57, sh58, sh59, brP, brN, swP, amask, apush, List.getElem?_cons_zero, List.getElem?_cons_succ, List.set_cons_zero, List.set_cons_succ, List.take_succ_cons, List.take_zero, List.drop_succ_cons, List.drop_zero, List.reverse_cons, List.reverse_nil, List.nil_append, List.cons_append, List.length_cons, List.length_nil, true_and, and_true, Nat.zero_le, Nat.reduceLeDiff, Nat.reduceAdd, Nat.reduceEqDiff, false_imp_iff, true_imp_iff, not_false_eq_true, not_true_eq_false, imp_self, forall_const, lit_nle (k := 12) (n := j) (by omega) (by omega)]
        refine st_X5_settle_16 ?_; simp only [bX5_settle_16, exP, stP, p1, p2, pr, pobj, parr, sh0, sh1, sh2, sh3, sh4, sh5, sh6, sh7, sh8, sh9, sh10, sh11, sh12, sh13, sh14, sh15, sh16, sh17, sh18, sh19, sh20, sh21, sh22, sh23, sh24, sh25, sh26, sh27, sh28, sh29, sh30, sh31, sh32, sh33, sh34, sh35, sh36, sh37, sh38, sh39, sh40, sh41, sh42, sh43, sh44, sh45, sh46, sh47, sh48, sh49, sh50, sh51, sh52, sh53, sh54, sh55, sh56, sh57, sh58, sh59, brP, brN, swP, amask, apush, List.getElem?_cons_zero, List.getElem?_cons_succ, List.set_cons_zero, List.set_cons_succ, List.take_succ_cons, List.take_zero, List.drop_succ_cons, List.drop_zero, List.reverse_cons, List.reverse_nil, List.nil_append, List.cons_append, List.length_cons, List.length_nil, true_and, and_true, Nat.zero_le, Nat.reduceLeDiff, Nat.reduceAdd, Nat.reduceEqDiff, false_imp_iff, true_imp_iff, not_false_eq_true, not_true_eq_false, imp_self, forall_const]
        refine ⟨_, ⟨2, by decide, c_ownFirst u nd j hnd (hnu u h1) (by omega)⟩, ?_⟩
        rintro z v ⟨rfl, x1, rfl, hx1⟩
        simp only [exP, stP, p1, p2, pr, pobj, parr, sh0, sh1, sh2, sh3, sh4, sh5, sh6, sh7, sh8, sh9, sh10, sh11, sh12, sh13, sh14, sh15, sh16, sh17, sh18, sh19, sh20, sh21, sh22, sh23, sh24, sh25, sh26, sh27, sh28, sh29, sh30, sh31, sh32, sh33, sh34, sh35, sh36, sh37, sh38, sh39, sh40, sh41, sh42, sh43, sh44, sh45, sh46, sh47, sh48, sh49, sh50, sh51, sh52, sh53, sh54, sh55, sh56, sh57, sh58, sh59, brP, brN, swP, amask, apush, List.getElem?_cons_zero, List.getElem?_cons_succ, List.set_cons_zero, List.set_cons_succ, List.take_succ_cons, List.take_zero, List.drop_succ_cons, List.drop_zero, List.reverse_cons, List.reverse_nil, List.nil_append, List.cons_append, List.length_cons, List.length_nil, true_and, and_true, Nat.zero_le, Nat.reduceLeDiff, Nat.reduceAdd, Nat.reduceEqDiff, false_imp_iff, true_imp_iff, not_false_eq_true, not_true_eq_false, imp_self, forall_const, vj, cj]
        have g1 : ∀ k, k ≠ 16 → k ≠ 17 → k ≠ 18 → k ≠ 19 → aup u 16 (upd (u 16) j x1) k = m k := fun k a1 a2 a3 a4 => by rw [aup_ne a1]; exact h1 k a1 a2 a3 a4
        refine ⟨_, ⟨2, by decide, c_ownLast _ nd j hnd (hnu _ g1) (by omega)⟩, ?_⟩
        rintro z v ⟨rfl, x2, rfl, hx2⟩
        simp only [exP, stP, p1, p2, pr, pobj, parr, sh0, sh1, sh2, sh3, sh4, sh5, sh6, sh7, sh8, sh9, sh10, sh11, sh12, sh13, sh14, sh15, sh16, sh17, sh18, sh19, sh20, sh21, sh22, sh23, sh24, sh25, sh26, sh27, sh28, sh29, sh30, sh31, sh32, sh33, sh34, sh35, sh36, sh37, sh38, sh39, sh40, sh41, sh42, sh43, sh44, sh45, sh46, sh47, sh48, sh49, sh50, sh51, sh52, sh53, sh54, sh55, sh56, sh57, sh58, sh59, brP, brN, swP, amask, apush, List.getElem?_cons_zero, List.getElem?_cons_succ, List.set_cons_zero, List.set_cons_succ, List.take_succ_cons, List.take_zero, List.drop_succ_cons, List.drop_zero, List.reverse_cons, List.reverse_nil, List.nil_append, List.cons_append, List.length_cons, List.length_nil, true_and, and_true, Nat.zero_le, Nat.reduceLeDiff, Nat.reduceAdd, Nat.reduceEqDiff, false_imp_iff, true_imp_iff, not_false_eq_true, not_true_eq_false, imp_self, forall_const, vj, cj]
        rw [low_c u h1] at hx1
        rw [hi_c _ g1] at hx2
        have g2 : ∀ k, k ≠ 16 → k ≠ 17 → k ≠ 18 → k ≠ 19 → aup (aup u 16 (upd (u 16) j x1)) 17 (upd (aup u 16 (upd (u 16) j x1) 17) j x2) k = m k := fun k a1 a2 a3 a4 => by rw [aup_ne a2]; exact g1 k a1 a2 a3 a4
        have q16 : aup (aup u 16 (upd (u 16) j x1)) 17 (upd (aup u 16 (upd (u 16) j x1) 17) j x2) 16 = upd (u 16) j x1 := by rw [aup_ne (by omega), aup_eq]
        have q17 : aup (aup u 16 (upd (u 16) j x1)) 17 (upd (aup u 16 (upd (u 16) j x1) 17) j x2) 17 = upd (u 17) j x2 := by rw [aup_eq, aup_ne (by omega)]
        have q18 : aup (aup u 16 (upd (u 16) j x1)) 17 (upd (aup u 16 (upd (u 16) j x1) 17) j x2) 18 = u 18 := by rw [aup_ne (by omega), aup_ne (by omega)]
        have q19 : aup (aup u 16 (upd (u 16) j x1)) 17 (upd (aup u 16 (upd (u 16) j x1) 17) j x2) 19 = u 19 := by rw [aup_ne (by omega), aup_ne (by omega)]
        generalize aup (aup u 16 (upd (u 16) j x1)) 17 (upd (aup u 16 (upd (u 16) j x1) 17) j x2) = a at g2 q16 q17 q18 q19 ⊢
        refine ⟨_, ⟨1, by decide, c_of a j 4 (by omega) (by omega)⟩, ?_⟩
        rintro z v ⟨rfl, rfl⟩
        simp only [exP, stP, p1, p2, pr, pobj, parr, sh0, sh1, sh2, sh3, sh4, sh5, sh6, sh7, sh8, sh9, sh10, sh11, sh12, sh13, sh14, sh15, sh16, sh17, sh18, sh19, sh20, sh21, sh22, sh23, sh24, sh25, sh26, sh27, sh28, sh29, sh30, sh31, sh32, sh33, sh34, sh35, sh36, sh37, sh38, sh39, sh40, sh41, sh42, sh43, sh44, sh45, sh46, sh47, sh48, sh49, sh50, sh51, sh52, sh53, sh54, sh55, sh56, sh57, sh58, sh59, brP, brN, swP, amask, apush, List.getElem?_cons_zero, List.getElem?_cons_succ, List.set_cons_zero, List.set_cons_succ, List.take_succ_cons, List.take_zero, List.drop_succ_cons, List.drop_zero, List.reverse_cons, List.reverse_nil, List.nil_append, List.cons_append, List.length_cons, List.length_nil, true_and, and_true, Nat.zero_le, Nat.reduceLeDiff, Nat.reduceAdd, Nat.reduceEqDiff, false_imp_iff, true_imp_iff, not_false_eq_true, not_true_eq_false, imp_self, forall_const, vj, cj]
        have a14 : a 14 = m 14 := g2 14 (by omega) (by omega) (by omega) (by omega)
        have g3 : ∀ k, k ≠ 16 → k ≠ 17 → k ≠ 18 → k ≠ 19 → aup a 19 (upd (a 19) j (a 14 (4 * 12 + j))) k = m k := fun k a1 a2 a3 a4 => by rw [aup_ne a4]; exact g2 k a1 a2 a3 a4
        refine ⟨_, ⟨2, by decide, c_sharing _ j (by omega)⟩, ?_⟩
        rintro z v ⟨rfl, x3, rfl, hx3⟩
        simp only [exP, stP, p1, p2, pr, pobj, parr, sh0, sh1, sh2, sh3, sh4, sh5, sh6, sh7, sh8, sh9, sh10, sh11, sh12, sh13, sh14, sh15, sh16, sh17, sh18, sh19, sh20, sh21, sh22, sh23, sh24, sh25, sh26, sh27, sh28, sh29, sh30, sh31, sh32, sh33, sh34, sh35, sh36, sh37, sh38, sh39, sh40, sh41, sh42, sh43, sh44, sh45, sh46, sh47, sh48, sh49, sh50, sh51, sh52, sh53, sh54, sh55, sh56, sh57, sh58, sh59, brP, brN, swP, amask, apush, List.getElem?_cons_zero, List.getElem?_cons_succ, List.set_cons_zero, List.set_cons_succ, List.take_succ_cons, List.take_zero, List.drop_succ_cons, List.drop_zero, List.reverse_cons, List.reverse_nil, List.nil_append, List.cons_append, List.length_cons, List.length_nil, true_and, and_true, Nat.zero_le, Nat.reduceLeDiff, Nat.reduceAdd, Nat.reduceEqDiff, false_imp_iff, true_imp_iff, not_false_eq_true, not_true_eq_false, imp_self, forall_const, vj, cj]
        rw [nI_1]
        have hx3' : ∀ e, e < 32 → (bt x3 e = true ↔ e < 12 ∧ shH m j e) := fun e he => by
          rw [hx3 e he]
          unfold shH
          rw [g3 14 (by omega) (by omega) (by omega) (by omega)]
        have w16 : aup (aup a 19 (upd (a 19) j (a 14 (4 * 12 + j)))) 18 (upd (aup a 19 (upd (a 19) j (a 14 (4 * 12 + j))) 18) j x3) 16 = upd (u 16) j x1 := by rw [aup_ne (by omega), aup_ne (by omega), q16]
        have w17 : aup (aup a 19 (upd (a 19) j (a 14 (4 * 12 + j)))) 18 (upd (aup a 19 (upd (a 19) j (a 14 (4 * 12 + j))) 18) j x3) 17 = upd (u 17) j x2 := by rw [aup_ne (by omega), aup_ne (by omega), q17]
        have w18 : aup (aup a 19 (upd (a 19) j (a 14 (4 * 12 + j)))) 18 (upd (aup a 19 (upd (a 19) j (a 14 (4 * 12 + j))) 18) j x3) 18 = upd (u 18) j x3 := by rw [aup_eq, aup_ne (by omega), q18]
        have w19 : aup (aup a 19 (upd (a 19) j (a 14 (4 * 12 + j)))) 18 (upd (aup a 19 (upd (a 19) j (a 14 (4 * 12 + j))) 18) j x3) 19 = upd (u 19) j (m 14 (4 * 12 + j)) := by rw [aup_ne (by omega), aup_eq, q19, a14]
        refine ih (j + 1) _ (by omega) ⟨fun k a1 a2 a3 a4 => by rw [aup_ne a3]; exact g3 k a1 a2 a3 a4, fun d hd => ?_⟩
        unfold CRL
        rw [w16, w17, w18, w19]
        by_cases q : d = j
        · subst q
          rw [upd_eq, upd_eq, upd_eq, upd_eq]
          exact ⟨hx1, hx2, rfl, hx3'⟩
        · rw [upd_ne q, upd_ne q, upd_ne q, upd_ne q]
          exact h2 d (by omega)
    refine st_X5_settle_0 ?_; simp only [bX5_settle_0, exP, stP, p1, p2, pr, pobj, parr, sh0, sh1, sh2, sh3, sh4, sh5, sh6, sh7, sh8, sh9, sh10, sh11, sh12, sh13, sh14, sh15, sh16, sh17, sh18, sh19, sh20, sh21, sh22, sh23, sh24, sh25, sh26, sh27, sh28, sh29, sh30, sh31, sh32, sh33, sh34, sh35, sh36, sh37, sh38, sh39, sh40, sh41, sh42, sh43, sh44, sh45, sh46, sh47, sh48, sh49, sh50, sh51, sh52, sh53, sh54, sh55, sh56, sh57, sh58, sh59, brP, brN, swP, amask, apush, List.getElem?_cons_zero, List.getElem?_cons_succ, List.set_cons_zero, List.set_cons_succ, List.take_succ_cons, List.take_zero, List.drop_succ_cons, List.drop_zero, List.reverse_cons, List.reverse_nil, List.nil_append, List.cons_append, List.length_cons, List.length_nil, true_and, and_true, Nat.zero_le, Nat.reduceLeDiff, Nat.reduceAdd, Nat.reduceEqDiff, false_imp_iff, true_imp_iff, not_false_eq_true, not_true_eq_false, imp_self, forall_const, hs]
    refine st_X5_settle_8 ?_; simp only [bX5_settle_8, exP, stP, p1, p2, pr, pobj, parr, sh0, sh1, sh2, sh3, sh4, sh5, sh6, sh7, sh8, sh9, sh10, sh11, sh12, sh13, sh14, sh15, sh16, sh17, sh18, sh19, sh20, sh21, sh22, sh23, sh24, sh25, sh26, sh27, sh28, sh29, sh30, sh31, sh32, sh33, sh34, sh35, sh36, sh37, sh38, sh39, sh40, sh41, sh42, sh43, sh44, sh45, sh46, sh47, sh48, sh49, sh50, sh51, sh52, sh53, sh54, sh55, sh56, sh57, sh58, sh59, brP, brN, swP, amask, apush, List.getElem?_cons_zero, List.getElem?_cons_succ, List.set_cons_zero, List.set_cons_succ, List.take_succ_cons, List.take_zero, List.drop_succ_cons, List.drop_zero, List.reverse_cons, List.reverse_nil, List.nil_append, List.cons_append, List.length_cons, List.length_nil, true_and, and_true, Nat.zero_le, Nat.reduceLeDiff, Nat.reduceAdd, Nat.reduceEqDiff, false_imp_iff, true_imp_iff, not_false_eq_true, not_true_eq_false, imp_self, forall_const]
    exact loop 12 0 m rfl ⟨fun _ _ _ _ _ => rfl, fun d hd => by omega⟩
  · refine st_X5_settle_0 ?_; simp only [bX5_settle_0, exP, stP, p1, p2, pr, pobj, parr, sh0, sh1, sh2, sh3, sh4, sh5, sh6, sh7, sh8, sh9, sh10, sh11, sh12, sh13, sh14, sh15, sh16, sh17, sh18, sh19, sh20, sh21, sh22, sh23, sh24, sh25, sh26, sh27, sh28, sh29, sh30, sh31, sh32, sh33, sh34, sh35, sh36, sh37, sh38, sh39, sh40, sh41, sh42, sh43, sh44, sh45, sh46, sh47, sh48, sh49, sh50, sh51, sh52, sh53, sh54, sh55, sh56, sh57, sh58, sh59, brP, brN, swP, amask, apush, List.getElem?_cons_zero, List.getElem?_cons_succ, List.set_cons_zero, List.set_cons_succ, List.take_succ_cons, List.take_zero, List.drop_succ_cons, List.drop_zero, List.reverse_cons, List.reverse_nil, List.nil_append, List.cons_append, List.length_cons, List.length_nil, true_and, and_true, Nat.zero_le, Nat.reduceLeDiff, Nat.reduceAdd, Nat.reduceEqDiff, false_imp_iff, true_imp_iff, not_false_eq_true, not_true_eq_false, imp_self, forall_const, hs]
    refine ⟨fun q => absurd q (by decide), fun _ => ?_⟩
    refine st_X5_settle_7 ?_; simp only [bX5_settle_7, exP, stP, p1, p2, pr, pobj, parr, sh0, sh1, sh2, sh3, sh4, sh5, sh6, sh7, sh8, sh9, sh10, sh11, sh12, sh13, sh14, sh15, sh16, sh17, sh18, sh19, sh20, sh21, sh22, sh23, sh24, sh25, sh26, sh27, sh28, sh29, sh30, sh31, sh32, sh33, sh34, sh35, sh36, sh37, sh38, sh39, sh40, sh41, sh42, sh43, sh44, sh45, sh46, sh47, sh48, sh49, sh50, sh51, sh52, sh53, sh54, sh55, sh56, sh57, sh58, sh59, brP, brN, swP, amask, apush, List.getElem?_cons_zero, List.getElem?_cons_succ, List.set_cons_zero, List.set_cons_succ, List.take_succ_cons, List.take_zero, List.drop_succ_cons, List.drop_zero, List.reverse_cons, List.reverse_nil, List.nil_append, List.cons_append, List.length_cons, List.length_nil, true_and, and_true, Nat.zero_le, Nat.reduceLeDiff, Nat.reduceAdd, Nat.reduceEqDiff, false_imp_iff, true_imp_iff, not_false_eq_true, not_true_eq_false, imp_self, forall_const]
    exact ⟨rfl, ⟨fun _ _ _ _ => rfl, fun _ _ _ => rfl, fun _ _ => rfl⟩, hs, hC⟩
