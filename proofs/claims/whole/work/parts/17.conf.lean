/-! ===== the timeline: conflicts and the quarrel ===== -/
theorem low12_lt {t : Nat} (h : low12 t) : t < 4096 := by
  have h2 : t < 2 ^ 12 := Nat.lt_pow_two_of_testBit t (fun i hi => by
    cases q : t.testBit i with
    | false => rfl
    | true => have := h i q; omega)
  simpa using h2
theorem lt_low12 {t : Nat} (h : t < 4096) : low12 t := fun i hi => by
  rcases Nat.lt_or_ge i 12 with q | q
  · exact q
  · have h2 : 2 ^ 12 ≤ 2 ^ i := Nat.pow_le_pow_right (by omega) q
    rw [Nat.testBit_lt_two_pow (by omega)] at hi
    cases hi
theorem insB_low {t d : Nat} (h : low12 t) (hd : d < 12) : low12 (insB t d) := fun i hi => by
  rw [insB_bit] at hi
  simp at hi
  rcases hi with hi | rfl
  · exact h i hi
  · exact hd
theorem or_shl {f d : Nat} (hf : f < 4096) (hd : d < 12) : nI f ||| ((1 : Int32) <<< (nI d &&& 31)) = nI (insB f d) := by
  have h2 := low12_lt (insB_low (lt_low12 hf) hd)
  apply b_ext
  intro i hi
  rw [b_or, bt_shl1 (by omega) hi, bt_nI (by omega), bt_nI (by omega), insB_bit]
theorem and_not {f d : Nat} (hf : f < 4096) (hd : d < 12) : nI f &&& (((1 : Int32) <<< (nI d &&& 31)) ^^^ (-1)) = nI (dif f (2 ^ d)) := by
  have h2 : dif f (2 ^ d) < 4096 := low12_lt (fun i hi => by
    rw [dif_bit] at hi
    simp at hi
    exact lt_low12 hf i hi.1)
  apply b_ext
  intro i hi
  rw [b_and, bt_not _ hi, bt_shl1 (by omega) hi, bt_nI (by omega), bt_nI (by omega), dif_bit, Nat.testBit_two_pow]
  by_cases q : d = i
  · subst q; simp
  · have q2 : ¬ i = d := fun r => q r.symm
    simp [q, q2]
/-- what stays behind calls of the timeline's questions -/
def RM (m u : AM) : Prop := (∀ j, j ≠ 15 → j ≠ 22 → j ≠ 23 → j ≠ 24 → u j = m j) ∧ ∀ j, j ≠ 10 → u 15 j = m 15 j
theorem RM.rf (m : AM) : RM m m := ⟨fun _ _ _ _ _ => rfl, fun _ _ => rfl⟩
theorem RM.tr {m u v : AM} (h1 : RM m u) (h2 : RM u v) : RM m v := ⟨fun j a b c d => (h2.1 j a b c d).trans (h1.1 j a b c d), fun j a => (h2.2 j a).trans (h1.2 j a)⟩
theorem RI.rm {m : AM} {t : Nat} {u : AM} {k : Nat} (h : RI m t u k) : RM m u := ⟨h.1, h.2.1⟩
theorem RM.eF {m u : AM} (h : RM m u) : nF u = nF m := by funext d; unfold nF; rw [h.1 16 (by omega) (by omega) (by omega) (by omega)]
theorem RM.eL {m u : AM} (h : RM m u) : nL u = nL m := by funext d; unfold nL; rw [h.1 17 (by omega) (by omega) (by omega) (by omega)]
theorem RM.eC {m u : AM} (h : RM m u) : nC u = nC m := by
  funext a b
  have e1 := h.1 19 (by omega) (by omega) (by omega) (by omega)
  have e2 := h.1 18 (by omega) (by omega) (by omega) (by omega)
  have e3 := h.2 9 (by omega)
  unfold nC
  rw [e1, e2, e3]
theorem RM.tw {m u : AM} (h : RM m u) (hm : TW m) : TW u := by
  unfold TW
  rw [h.eF, h.eL, h.2 9 (by omega)]
  exact hm
def CQ (m : AM) (t : Nat) : APost := fun z u => RM m u ∧ ((z = some 0 ∧ agr (nF m) (nL m) (nC m) t) ∨ ∃ C, z = some (nI C) ∧ low12 C ∧ C ≠ 0 ∧ sub C t ∧ ¬ agr (nF m) (nL m) (nC m) C)
theorem w_conflict (m : AM) (t : Nat) (ht : t < 4096) (u : AM) (k : Nat) (hI : RI m t u k) (tm : Nat → Nat)
    (htm : ∀ b, b < 12 → t.testBit b = true → ((u 24 b = -1 ∧ (u 22 b).toInt = nL m b) ∨ ∃ a c, a < 12 ∧ t.testBit a = true ∧ nC m a b = some c ∧ 0 ≤ c ∧ u 24 b = nI a ∧ (u 22 a).toInt + c ≤ (u 22 b).toInt ∧ ((u 22 a).toInt + c = (u 22 b).toInt → tm a < tm b))) :
    ∀ (n f d : Nat), sz f + n = 12 → low12 f → sub f t → d < 12 → t.testBit d = true → (∀ x, f.testBit x = true → (u 22 d).toInt < (u 22 x).toInt ∨ ((u 22 d).toInt = (u 22 x).toInt ∧ tm d < tm x)) →
    (∀ C, sub (insB f d) C → sub C t → (∀ y, sol (nF m) (nL m) (nC m) C y → y d ≤ (u 22 d).toInt) → ¬ agr (nF m) (nL m) (nC m) C) →
    AW 3 kX3_conflictIn (CQ m t) 21 [some (.inr 15), none, some (.inl (nI f)), some (.inl (nI d)), some (.inl (nI (sz f)))] [] u := by
  intro n
  induction n with
  | zero =>
    intro f d hn hf hft hd htd hpot H
    exfalso
    have hdf : f.testBit d = false := by
      cases q : f.testBit d with
      | false => rfl
      | true => have := hpot d q; omega
    have h1 := pcN_ins (s := f) (t := insB f d) (d := d) 12 hd hdf (fun i _ => insB_bit f d i)
    have h2 := pcN_le (insB f d) 12
    unfold sz at hn
    omega
  | succ n ih =>
    intro f d hn hf hft hd htd hpot H
    have vd := eq_true (vp_in_nI (show d < 12 by omega) (show 12 < 2 ^ 31 by omega))
    have cd := nI_clamp (show d < 2 ^ 31 by omega)
    have hf2 := low12_lt hf
    have hdf : f.testBit d = false := by
      cases q : f.testBit d with
      | false => rfl
      | true => have := hpot d q; omega
    have hsz : sz (insB f d) = sz f + 1 := pcN_ins (s := f) (t := insB f d) (d := d) 12 hd hdf (fun i _ => insB_bit f d i)
    have hlow := insB_low hf hd
    have hsub : sub (insB f d) t := fun i hi => by
      rw [insB_bit] at hi
      simp at hi
      rcases hi with hi | rfl
      · exact hft i hi
      · exact htd
    have hne : insB f d ≠ 0 := fun q => by
      have := insB_bit f d d
      rw [q] at this
      simp at this
    refine st_X3_conflictIn_21 ?_; simp only [bX3_conflictIn_21, exP, stP, p1, p2, pr, pobj, parr, sh0, sh1, sh2, sh3, sh4, sh5, sh6, sh7, sh8, sh9, sh10, sh11, sh12, sh13, sh14, sh15, sh16, sh17, sh18, sh19, sh20, sh21, sh22, sh23, sh24, sh25, sh26, sh27, sh28, sh29, sh30, sh31, sh32, sh33, sh34, sh35, sh36, sh37, sh38, sh39, sh40, sh41, sh42, sh43, sh44, sh45, sh46, sh47, sh48, sh49, sh50, sh51, sh52, sh53, sh54, sh55, sh56, sh57, sh58, sh59, brP, brN, swP, amask, apush, List.getElem?_cons_zero, List.getElem?_cons_succ, List.set_cons_zero, List.set_cons_succ, List.take_succ_cons, List.take_zero, List.drop_succ_cons, List.drop_zero, List.reverse_cons, List.reverse_nil, List.nil_append, List.cons_append, List.length_cons, List.length_nil, true_and, and_true, Nat.zero_le, Nat.reduceLeDiff, Nat.reduceAdd, Nat.reduceEqDiff, false_imp_iff, true_imp_iff, not_false_eq_true, not_true_eq_false, imp_self, forall_const, lit_nle (k := 12) (n := sz f) (by omega) (by omega)]
    refine st_X3_conflictIn_28 ?_; simp only [bX3_conflictIn_28, exP, stP, p1, p2, pr, pobj, parr, sh0, sh1, sh2, sh3, sh4, sh5, sh6, sh7, sh8, sh9, sh10, sh11, sh12, sh13, sh14, sh15, sh16, sh17, sh18, sh19, sh20, sh21, sh22, sh23, sh24, sh25, sh26, sh27, sh28, sh29, sh30, sh31, sh32, sh33, sh34, sh35, sh36, sh37, sh38, sh39, sh40, sh41, sh42, sh43, sh44, sh45, sh46, sh47, sh48, sh49, sh50, sh51, sh52, sh53, sh54, sh55, sh56, sh57, sh58, sh59, brP, brN, swP, amask, apush, List.getElem?_cons_zero, List.getElem?_cons_succ, List.set_cons_zero, List.set_cons_succ, List.take_succ_cons, List.take_zero, List.drop_succ_cons, List.drop_zero, List.reverse_cons, List.reverse_nil, List.nil_append, List.cons_append, List.length_cons, List.length_nil, true_and, and_true, Nat.zero_le, Nat.reduceLeDiff, Nat.reduceAdd, Nat.reduceEqDiff, false_imp_iff, true_imp_iff, not_false_eq_true, not_true_eq_false, imp_self, forall_const, nI_lt0 (show d < 2147483648 by omega)]
    refine st_X3_conflictIn_32 ?_; simp only [bX3_conflictIn_32, exP, stP, p1, p2, pr, pobj, parr, sh0, sh1, sh2, sh3, sh4, sh5, sh6, sh7, sh8, sh9, sh10, sh11, sh12, sh13, sh14, sh15, sh16, sh17, sh18, sh19, sh20, sh21, sh22, sh23, sh24, sh25, sh26, sh27, sh28, sh29, sh30, sh31, sh32, sh33, sh34, sh35, sh36, sh37, sh38, sh39, sh40, sh41, sh42, sh43, sh44, sh45, sh46, sh47, sh48, sh49, sh50, sh51, sh52, sh53, sh54, sh55, sh56, sh57, sh58, sh59, brP, brN, swP, amask, apush, List.getElem?_cons_zero, List.getElem?_cons_succ, List.set_cons_zero, List.set_cons_succ, List.take_succ_cons, List.take_zero, List.drop_succ_cons, List.drop_zero, List.reverse_cons, List.reverse_nil, List.nil_append, List.cons_append, List.length_cons, List.length_nil, true_and, and_true, Nat.zero_le, Nat.reduceLeDiff, Nat.reduceAdd, Nat.reduceEqDiff, false_imp_iff, true_imp_iff, not_false_eq_true, not_true_eq_false, imp_self, forall_const, lit_nle (k := 12) (n := d) hd (by omega)]
    refine st_X3_conflictIn_38 ?_; simp only [bX3_conflictIn_38, exP, stP, p1, p2, pr, pobj, parr, sh0, sh1, sh2, sh3, sh4, sh5, sh6, sh7, sh8, sh9, sh10, sh11, sh12, sh13, sh14, sh15, sh16, sh17, sh18, sh19, sh20, sh21, sh22, sh23, sh24, sh25, sh26, sh27, sh28, sh29, sh30, sh31, sh32, sh33, sh34, sh35, sh36, sh37, sh38, sh39, sh40, sh41, sh42, sh43, sh44, sh45, sh46, sh47, sh48, sh49, sh50, sh51, sh52, sh53, sh54, sh55, sh56, sh57, sh58, sh59, brP, brN, swP, amask, apush, List.getElem?_cons_zero, List.getElem?_cons_succ, List.set_cons_zero, List.set_cons_succ, List.take_succ_cons, List.take_zero, List.drop_succ_cons, List.drop_zero, List.reverse_cons, List.reverse_nil, List.nil_append, List.cons_append, List.length_cons, List.length_nil, true_and, and_true, Nat.zero_le, Nat.reduceLeDiff, Nat.reduceAdd, Nat.reduceEqDiff, false_imp_iff, true_imp_iff, not_false_eq_true, not_true_eq_false, imp_self, forall_const, vd, cd, or_shl hf2 hd]
    rw [nI_1]
    rcases htm d hd htd with ⟨e1, e2⟩ | ⟨a, c, ha, hta, hc, hc0, e1, e2, e3⟩
    · rw [e1]
      have fin : AW 3 kX3_conflictIn (CQ m t) 57 [none, none, some (.inl (nI (insB f d))), none, none] [] u := by
        refine st_X3_conflictIn_57 ?_; simp only [bX3_conflictIn_57, exP, stP, p1, p2, pr, pobj, parr, sh0, sh1, sh2, sh3, sh4, sh5, sh6, sh7, sh8, sh9, sh10, sh11, sh12, sh13, sh14, sh15, sh16, sh17, sh18, sh19, sh20, sh21, sh22, sh23, sh24, sh25, sh26, sh27, sh28, sh29, sh30, sh31, sh32, sh33, sh34, sh35, sh36, sh37, sh38, sh39, sh40, sh41, sh42, sh43, sh44, sh45, sh46, sh47, sh48, sh49, sh50, sh51, sh52, sh53, sh54, sh55, sh56, sh57, sh58, sh59, brP, brN, swP, amask, apush, List.getElem?_cons_zero, List.getElem?_cons_succ, List.set_cons_zero, List.set_cons_succ, List.take_succ_cons, List.take_zero, List.drop_succ_cons, List.drop_zero, List.reverse_cons, List.reverse_nil, List.nil_append, List.cons_append, List.length_cons, List.length_nil, true_and, and_true, Nat.zero_le, Nat.reduceLeDiff, Nat.reduceAdd, Nat.reduceEqDiff, false_imp_iff, true_imp_iff, not_false_eq_true, not_true_eq_false, imp_self, forall_const]
        refine ⟨Or.inl trivial, hI.rm, Or.inr ⟨insB f d, rfl, hlow, hne, hsub, H _ (fun i hi => hi) hsub (fun y hy => ?_)⟩⟩
        rw [e2]
        exact (hy.1 d hd (by rw [insB_bit]; simp)).2
      refine st_X3_conflictIn_21 ?_; simp only [bX3_conflictIn_21, exP, stP, p1, p2, pr, pobj, parr, sh0, sh1, sh2, sh3, sh4, sh5, sh6, sh7, sh8, sh9, sh10, sh11, sh12, sh13, sh14, sh15, sh16, sh17, sh18, sh19, sh20, sh21, sh22, sh23, sh24, sh25, sh26, sh27, sh28, sh29, sh30, sh31, sh32, sh33, sh34, sh35, sh36, sh37, sh38, sh39, sh40, sh41, sh42, sh43, sh44, sh45, sh46, sh47, sh48, sh49, sh50, sh51, sh52, sh53, sh54, sh55, sh56, sh57, sh58, sh59, brP, brN, swP, amask, apush, List.getElem?_cons_zero, List.getElem?_cons_succ, List.set_cons_zero, List.set_cons_succ, List.take_succ_cons, List.take_zero, List.drop_succ_cons, List.drop_zero, List.reverse_cons, List.reverse_nil, List.nil_append, List.cons_append, List.length_cons, List.length_nil, true_and, and_true, Nat.zero_le, Nat.reduceLeDiff, Nat.reduceAdd, Nat.reduceEqDiff, false_imp_iff, true_imp_iff, not_false_eq_true, not_true_eq_false, imp_self, forall_const]
      refine ⟨fun _ => fin, fun _ => ?_⟩
      refine st_X3_conflictIn_28 ?_; simp only [bX3_conflictIn_28, exP, stP, p1, p2, pr, pobj, parr, sh0, sh1, sh2, sh3, sh4, sh5, sh6, sh7, sh8, sh9, sh10, sh11, sh12, sh13, sh14, sh15, sh16, sh17, sh18, sh19, sh20, sh21, sh22, sh23, sh24, sh25, sh26, sh27, sh28, sh29, sh30, sh31, sh32, sh33, sh34, sh35, sh36, sh37, sh38, sh39, sh40, sh41, sh42, sh43, sh44, sh45, sh46, sh47, sh48, sh49, sh50, sh51, sh52, sh53, sh54, sh55, sh56, sh57, sh58, sh59, brP, brN, swP, amask, apush, List.getElem?_cons_zero, List.getElem?_cons_succ, List.set_cons_zero, List.set_cons_succ, List.take_succ_cons, List.take_zero, List.drop_succ_cons, List.drop_zero, List.reverse_cons, List.reverse_nil, List.nil_append, List.cons_append, List.length_cons, List.length_nil, true_and, and_true, Nat.zero_le, Nat.reduceLeDiff, Nat.reduceAdd, Nat.reduceEqDiff, false_imp_iff, true_imp_iff, not_false_eq_true, not_true_eq_false, imp_self, forall_const]
      refine ⟨fun _ => fin, fun q => absurd (by decide) q⟩
    · rw [e1, ← hsz]
      refine ih (insB f d) a (by omega) hlow hsub ha hta (fun x hx => ?_) (fun C hC hCt hy => ?_)
      · have key : (u 22 a).toInt < (u 22 d).toInt ∨ ((u 22 a).toInt = (u 22 d).toInt ∧ tm a < tm d) := by
          rcases Int.lt_or_le (u 22 a).toInt (u 22 d).toInt with q | q
          · exact Or.inl q
          · exact Or.inr ⟨by omega, e3 (by omega)⟩
        rw [insB_bit] at hx
        simp at hx
        rcases hx with hx | rfl
        · have := hpot x hx
          omega
        · exact key
      · refine H C (fun i hi => hC i (by rw [insB_bit, hi]; simp)) hCt (fun y hys => ?_)
        have h1 := hy y hys
        have hda : C.testBit d = true := hC d (by rw [insB_bit, insB_bit]; simp)
        have haa : C.testBit a = true := hC a (by rw [insB_bit]; simp)
        have h2 := hys.2 a d c ha hd haa hda hc
        omega
theorem c_conflictIn (m : AM) (hm : TW m) (t : Nat) (ht : t < 4096) : AC 3 kX3_conflictIn [.inr 15, .inl (nI t)] m (CQ m t) := by
  refine AC_of own_X3_conflictIn (ls := [some (.inr 15), some (.inl (nI t)), none, none, none]) (z := 3) (Nat.le_of_ble_eq_true rfl) rfl ?_
  have hc0 := TW_c hm
  refine st_X3_conflictIn_0 ?_; simp only [bX3_conflictIn_0, exP, stP, p1, p2, pr, pobj, parr, sh0, sh1, sh2, sh3, sh4, sh5, sh6, sh7, sh8, sh9, sh10, sh11, sh12, sh13, sh14, sh15, sh16, sh17, sh18, sh19, sh20, sh21, sh22, sh23, sh24, sh25, sh26, sh27, sh28, sh29, sh30, sh31, sh32, sh33, sh34, sh35, sh36, sh37, sh38, sh39, sh40, sh41, sh42, sh43, sh44, sh45, sh46, sh47, sh48, sh49, sh50, sh51, sh52, sh53, sh54, sh55, sh56, sh57, sh58, sh59, brP, brN, swP, amask, apush, List.getElem?_cons_zero, List.getElem?_cons_succ, List.set_cons_zero, List.set_cons_succ, List.take_succ_cons, List.take_zero, List.drop_succ_cons, List.drop_zero, List.reverse_cons, List.reverse_nil, List.nil_append, List.cons_append, List.length_cons, List.length_nil, true_and, and_true, Nat.zero_le, Nat.reduceLeDiff, Nat.reduceAdd, Nat.reduceEqDiff, false_imp_iff, true_imp_iff, not_false_eq_true, not_true_eq_false, imp_self, forall_const]
  refine ⟨_, ⟨2, by decide, c_roundsToBreak m hm t ht⟩, ?_⟩
  rintro z u (⟨k, hk, rfl, hfst, hI, d, hd, e15, htd, hlt⟩ | ⟨k, rfl, hI, hnb, hst⟩)
  · simp only [exP, stP, p1, p2, pr, pobj, parr, sh0, sh1, sh2, sh3, sh4, sh5, sh6, sh7, sh8, sh9, sh10, sh11, sh12, sh13, sh14, sh15, sh16, sh17, sh18, sh19, sh20, sh21, sh22, sh23, sh24, sh25, sh26, sh27, sh28, sh29, sh30, sh31, sh32, sh33, sh34, sh35, sh36, sh37, sh38, sh39, sh40, sh41, sh42, sh43, sh44, sh45, sh46, sh47, sh48, sh49, sh50, sh51, sh52, sh53, sh54, sh55, sh56, sh57, sh58, sh59, brP, brN, swP, amask, apush, List.getElem?_cons_zero, List.getElem?_cons_succ, List.set_cons_zero, List.set_cons_succ, List.take_succ_cons, List.take_zero, List.drop_succ_cons, List.drop_zero, List.reverse_cons, List.reverse_nil, List.nil_append, List.cons_append, List.length_cons, List.length_nil, true_and, and_true, Nat.zero_le, Nat.reduceLeDiff, Nat.reduceAdd, Nat.reduceEqDiff, false_imp_iff, true_imp_iff, not_false_eq_true, not_true_eq_false, imp_self, forall_const, nI_m1 (show k < 2147483648 by omega)]
    refine st_X3_conflictIn_11 ?_; simp only [bX3_conflictIn_11, exP, stP, p1, p2, pr, pobj, parr, sh0, sh1, sh2, sh3, sh4, sh5, sh6, sh7, sh8, sh9, sh10, sh11, sh12, sh13, sh14, sh15, sh16, sh17, sh18, sh19, sh20, sh21, sh22, sh23, sh24, sh25, sh26, sh27, sh28, sh29, sh30, sh31, sh32, sh33, sh34, sh35, sh36, sh37, sh38, sh39, sh40, sh41, sh42, sh43, sh44, sh45, sh46, sh47, sh48, sh49, sh50, sh51, sh52, sh53, sh54, sh55, sh56, sh57, sh58, sh59, brP, brN, swP, amask, apush, List.getElem?_cons_zero, List.getElem?_cons_succ, List.set_cons_zero, List.set_cons_succ, List.take_succ_cons, List.take_zero, List.drop_succ_cons, List.drop_zero, List.reverse_cons, List.reverse_nil, List.nil_append, List.cons_append, List.length_cons, List.length_nil, true_and, and_true, Nat.zero_le, Nat.reduceLeDiff, Nat.reduceAdd, Nat.reduceEqDiff, false_imp_iff, true_imp_iff, not_false_eq_true, not_true_eq_false, imp_self, forall_const]
    rw [e15]
    obtain ⟨-, -, -, tm, htm⟩ := id hI
    have hz : (0 : Int32) = nI 0 := rfl
    have hz2 : (0 : Int32) = nI (sz 0) := rfl
    have := w_conflict m t ht u k hI tm (fun b hb htb => by
      rcases (htm b hb htb).2 with q | ⟨a, c, h1, h2, h3, h4⟩
      · exact Or.inl q
      · exact Or.inr ⟨a, c, h1, h2, h3, (hc0 a b c h3).1, h4⟩) 12 0 d rfl (fun i hi => by simp at hi) (fun i hi => by simp at hi) hd htd (fun x hx => by simp at hx) (fun C hC hCt hy hag => by
        obtain ⟨y, hys⟩ := hag
        have h1 := hy y hys
        have h2 := (hys.1 d hd (hC d (by rw [insB_bit]; simp))).1
        omega)
    exact this
  · simp only [exP, stP, p1, p2, pr, pobj, parr, sh0, sh1, sh2, sh3, sh4, sh5, sh6, sh7, sh8, sh9, sh10, sh11, sh12, sh13, sh14, sh15, sh16, sh17, sh18, sh19, sh20, sh21, sh22, sh23, sh24, sh25, sh26, sh27, sh28, sh29, sh30, sh31, sh32, sh33, sh34, sh35, sh36, sh37, sh38, sh39, sh40, sh41, sh42, sh43, sh44, sh45, sh46, sh47, sh48, sh49, sh50, sh51, sh52, sh53, sh54, sh55, sh56, sh57, sh58, sh59, brP, brN, swP, amask, apush, List.getElem?_cons_zero, List.getElem?_cons_succ, List.set_cons_zero, List.set_cons_succ, List.take_succ_cons, List.take_zero, List.drop_succ_cons, List.drop_zero, List.reverse_cons, List.reverse_nil, List.nil_append, List.cons_append, List.length_cons, List.length_nil, true_and, and_true, Nat.zero_le, Nat.reduceLeDiff, Nat.reduceAdd, Nat.reduceEqDiff, false_imp_iff, true_imp_iff, not_false_eq_true, not_true_eq_false, imp_self, forall_const]
    refine st_X3_conflictIn_9 ?_; simp only [bX3_conflictIn_9, exP, stP, p1, p2, pr, pobj, parr, sh0, sh1, sh2, sh3, sh4, sh5, sh6, sh7, sh8, sh9, sh10, sh11, sh12, sh13, sh14, sh15, sh16, sh17, sh18, sh19, sh20, sh21, sh22, sh23, sh24, sh25, sh26, sh27, sh28, sh29, sh30, sh31, sh32, sh33, sh34, sh35, sh36, sh37, sh38, sh39, sh40, sh41, sh42, sh43, sh44, sh45, sh46, sh47, sh48, sh49, sh50, sh51, sh52, sh53, sh54, sh55, sh56, sh57, sh58, sh59, brP, brN, swP, amask, apush, List.getElem?_cons_zero, List.getElem?_cons_succ, List.set_cons_zero, List.set_cons_succ, List.take_succ_cons, List.take_zero, List.drop_succ_cons, List.drop_zero, List.reverse_cons, List.reverse_nil, List.nil_append, List.cons_append, List.length_cons, List.length_nil, true_and, and_true, Nat.zero_le, Nat.reduceLeDiff, Nat.reduceAdd, Nat.reduceEqDiff, false_imp_iff, true_imp_iff, not_false_eq_true, not_true_eq_false, imp_self, forall_const]
    refine ⟨Or.inl trivial, hI.rm, Or.inl ⟨rfl, ?_⟩⟩
    exact ⟨_, agr_of_stable (fun b hb _ => hst b hb) hnb⟩
/-- the quarrel exists -/
theorem isQ_ex {F L : Nat → Int} {cst : Nat → Nat → Option Int} {A : Nat} (h : ¬ agr F L cst A) : ∃ q, isQ F L cst A q := by
  obtain ⟨k, ⟨t0, h1, h2, h3⟩, hmin⟩ := pk_least (fun k => ∃ t, sub t A ∧ ¬ agr F L cst t ∧ sz t = k) ⟨_, A, fun i hi => hi, h, rfl⟩
  obtain ⟨q, ⟨g1, g2, g3⟩, gmin⟩ := pk_least (fun t => sub t A ∧ ¬ agr F L cst t ∧ sz t = k) ⟨t0, h1, h2, h3⟩
  refine ⟨q, g1, g2, fun t ht hn => ?_⟩
  rcases Nat.lt_trichotomy (sz t) k with r | r | r
  · exact absurd ⟨t, ht, hn, rfl⟩ (hmin _ r)
  · right
    refine ⟨by omega, ?_⟩
    rcases Nat.lt_or_ge t q with s | s
    · exact absurd ⟨ht, hn, r⟩ (gmin t s)
    · exact s
  · left; omega
def QQ (m : AM) (A : Nat) : APost := fun z u => RM m u ∧ ((z = some 0 ∧ agr (nF m) (nL m) (nC m) A) ∨ ∃ q, z = some (nI q) ∧ isQ (nF m) (nL m) (nC m) A q)
theorem c_quarrelIn (m : AM) (hm : TW m) (A : Nat) (hA : A < 4096) : AC 3 kX3_quarrelIn [.inr 15, .inl (nI A)] m (QQ m A) := by
  refine AC_of own_X3_quarrelIn (ls := [some (.inr 15), some (.inl (nI A)), none, none, none, none]) (z := 4) (Nat.le_of_ble_eq_true rfl) rfl ?_
  have hc0 : ∀ a b c, nC m a b = some c → 0 ≤ c := fun a b c h => (TW_c hm a b c h).1
  refine st_X3_quarrelIn_0 ?_; simp only [bX3_quarrelIn_0, exP, stP, p1, p2, pr, pobj, parr, sh0, sh1, sh2, sh3, sh4, sh5, sh6, sh7, sh8, sh9, sh10, sh11, sh12, sh13, sh14, sh15, sh16, sh17, sh18, sh19, sh20, sh21, sh22, sh23, sh24, sh25, sh26, sh27, sh28, sh29, sh30, sh31, sh32, sh33, sh34, sh35, sh36, sh37, sh38, sh39, sh40, sh41, sh42, sh43, sh44, sh45, sh46, sh47, sh48, sh49, sh50, sh51, sh52, sh53, sh54, sh55, sh56, sh57, sh58, sh59, brP, brN, swP, amask, apush, List.getElem?_cons_zero, List.getElem?_cons_succ, List.set_cons_zero, List.set_cons_succ, List.take_succ_cons, List.take_zero, List.drop_succ_cons, List.drop_zero, List.reverse_cons, List.reverse_nil, List.nil_append, List.cons_append, List.length_cons, List.length_nil, true_and, and_true, Nat.zero_le, Nat.reduceLeDiff, Nat.reduceAdd, Nat.reduceEqDiff, false_imp_iff, true_imp_iff, not_false_eq_true, not_true_eq_false, imp_self, forall_const]
  refine ⟨_, ⟨2, by decide, c_roundsToBreak m hm A hA⟩, ?_⟩
  rintro z u (⟨k, hk, rfl, hfst, hI, -⟩ | ⟨k, rfl, hI, hnb, hst⟩)
  · simp only [exP, stP, p1, p2, pr, pobj, parr, sh0, sh1, sh2, sh3, sh4, sh5, sh6, sh7, sh8, sh9, sh10, sh11, sh12, sh13, sh14, sh15, sh16, sh17, sh18, sh19, sh20, sh21, sh22, sh23, sh24, sh25, sh26, sh27, sh28, sh29, sh30, sh31, sh32, sh33, sh34, sh35, sh36, sh37, sh38, sh39, sh40, sh41, sh42, sh43, sh44, sh45, sh46, sh47, sh48, sh49, sh50, sh51, sh52, sh53, sh54, sh55, sh56, sh57, sh58, sh59, brP, brN, swP, amask, apush, List.getElem?_cons_zero, List.getElem?_cons_succ, List.set_cons_zero, List.set_cons_succ, List.take_succ_cons, List.take_zero, List.drop_succ_cons, List.drop_zero, List.reverse_cons, List.reverse_nil, List.nil_append, List.cons_append, List.length_cons, List.length_nil, true_and, and_true, Nat.zero_le, Nat.reduceLeDiff, Nat.reduceAdd, Nat.reduceEqDiff, false_imp_iff, true_imp_iff, not_false_eq_true, not_true_eq_false, imp_self, forall_const, nI_m1 (show k < 2147483648 by omega)]
    obtain ⟨q, hq⟩ := isQ_ex (brk_nagr hfst.1)
    have hq12 : low12 q := fun i hi => lt_low12 hA i (hq.1 i hi)
    have loop : ∀ (n left : Nat) (u : AM), n ≤ 12 → RM m u → sub left A → low12 left → (∀ i, n ≤ i → left.testBit i = q.testBit i) → (∀ i, i < n → left.testBit i = A.testBit i) → AW 3 kX3_quarrelIn (QQ m A) 19 [some (.inr 15), none, some (.inl (nI k)), some (.inl (nI left)), some (.inl (nI n - 1)), none] [] u := by
      intro n
      induction n with
      | zero =>
        intro left u _ hu h1 h2 h3 h4
        refine st_X3_quarrelIn_19 ?_; simp only [bX3_quarrelIn_19, exP, stP, p1, p2, pr, pobj, parr, sh0, sh1, sh2, sh3, sh4, sh5, sh6, sh7, sh8, sh9, sh10, sh11, sh12, sh13, sh14, sh15, sh16, sh17, sh18, sh19, sh20, sh21, sh22, sh23, sh24, sh25, sh26, sh27, sh28, sh29, sh30, sh31, sh32, sh33, sh34, sh35, sh36, sh37, sh38, sh39, sh40, sh41, sh42, sh43, sh44, sh45, sh46, sh47, sh48, sh49, sh50, sh51, sh52, sh53, sh54, sh55, sh56, sh57, sh58, sh59, brP, brN, swP, amask, apush, List.getElem?_cons_zero, List.getElem?_cons_succ, List.set_cons_zero, List.set_cons_succ, List.take_succ_cons, List.take_zero, List.drop_succ_cons, List.drop_zero, List.reverse_cons, List.reverse_nil, List.nil_append, List.cons_append, List.length_cons, List.length_nil, true_and, and_true, Nat.zero_le, Nat.reduceLeDiff, Nat.reduceAdd, Nat.reduceEqDiff, false_imp_iff, true_imp_iff, not_false_eq_true, not_true_eq_false, imp_self, forall_const]
        refine ⟨fun _ => ?_, fun c => absurd (by decide) c⟩
        refine st_X3_quarrelIn_59 ?_; simp only [bX3_quarrelIn_59, exP, stP, p1, p2, pr, pobj, parr, sh0, sh1, sh2, sh3, sh4, sh5, sh6, sh7, sh8, sh9, sh10, sh11, sh12, sh13, sh14, sh15, sh16, sh17, sh18, sh19, sh20, sh21, sh22, sh23, sh24, sh25, sh26, sh27, sh28, sh29, sh30, sh31, sh32, sh33, sh34, sh35, sh36, sh37, sh38, sh39, sh40, sh41, sh42, sh43, sh44, sh45, sh46, sh47, sh48, sh49, sh50, sh51, sh52, sh53, sh54, sh55, sh56, sh57, sh58, sh59, brP, brN, swP, amask, apush, List.getElem?_cons_zero, List.getElem?_cons_succ, List.set_cons_zero, List.set_cons_succ, List.take_succ_cons, List.take_zero, List.drop_succ_cons, List.drop_zero, List.reverse_cons, List.reverse_nil, List.nil_append, List.cons_append, List.length_cons, List.length_nil, true_and, and_true, Nat.zero_le, Nat.reduceLeDiff, Nat.reduceAdd, Nat.reduceEqDiff, false_imp_iff, true_imp_iff, not_false_eq_true, not_true_eq_false, imp_self, forall_const]
        refine ⟨Or.inl trivial, hu, Or.inr ⟨left, rfl, ?_⟩⟩
        have : left = q := set_ext h2 hq12 (fun i _ => h3 i (by omega))
        rw [this]; exact hq
      | succ d ih =>
        intro left u hd hu h1 h2 h3 h4
        have hl := low12_lt h2
        have e1 : nI (d + 1) - 1 = nI d := nI_pred d
        rw [e1]
        have hbit : ∀ i, (dif left (2 ^ d)).testBit i = (left.testBit i && !decide (i = d)) := fun i => by
          rw [dif_bit, Nat.testBit_two_pow]
          by_cases r : d = i
          · subst r; simp
          · have r2 : ¬ i = d := fun s => r s.symm
            simp [r, r2]
        have hflow : low12 (dif left (2 ^ d)) := fun i hi => by
          rw [hbit] at hi
          simp at hi
          exact h2 i hi.1
        have hfl := low12_lt hflow
        have e2 : nI d + -1 = nI d - 1 := by rw [Int32.sub_eq_add_neg]
        have keep : q.testBit d = left.testBit d → ∀ u, RM m u → AW 3 kX3_quarrelIn (QQ m A) 53 [some (.inr 15), none, some (.inl (nI k)), some (.inl (nI left)), some (.inl (nI d)), none] [] u := by
          intro hqd u hu
          refine st_X3_quarrelIn_53 ?_; simp only [bX3_quarrelIn_53, exP, stP, p1, p2, pr, pobj, parr, sh0, sh1, sh2, sh3, sh4, sh5, sh6, sh7, sh8, sh9, sh10, sh11, sh12, sh13, sh14, sh15, sh16, sh17, sh18, sh19, sh20, sh21, sh22, sh23, sh24, sh25, sh26, sh27, sh28, sh29, sh30, sh31, sh32, sh33, sh34, sh35, sh36, sh37, sh38, sh39, sh40, sh41, sh42, sh43, sh44, sh45, sh46, sh47, sh48, sh49, sh50, sh51, sh52, sh53, sh54, sh55, sh56, sh57, sh58, sh59, brP, brN, swP, amask, apush, List.getElem?_cons_zero, List.getElem?_cons_succ, List.set_cons_zero, List.set_cons_succ, List.take_succ_cons, List.take_zero, List.drop_succ_cons, List.drop_zero, List.reverse_cons, List.reverse_nil, List.nil_append, List.cons_append, List.length_cons, List.length_nil, true_and, and_true, Nat.zero_le, Nat.reduceLeDiff, Nat.reduceAdd, Nat.reduceEqDiff, false_imp_iff, true_imp_iff, not_false_eq_true, not_true_eq_false, imp_self, forall_const]
          rw [e2]
          refine ih left u (by omega) hu h1 h2 (fun i hi => ?_) (fun i hi => h4 i (by omega))
          by_cases r : i = d
          · rw [r, hqd]
          · exact h3 i (by omega)
        refine st_X3_quarrelIn_19 ?_; simp only [bX3_quarrelIn_19, exP, stP, p1, p2, pr, pobj, parr, sh0, sh1, sh2, sh3, sh4, sh5, sh6, sh7, sh8, sh9, sh10, sh11, sh12, sh13, sh14, sh15, sh16, sh17, sh18, sh19, sh20, sh21, sh22, sh23, sh24, sh25, sh26, sh27, sh28, sh29, sh30, sh31, sh32, sh33, sh34, sh35, sh36, sh37, sh38, sh39, sh40, sh41, sh42, sh43, sh44, sh45, sh46, sh47, sh48, sh49, sh50, sh51, sh52, sh53, sh54, sh55, sh56, sh57, sh58, sh59, brP, brN, swP, amask, apush, List.getElem?_cons_zero, List.getElem?_cons_succ, List.set_cons_zero, List.set_cons_succ, List.take_succ_cons, List.take_zero, List.drop_succ_cons, List.drop_zero, List.reverse_cons, List.reverse_nil, List.nil_append, List.cons_append, List.length_cons, List.length_nil, true_and, and_true, Nat.zero_le, Nat.reduceLeDiff, Nat.reduceAdd, Nat.reduceEqDiff, false_imp_iff, true_imp_iff, not_false_eq_true, not_true_eq_false, imp_self, forall_const, nI_lt0 (show d < 2147483648 by omega)]
        refine st_X3_quarrelIn_24 ?_; simp only [bX3_quarrelIn_24, exP, stP, p1, p2, pr, pobj, parr, sh0, sh1, sh2, sh3, sh4, sh5, sh6, sh7, sh8, sh9, sh10, sh11, sh12, sh13, sh14, sh15, sh16, sh17, sh18, sh19, sh20, sh21, sh22, sh23, sh24, sh25, sh26, sh27, sh28, sh29, sh30, sh31, sh32, sh33, sh34, sh35, sh36, sh37, sh38, sh39, sh40, sh41, sh42, sh43, sh44, sh45, sh46, sh47, sh48, sh49, sh50, sh51, sh52, sh53, sh54, sh55, sh56, sh57, sh58, sh59, brP, brN, swP, amask, apush, List.getElem?_cons_zero, List.getElem?_cons_succ, List.set_cons_zero, List.set_cons_succ, List.take_succ_cons, List.take_zero, List.drop_succ_cons, List.drop_zero, List.reverse_cons, List.reverse_nil, List.nil_append, List.cons_append, List.length_cons, List.length_nil, true_and, and_true, Nat.zero_le, Nat.reduceLeDiff, Nat.reduceAdd, Nat.reduceEqDiff, false_imp_iff, true_imp_iff, not_false_eq_true, not_true_eq_false, imp_self, forall_const, and_not hl (show d < 12 by omega), nI_inj (show dif left (2 ^ d) < 2147483648 by omega) (show left < 2147483648 by omega)]
        refine ⟨fun c => ?_, fun c => ?_⟩
        · have hld : left.testBit d = false := by
            have := hbit d
            rw [c] at this
            simpa using this
          have hqd : q.testBit d = false := by
            cases r : q.testBit d with
            | false => rfl
            | true =>
              have r1 := hq.1 d r
              rw [← h4 d (by omega), hld] at r1
              cases r1
          exact keep (by rw [hqd, hld]) u hu
        · have hld : left.testBit d = true := by
            cases r : left.testBit d with
            | true => rfl
            | false =>
              exfalso
              apply c
              apply set_ext hflow h2
              intro i _
              rw [hbit]
              by_cases s : i = d
              · subst s; simp [r]
              · simp [s]
          have hfA : sub (dif left (2 ^ d)) A := fun i hi => by
            rw [hbit] at hi
            simp at hi
            exact h1 i hi.1
          have hmust : q.testBit d = true → ¬ fst (nF m) (nL m) (nC m) (dif left (2 ^ d)) k := fun r => isQ_must hc0 hq hfst hfA r (by rw [hbit]; simp) (fun i hi hfi => by
            rw [hbit] at hfi
            simp at hfi
            rw [← h3 i (by omega)]
            exact hfi.1)
          have hkeep : q.testBit d = false → fst (nF m) (nL m) (nC m) (dif left (2 ^ d)) k := fun r => isQ_keep hc0 hq hfst hfA (fun i hi => by
            rw [hbit]
            have s : i ≠ d := fun s => by rw [s, r] at hi; cases hi
            have s2 : left.testBit i = true := by
              rcases Nat.lt_or_ge i (d + 1) with w | w
              · rw [h4 i w]; exact hq.1 i hi
              · rw [h3 i w]; exact hi
            simp [s, s2])
          refine st_X3_quarrelIn_40 ?_; simp only [bX3_quarrelIn_40, exP, stP, p1, p2, pr, pobj, parr, sh0, sh1, sh2, sh3, sh4, sh5, sh6, sh7, sh8, sh9, sh10, sh11, sh12, sh13, sh14, sh15, sh16, sh17, sh18, sh19, sh20, sh21, sh22, sh23, sh24, sh25, sh26, sh27, sh28, sh29, sh30, sh31, sh32, sh33, sh34, sh35, sh36, sh37, sh38, sh39, sh40, sh41, sh42, sh43, sh44, sh45, sh46, sh47, sh48, sh49, sh50, sh51, sh52, sh53, sh54, sh55, sh56, sh57, sh58, sh59, brP, brN, swP, amask, apush, List.getElem?_cons_zero, List.getElem?_cons_succ, List.set_cons_zero, List.set_cons_succ, List.take_succ_cons, List.take_zero, List.drop_succ_cons, List.drop_zero, List.reverse_cons, List.reverse_nil, List.nil_append, List.cons_append, List.length_cons, List.length_nil, true_and, and_true, Nat.zero_le, Nat.reduceLeDiff, Nat.reduceAdd, Nat.reduceEqDiff, false_imp_iff, true_imp_iff, not_false_eq_true, not_true_eq_false, imp_self, forall_const]
          refine ⟨_, ⟨2, by decide, c_roundsToBreak u (hu.tw hm) (dif left (2 ^ d)) hfl⟩, ?_⟩
          unfold RQ
          rw [hu.eF, hu.eL, hu.eC]
          rintro z u' (⟨k', hk', rfl, hfst', hI', -⟩ | ⟨k', rfl, hI', hnb', hst'⟩)
          · simp only [exP, stP, p1, p2, pr, pobj, parr, sh0, sh1, sh2, sh3, sh4, sh5, sh6, sh7, sh8, sh9, sh10, sh11, sh12, sh13, sh14, sh15, sh16, sh17, sh18, sh19, sh20, sh21, sh22, sh23, sh24, sh25, sh26, sh27, sh28, sh29, sh30, sh31, sh32, sh33, sh34, sh35, sh36, sh37, sh38, sh39, sh40, sh41, sh42, sh43, sh44, sh45, sh46, sh47, sh48, sh49, sh50, sh51, sh52, sh53, sh54, sh55, sh56, sh57, sh58, sh59, brP, brN, swP, amask, apush, List.getElem?_cons_zero, List.getElem?_cons_succ, List.set_cons_zero, List.set_cons_succ, List.take_succ_cons, List.take_zero, List.drop_succ_cons, List.drop_zero, List.reverse_cons, List.reverse_nil, List.nil_append, List.cons_append, List.length_cons, List.length_nil, true_and, and_true, Nat.zero_le, Nat.reduceLeDiff, Nat.reduceAdd, Nat.reduceEqDiff, false_imp_iff, true_imp_iff, not_false_eq_true, not_true_eq_false, imp_self, forall_const, nI_inj (show k' < 2147483648 by omega) (show k < 2147483648 by omega)]
            have hu' := hu.tr hI'.rm
            refine ⟨fun s => ?_, fun s => ?_⟩
            · refine keep ?_ u' hu'
              rw [hld]
              cases r : q.testBit d with
              | true => rfl
              | false => exact absurd (fst_uniq hfst' (hkeep r)) s
            · subst s
              have hqd : q.testBit d = false := by
                cases r : q.testBit d with
                | false => rfl
                | true => exact absurd hfst' (hmust r)
              refine st_X3_quarrelIn_50 ?_; simp only [bX3_quarrelIn_50, exP, stP, p1, p2, pr, pobj, parr, sh0, sh1, sh2, sh3, sh4, sh5, sh6, sh7, sh8, sh9, sh10, sh11, sh12, sh13, sh14, sh15, sh16, sh17, sh18, sh19, sh20, sh21, sh22, sh23, sh24, sh25, sh26, sh27, sh28, sh29, sh30, sh31, sh32, sh33, sh34, sh35, sh36, sh37, sh38, sh39, sh40, sh41, sh42, sh43, sh44, sh45, sh46, sh47, sh48, sh49, sh50, sh51, sh52, sh53, sh54, sh55, sh56, sh57, sh58, sh59, brP, brN, swP, amask, apush, List.getElem?_cons_zero, List.getElem?_cons_succ, List.set_cons_zero, List.set_cons_succ, List.take_succ_cons, List.take_zero, List.drop_succ_cons, List.drop_zero, List.reverse_cons, List.reverse_nil, List.nil_append, List.cons_append, List.length_cons, List.length_nil, true_and, and_true, Nat.zero_le, Nat.reduceLeDiff, Nat.reduceAdd, Nat.reduceEqDiff, false_imp_iff, true_imp_iff, not_false_eq_true, not_true_eq_false, imp_self, forall_const]
              refine st_X3_quarrelIn_53 ?_; simp only [bX3_quarrelIn_53, exP, stP, p1, p2, pr, pobj, parr, sh0, sh1, sh2, sh3, sh4, sh5, sh6, sh7, sh8, sh9, sh10, sh11, sh12, sh13, sh14, sh15, sh16, sh17, sh18, sh19, sh20, sh21, sh22, sh23, sh24, sh25, sh26, sh27, sh28, sh29, sh30, sh31, sh32, sh33, sh34, sh35, sh36, sh37, sh38, sh39, sh40, sh41, sh42, sh43, sh44, sh45, sh46, sh47, sh48, sh49, sh50, sh51, sh52, sh53, sh54, sh55, sh56, sh57, sh58, sh59, brP, brN, swP, amask, apush, List.getElem?_cons_zero, List.getElem?_cons_succ, List.set_cons_zero, List.set_cons_succ, List.take_succ_cons, List.take_zero, List.drop_succ_cons, List.drop_zero, List.reverse_cons, List.reverse_nil, List.nil_append, List.cons_append, List.length_cons, List.length_nil, true_and, and_true, Nat.zero_le, Nat.reduceLeDiff, Nat.reduceAdd, Nat.reduceEqDiff, false_imp_iff, true_imp_iff, not_false_eq_true, not_true_eq_false, imp_self, forall_const]
              rw [e2]
              refine ih (dif left (2 ^ d)) u' (by omega) hu' hfA hflow (fun i hi => ?_) (fun i hi => ?_)
              · rw [hbit]
                by_cases r : i = d
                · rw [r, hqd]; simp
                · rw [h3 i (by omega)]; simp [r]
              · rw [hbit, h4 i (by omega)]
                have r : i ≠ d := by omega
                simp [r]
          · have hu' := hu.tr hI'.rm
            have hne : ¬ (-1 : Int32) = nI k := fun s => by
              have := nI_m1 (d := k) (by omega)
              rw [← s] at this
              simp at this
            simp only [exP, stP, p1, p2, pr, pobj, parr, sh0, sh1, sh2, sh3, sh4, sh5, sh6, sh7, sh8, sh9, sh10, sh11, sh12, sh13, sh14, sh15, sh16, sh17, sh18, sh19, sh20, sh21, sh22, sh23, sh24, sh25, sh26, sh27, sh28, sh29, sh30, sh31, sh32, sh33, sh34, sh35, sh36, sh37, sh38, sh39, sh40, sh41, sh42, sh43, sh44, sh45, sh46, sh47, sh48, sh49, sh50, sh51, sh52, sh53, sh54, sh55, sh56, sh57, sh58, sh59, brP, brN, swP, amask, apush, List.getElem?_cons_zero, List.getElem?_cons_succ, List.set_cons_zero, List.set_cons_succ, List.take_succ_cons, List.take_zero, List.drop_succ_cons, List.drop_zero, List.reverse_cons, List.reverse_nil, List.nil_append, List.cons_append, List.length_cons, List.length_nil, true_and, and_true, Nat.zero_le, Nat.reduceLeDiff, Nat.reduceAdd, Nat.reduceEqDiff, false_imp_iff, true_imp_iff, not_false_eq_true, not_true_eq_false, imp_self, forall_const, hne]
            refine keep ?_ u' hu'
            rw [hld]
            cases r : q.testBit d with
            | true => rfl
            | false => exact absurd ⟨_, agr_of_stable (fun b hb _ => hst' b hb) hnb'⟩ (brk_nagr (hkeep r).1)
    refine st_X3_quarrelIn_13 ?_; simp only [bX3_quarrelIn_13, exP, stP, p1, p2, pr, pobj, parr, sh0, sh1, sh2, sh3, sh4, sh5, sh6, sh7, sh8, sh9, sh10, sh11, sh12, sh13, sh14, sh15, sh16, sh17, sh18, sh19, sh20, sh21, sh22, sh23, sh24, sh25, sh26, sh27, sh28, sh29, sh30, sh31, sh32, sh33, sh34, sh35, sh36, sh37, sh38, sh39, sh40, sh41, sh42, sh43, sh44, sh45, sh46, sh47, sh48, sh49, sh50, sh51, sh52, sh53, sh54, sh55, sh56, sh57, sh58, sh59, brP, brN, swP, amask, apush, List.getElem?_cons_zero, List.getElem?_cons_succ, List.set_cons_zero, List.set_cons_succ, List.take_succ_cons, List.take_zero, List.drop_succ_cons, List.drop_zero, List.reverse_cons, List.reverse_nil, List.nil_append, List.cons_append, List.length_cons, List.length_nil, true_and, and_true, Nat.zero_le, Nat.reduceLeDiff, Nat.reduceAdd, Nat.reduceEqDiff, false_imp_iff, true_imp_iff, not_false_eq_true, not_true_eq_false, imp_self, forall_const]
    exact loop 12 A u (Nat.le_refl _) hI.rm (fun i hi => hi) (lt_low12 hA) (fun i hi => by
      have a1 : A.testBit i = false := by
        cases r : A.testBit i with
        | false => rfl
        | true => have := lt_low12 hA i r; omega
      have a2 : q.testBit i = false := by
        cases r : q.testBit i with
        | false => rfl
        | true => have := hq12 i r; omega
      rw [a1, a2]) (fun _ _ => rfl)
  · simp only [exP, stP, p1, p2, pr, pobj, parr, sh0, sh1, sh2, sh3, sh4, sh5, sh6, sh7, sh8, sh9, sh10, sh11, sh12, sh13, sh14, sh15, sh16, sh17, sh18, sh19, sh20, sh21, sh22, sh23, sh24, sh25, sh26, sh27, sh28, sh29, sh30, sh31, sh32, sh33, sh34, sh35, sh36, sh37, sh38, sh39, sh40, sh41, sh42, sh43, sh44, sh45, sh46, sh47, sh48, sh49, sh50, sh51, sh52, sh53, sh54, sh55, sh56, sh57, sh58, sh59, brP, brN, swP, amask, apush, List.getElem?_cons_zero, List.getElem?_cons_succ, List.set_cons_zero, List.set_cons_succ, List.take_succ_cons, List.take_zero, List.drop_succ_cons, List.drop_zero, List.reverse_cons, List.reverse_nil, List.nil_append, List.cons_append, List.length_cons, List.length_nil, true_and, and_true, Nat.zero_le, Nat.reduceLeDiff, Nat.reduceAdd, Nat.reduceEqDiff, false_imp_iff, true_imp_iff, not_false_eq_true, not_true_eq_false, imp_self, forall_const]
    refine st_X3_quarrelIn_11 ?_; simp only [bX3_quarrelIn_11, exP, stP, p1, p2, pr, pobj, parr, sh0, sh1, sh2, sh3, sh4, sh5, sh6, sh7, sh8, sh9, sh10, sh11, sh12, sh13, sh14, sh15, sh16, sh17, sh18, sh19, sh20, sh21, sh22, sh23, sh24, sh25, sh26, sh27, sh28, sh29, sh30, sh31, sh32, sh33, sh34, sh35, sh36, sh37, sh38, sh39, sh40, sh41, sh42, sh43, sh44, sh45, sh46, sh47, sh48, sh49, sh50, sh51, sh52, sh53, sh54, sh55, sh56, sh57, sh58, sh59, brP, brN, swP, amask, apush, List.getElem?_cons_zero, List.getElem?_cons_succ, List.set_cons_zero, List.set_cons_succ, List.take_succ_cons, List.take_zero, List.drop_succ_cons, List.drop_zero, List.reverse_cons, List.reverse_nil, List.nil_append, List.cons_append, List.length_cons, List.length_nil, true_and, and_true, Nat.zero_le, Nat.reduceLeDiff, Nat.reduceAdd, Nat.reduceEqDiff, false_imp_iff, true_imp_iff, not_false_eq_true, not_true_eq_false, imp_self, forall_const]
    exact ⟨Or.inl trivial, hI.rm, Or.inl ⟨rfl, _, agr_of_stable (fun b hb _ => hst b hb) hnb⟩⟩
