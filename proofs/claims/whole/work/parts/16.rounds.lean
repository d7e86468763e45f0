/-! ===== the timeline: rounds ===== -/
theorem nI_m1 {d : Nat} (h : d < 2147483648) : (nI d = -1) = False := by
  refine eq_false (fun c => ?_)
  have := nI_pos (n := d) h
  rw [c] at this
  exact this (by decide)
theorem c_firstBroken (m : AM) (t : Nat) (ht : t < 4096) : AC 1 kX3_firstBroken [.inr 15, .inl (nI t)] m (fun z u => m = u ∧ ((z = some (-1) ∧ ∀ d, d < 12 → t.testBit d = true → nF m d ≤ (m 22 d).toInt) ∨ ∃ d, d < 12 ∧ z = some (nI d) ∧ t.testBit d = true ∧ (m 22 d).toInt < nF m d)) := by
  refine AC_of own_X3_firstBroken (ls := [some (.inr 15), some (.inl (nI t)), none]) (z := 1) (Nat.le_of_ble_eq_true rfl) rfl ?_
  have loop : ∀ (n j : Nat), j + n = 12 → (∀ d, d < j → t.testBit d = true → nF m d ≤ (m 22 d).toInt) → AW 1 kX3_firstBroken (fun z u => m = u ∧ ((z = some (-1) ∧ ∀ d, d < 12 → t.testBit d = true → nF m d ≤ (m 22 d).toInt) ∨ ∃ d, d < 12 ∧ z = some (nI d) ∧ t.testBit d = true ∧ (m 22 d).toInt < nF m d)) 2 [some (.inr 15), some (.inl (nI t)), some (.inl (nI j))] [] m := by
    intro n
    induction n with
    | zero =>
      intro j h hI
      obtain rfl : j = 12 := by omega
      refine st_X3_firstBroken_2 ?_; simp only [bX3_firstBroken_2, exP, stP, p1, p2, pr, pobj, parr, sh0, sh1, sh2, sh3, sh4, sh5, sh6, sh7, sh8, sh9, sh10, sh11, sh12, sh13, sh14, sh15, sh16, sh17, sh18, sh19, sh20, sh21, sh22, sh23, sh24, sh25, sh26, sh27, sh28, sh29, sh30, sh31, sh32, sh33, sh34, sh35, sh36, sh37, sh38, sh39, sh40, sh41, sh42, sh43, sh44, sh45, sh46, sh47, sh48, sh49, sh50, sh51, sh52, sh53, sh54, sh55, sh56, sh57, sh58, sh59, brP, brN, swP, amask, apush, List.getElem?_cons_zero, List.getElem?_cons_succ, List.set_cons_zero, List.set_cons_succ, List.take_succ_cons, List.take_zero, List.drop_succ_cons, List.drop_zero, List.reverse_cons, List.reverse_nil, List.nil_append, List.cons_append, List.length_cons, List.length_nil, true_and, and_true, Nat.zero_le, Nat.reduceLeDiff, Nat.reduceAdd, Nat.reduceEqDiff, false_imp_iff, true_imp_iff, not_false_eq_true, not_true_eq_false, imp_self, forall_const, lit_le (k := 12) (n := 12) (by omega) (by omega)]
      refine st_X3_firstBroken_39 ?_; simp only [bX3_firstBroken_39, exP, stP, p1, p2, pr, pobj, parr, sh0, sh1, sh2, sh3, sh4, sh5, sh6, sh7, sh8, sh9, sh10, sh11, sh12, sh13, sh14, sh15, sh16, sh17, sh18, sh19, sh20, sh21, sh22, sh23, sh24, sh25, sh26, sh27, sh28, sh29, sh30, sh31, sh32, sh33, sh34, sh35, sh36, sh37, sh38, sh39, sh40, sh41, sh42, sh43, sh44, sh45, sh46, sh47, sh48, sh49, sh50, sh51, sh52, sh53, sh54, sh55, sh56, sh57, sh58, sh59, brP, brN, swP, amask, apush, List.getElem?_cons_zero, List.getElem?_cons_succ, List.set_cons_zero, List.set_cons_succ, List.take_succ_cons, List.take_zero, List.drop_succ_cons, List.drop_zero, List.reverse_cons, List.reverse_nil, List.nil_append, List.cons_append, List.length_cons, List.length_nil, true_and, and_true, Nat.zero_le, Nat.reduceLeDiff, Nat.reduceAdd, Nat.reduceEqDiff, false_imp_iff, true_imp_iff, not_false_eq_true, not_true_eq_false, imp_self, forall_const]
      exact ⟨Or.inl trivial, Or.inl hI⟩
    | succ n ih =>
      intro j h hI
      have hj : j < 12 := by omega
      have vj := eq_true (vp_in_nI (show j < 12 by omega) (show 12 < 2 ^ 31 by omega))
      have cj := nI_clamp (show j < 2 ^ 31 by omega)
      have next : (t.testBit j = true → nF m j ≤ (m 22 j).toInt) → AW 1 kX3_firstBroken (fun z u => m = u ∧ ((z = some (-1) ∧ ∀ d, d < 12 → t.testBit d = true → nF m d ≤ (m 22 d).toInt) ∨ ∃ d, d < 12 ∧ z = some (nI d) ∧ t.testBit d = true ∧ (m 22 d).toInt < nF m d)) 33 [some (.inr 15), some (.inl (nI t)), some (.inl (nI j))] [] m := by
        intro hq
        refine st_X3_firstBroken_33 ?_; simp only [bX3_firstBroken_33, exP, stP, p1, p2, pr, pobj, parr, sh0, sh1, sh2, sh3, sh4, sh5, sh6, sh7, sh8, sh9, sh10, sh11, sh12, sh13, sh14, sh15, sh16, sh17, sh18, sh19, sh20, sh21, sh22, sh23, sh24, sh25, sh26, sh27, sh28, sh29, sh30, sh31, sh32, sh33, sh34, sh35, sh36, sh37, sh38, sh39, sh40, sh41, sh42, sh43, sh44, sh45, sh46, sh47, sh48, sh49, sh50, sh51, sh52, sh53, sh54, sh55, sh56, sh57, sh58, sh59, brP, brN, swP, amask, apush, List.getElem?_cons_zero, List.getElem?_cons_succ, List.set_cons_zero, List.set_cons_succ, List.take_succ_cons, List.take_zero, List.drop_succ_cons, List.drop_zero, List.reverse_cons, List.reverse_nil, List.nil_append, List.cons_append, List.length_cons, List.length_nil, true_and, and_true, Nat.zero_le, Nat.reduceLeDiff, Nat.reduceAdd, Nat.reduceEqDiff, false_imp_iff, true_imp_iff, not_false_eq_true, not_true_eq_false, imp_self, forall_const]
        rw [nI_1]
        refine ih (j + 1) (by omega) (fun d hd htd => ?_)
        by_cases q : d = j
        · subst q; exact hq htd
        · exact hI d (by omega) htd
      refine st_X3_firstBroken_2 ?_; simp only [bX3_firstBroken_2, exP, stP, p1, p2, pr, pobj, parr, sh0, sh1, sh2, sh3, sh4, sh5, sh6, sh7, sh8, sh9, sh10, sh11, sh12, sh13, sh14, sh15, sh16, sh17, sh18, sh19, sh20, sh21, sh22, sh23, sh24, sh25, sh26, sh27, sh28, sh29, sh30, sh31, sh32, sh33, sh34, sh35, sh36, sh37, sh38, sh39, sh40, sh41, sh42, sh43, sh44, sh45, sh46, sh47, sh48, sh49, sh50, sh51, sh52, sh53, sh54, sh55, sh56, sh57, sh58, sh59, brP, brN, swP, amask, apush, List.getElem?_cons_zero, List.getElem?_cons_succ, List.set_cons_zero, List.set_cons_succ, List.take_succ_cons, List.take_zero, List.drop_succ_cons, List.drop_zero, List.reverse_cons, List.reverse_nil, List.nil_append, List.cons_append, List.length_cons, List.length_nil, true_and, and_true, Nat.zero_le, Nat.reduceLeDiff, Nat.reduceAdd, Nat.reduceEqDiff, false_imp_iff, true_imp_iff, not_false_eq_true, not_true_eq_false, imp_self, forall_const, lit_nle (k := 12) (n := j) hj (by omega)]
      refine st_X3_firstBroken_8 ?_; simp only [bX3_firstBroken_8, exP, stP, p1, p2, pr, pobj, parr, sh0, sh1, sh2, sh3, sh4, sh5, sh6, sh7, sh8, sh9, sh10, sh11, sh12, sh13, sh14, sh15, sh16, sh17, sh18, sh19, sh20, sh21, sh22, sh23, sh24, sh25, sh26, sh27, sh28, sh29, sh30, sh31, sh32, sh33, sh34, sh35, sh36, sh37, sh38, sh39, sh40, sh41, sh42, sh43, sh44, sh45, sh46, sh47, sh48, sh49, sh50, sh51, sh52, sh53, sh54, sh55, sh56, sh57, sh58, sh59, brP, brN, swP, amask, apush, List.getElem?_cons_zero, List.getElem?_cons_succ, List.set_cons_zero, List.set_cons_succ, List.take_succ_cons, List.take_zero, List.drop_succ_cons, List.drop_zero, List.reverse_cons, List.reverse_nil, List.nil_append, List.cons_append, List.length_cons, List.length_nil, true_and, and_true, Nat.zero_le, Nat.reduceLeDiff, Nat.reduceAdd, Nat.reduceEqDiff, false_imp_iff, true_imp_iff, not_false_eq_true, not_true_eq_false, imp_self, forall_const]
      refine ⟨_, ⟨0, by decide, c_holds _ _ j (by omega)⟩, ?_⟩; rintro _ _ ⟨rfl, rfl⟩; simp only [exP, stP, p1, p2, pr, pobj, parr, sh0, sh1, sh2, sh3, sh4, sh5, sh6, sh7, sh8, sh9, sh10, sh11, sh12, sh13, sh14, sh15, sh16, sh17, sh18, sh19, sh20, sh21, sh22, sh23, sh24, sh25, sh26, sh27, sh28, sh29, sh30, sh31, sh32, sh33, sh34, sh35, sh36, sh37, sh38, sh39, sh40, sh41, sh42, sh43, sh44, sh45, sh46, sh47, sh48, sh49, sh50, sh51, sh52, sh53, sh54, sh55, sh56, sh57, sh58, sh59, brP, brN, swP, amask, apush, List.getElem?_cons_zero, List.getElem?_cons_succ, List.set_cons_zero, List.set_cons_succ, List.take_succ_cons, List.take_zero, List.drop_succ_cons, List.drop_zero, List.reverse_cons, List.reverse_nil, List.nil_append, List.cons_append, List.length_cons, List.length_nil, true_and, and_true, Nat.zero_le, Nat.reduceLeDiff, Nat.reduceAdd, Nat.reduceEqDiff, false_imp_iff, true_imp_iff, not_false_eq_true, not_true_eq_false, imp_self, forall_const, b01_0, bt_nI (show t < 4294967296 by omega)]
      refine ⟨fun c => next (fun q => by rw [c] at q; cases q), fun c => ?_⟩
      have c2 : t.testBit j = true := by simpa using c
      refine st_X3_firstBroken_16 ?_; simp only [bX3_firstBroken_16, exP, stP, p1, p2, pr, pobj, parr, sh0, sh1, sh2, sh3, sh4, sh5, sh6, sh7, sh8, sh9, sh10, sh11, sh12, sh13, sh14, sh15, sh16, sh17, sh18, sh19, sh20, sh21, sh22, sh23, sh24, sh25, sh26, sh27, sh28, sh29, sh30, sh31, sh32, sh33, sh34, sh35, sh36, sh37, sh38, sh39, sh40, sh41, sh42, sh43, sh44, sh45, sh46, sh47, sh48, sh49, sh50, sh51, sh52, sh53, sh54, sh55, sh56, sh57, sh58, sh59, brP, brN, swP, amask, apush, List.getElem?_cons_zero, List.getElem?_cons_succ, List.set_cons_zero, List.set_cons_succ, List.take_succ_cons, List.take_zero, List.drop_succ_cons, List.drop_zero, List.reverse_cons, List.reverse_nil, List.nil_append, List.cons_append, List.length_cons, List.length_nil, true_and, and_true, Nat.zero_le, Nat.reduceLeDiff, Nat.reduceAdd, Nat.reduceEqDiff, false_imp_iff, true_imp_iff, not_false_eq_true, not_true_eq_false, imp_self, forall_const, vj, cj]
      refine ⟨fun c3 => next (fun _ => ?_), fun c3 => ?_⟩
      · rw [Int32.le_iff_toInt_le] at c3; exact c3
      · rw [Int32.le_iff_toInt_le] at c3
        refine st_X3_firstBroken_31 ?_; simp only [bX3_firstBroken_31, exP, stP, p1, p2, pr, pobj, parr, sh0, sh1, sh2, sh3, sh4, sh5, sh6, sh7, sh8, sh9, sh10, sh11, sh12, sh13, sh14, sh15, sh16, sh17, sh18, sh19, sh20, sh21, sh22, sh23, sh24, sh25, sh26, sh27, sh28, sh29, sh30, sh31, sh32, sh33, sh34, sh35, sh36, sh37, sh38, sh39, sh40, sh41, sh42, sh43, sh44, sh45, sh46, sh47, sh48, sh49, sh50, sh51, sh52, sh53, sh54, sh55, sh56, sh57, sh58, sh59, brP, brN, swP, amask, apush, List.getElem?_cons_zero, List.getElem?_cons_succ, List.set_cons_zero, List.set_cons_succ, List.take_succ_cons, List.take_zero, List.drop_succ_cons, List.drop_zero, List.reverse_cons, List.reverse_nil, List.nil_append, List.cons_append, List.length_cons, List.length_nil, true_and, and_true, Nat.zero_le, Nat.reduceLeDiff, Nat.reduceAdd, Nat.reduceEqDiff, false_imp_iff, true_imp_iff, not_false_eq_true, not_true_eq_false, imp_self, forall_const]
        exact ⟨Or.inl trivial, Or.inr ⟨j, hj, rfl, c2, by unfold nF; omega⟩⟩
  refine st_X3_firstBroken_0 ?_; simp only [bX3_firstBroken_0, exP, stP, p1, p2, pr, pobj, parr, sh0, sh1, sh2, sh3, sh4, sh5, sh6, sh7, sh8, sh9, sh10, sh11, sh12, sh13, sh14, sh15, sh16, sh17, sh18, sh19, sh20, sh21, sh22, sh23, sh24, sh25, sh26, sh27, sh28, sh29, sh30, sh31, sh32, sh33, sh34, sh35, sh36, sh37, sh38, sh39, sh40, sh41, sh42, sh43, sh44, sh45, sh46, sh47, sh48, sh49, sh50, sh51, sh52, sh53, sh54, sh55, sh56, sh57, sh58, sh59, brP, brN, swP, amask, apush, List.getElem?_cons_zero, List.getElem?_cons_succ, List.set_cons_zero, List.set_cons_succ, List.take_succ_cons, List.take_zero, List.drop_succ_cons, List.drop_zero, List.reverse_cons, List.reverse_nil, List.nil_append, List.cons_append, List.length_cons, List.length_nil, true_and, and_true, Nat.zero_le, Nat.reduceLeDiff, Nat.reduceAdd, Nat.reduceEqDiff, false_imp_iff, true_imp_iff, not_false_eq_true, not_true_eq_false, imp_self, forall_const]
  exact loop 12 0 rfl (fun d hd => by omega)
theorem jmin_congr {cst : Nat → Nat → Option Int} {t : Nat} {X Y : Nat → Int} {b : Nat} (hXY : ∀ a, a < 12 → X a = Y a) (hb : b < 12) : ∀ n, n ≤ 12 → jmin cst t X b n = jmin cst t Y b n
  | 0, _ => hXY b hb
  | n + 1, h => by
    have ih := jmin_congr (cst := cst) (t := t) hXY hb n (by omega)
    unfold jmin
    rw [ih, hXY n (by omega)]
theorem jmin_out {cst : Nat → Nat → Option Int} {t : Nat} {X : Nat → Int} {b : Nat} (hb : t.testBit b = false) : ∀ n, jmin cst t X b n = X b
  | 0 => rfl
  | n + 1 => by
    rw [jmin_step_no (by rw [hb]; simp)]
    exact jmin_out hb n
/-- after k rounds -/
def RI (m : AM) (t : Nat) (u : AM) (k : Nat) : Prop :=
  (∀ j, j ≠ 15 → j ≠ 22 → j ≠ 23 → j ≠ 24 → u j = m j) ∧ (∀ j, j ≠ 10 → u 15 j = m 15 j) ∧ (∀ b, b < 12 → (u 22 b).toInt = lat (nL m) (nC m) t k b) ∧
  ∃ tm : Nat → Nat, ∀ b, b < 12 → t.testBit b = true → tm b ≤ k ∧ ((u 24 b = -1 ∧ (u 22 b).toInt = nL m b) ∨ ∃ a c, a < 12 ∧ t.testBit a = true ∧ nC m a b = some c ∧ u 24 b = nI a ∧ (u 22 a).toInt + c ≤ (u 22 b).toInt ∧ ((u 22 a).toInt + c = (u 22 b).toInt → tm a < tm b))
theorem RI.eC {m : AM} {t : Nat} {u : AM} {k : Nat} (h : RI m t u k) : nC u = nC m := by
  funext a b
  have e1 := h.1 19 (by omega) (by omega) (by omega) (by omega)
  have e2 := h.1 18 (by omega) (by omega) (by omega) (by omega)
  have e3 := h.2.1 9 (by omega)
  unfold nC
  rw [e1, e2, e3]
theorem RI.tw {m : AM} {t : Nat} {u : AM} {k : Nat} (h : RI m t u k) (hm : TW m) : TW u := by
  have e1 := h.1 16 (by omega) (by omega) (by omega) (by omega)
  have e2 := h.1 17 (by omega) (by omega) (by omega) (by omega)
  have e3 := h.2.1 9 (by omega)
  unfold TW nF nL at *
  rw [e1, e2, e3]
  exact hm
theorem RI.put {m : AM} {t : Nat} {u : AM} {k : Nat} (x : Int32) (h : RI m t u k) : RI m t (aup u 15 (upd (u 15) 10 x)) k := by
  obtain ⟨h1, h2, h3, h4⟩ := h
  refine ⟨fun j j1 j2 j3 j4 => by rw [aup_ne j1]; exact h1 j j1 j2 j3 j4, fun j hj => by rw [aup_eq, upd_ne hj]; exact h2 j hj, fun b hb => by rw [aup_ne (by omega)]; exact h3 b hb, ?_⟩
  rw [aup_ne (show 24 ≠ 15 by omega), aup_ne (show 22 ≠ 15 by omega)]
  exact h4
theorem RI.range {m : AM} {t : Nat} {u : AM} {k : Nat} (h : RI m t u k) (hm : TW m) : ∀ b, b < 12 → 0 ≤ (u 22 b).toInt ∧ (u 22 b).toInt ≤ 3000 := by
  intro b hb
  rw [h.2.2.1 b hb]
  exact lat_range (TW_c hm) (fun b hb => ⟨(hm.1 b hb).2.2.1, (hm.1 b hb).2.2.2⟩) k b hb
theorem RI.next {m : AM} {t : Nat} {u u' : AM} {k : Nat} {ch : Bool} (h : RI m t u k) (hI : LI u t u' ch (fun _ => 12)) : RI m t u' (k + 1) ∧ (ch = true ↔ ∃ b, b < 12 ∧ lat (nL m) (nC m) t (k + 1) b < lat (nL m) (nC m) t k b) := by
  have hn := h.eC
  obtain ⟨h1, h2, h3, tm, h4⟩ := h
  obtain ⟨i1, i2, i3, i4, i5⟩ := hI
  rw [hn] at i3 i4
  have e22 : ∀ b, b < 12 → (u' 22 b).toInt = lat (nL m) (nC m) t (k + 1) b := by
    intro b hb
    rw [i3 b hb]
    exact jmin_congr h3 hb 12 (Nat.le_refl 12)
  have le22 : ∀ b, b < 12 → (u' 22 b).toInt ≤ (u 22 b).toInt := by
    intro b hb
    rw [e22 b hb, h3 b hb]
    exact lat_le t k b
  refine ⟨⟨fun j j1 j2 j3 j4 => by rw [i1 j j2 j3 j4]; exact h1 j j1 j2 j3 j4, fun j hj => by rw [i1 15 (by omega) (by omega) (by omega)]; exact h2 j hj, e22, ?_⟩, ?_⟩
  · refine ⟨fun b => if (u' 22 b).toInt < (u 22 b).toInt then k + 1 else tm b, fun b hb htb => ?_⟩
    obtain ⟨t1, t2⟩ := h4 b hb htb
    refine ⟨by dsimp only; split <;> omega, ?_⟩
    rcases i4 b hb with ⟨e1, e2⟩ | ⟨a, c, ha, hta, -, hc, e2, e3, e4⟩
    · rcases t2 with ⟨q1, q2⟩ | ⟨a, c, ha, hta, hc, q1, q2, q3⟩
      · exact Or.inl ⟨by rw [e2]; exact q1, by rw [e1]; exact q2⟩
      · have := le22 a ha
        refine Or.inr ⟨a, c, ha, hta, hc, by rw [e2]; exact q1, by omega, fun e => ?_⟩
        dsimp only
        rw [if_neg (show ¬ (u' 22 b).toInt < (u 22 b).toInt by omega), if_neg (by omega)]
        exact q3 (by omega)
    · have := le22 a ha
      refine Or.inr ⟨a, c, ha, hta, hc, e2, by omega, fun e => ?_⟩
      dsimp only
      rw [if_pos e4, if_neg (by omega)]
      have := (h4 a ha hta).1
      omega
  · rw [i5]
    constructor
    · rintro ⟨b, hb, hlt⟩
      exact ⟨b, hb, by rw [← e22 b hb, ← h3 b hb]; exact hlt⟩
    · rintro ⟨b, hb, hlt⟩
      exact ⟨b, hb, by rw [e22 b hb, h3 b hb]; exact hlt⟩
def RQ (m : AM) (t : Nat) : APost := fun z u =>
  (∃ k, k ≤ 11 ∧ z = some (nI k) ∧ fst (nF m) (nL m) (nC m) t k ∧ RI m t u k ∧ ∃ d, d < 12 ∧ u 15 10 = nI d ∧ t.testBit d = true ∧ (u 22 d).toInt < nF m d) ∨
  (∃ k, z = some (-1) ∧ RI m t u (k + 1) ∧ ¬ brk (nF m) (nL m) (nC m) t k ∧ ∀ b, b < 12 → lat (nL m) (nC m) t (k + 1) b = lat (nL m) (nC m) t k b)
theorem c_roundsToBreak (m : AM) (hm : TW m) (t : Nat) (ht : t < 4096) : AC 2 kX3_roundsToBreak [.inr 15, .inl (nI t)] m (RQ m t) := by
  refine AC_of own_X3_roundsToBreak (ls := [some (.inr 15), some (.inl (nI t)), none]) (z := 1) (Nat.le_of_ble_eq_true rfl) rfl ?_
  have hc0 := TW_c hm
  have loop2 : ∀ (n k : Nat) (u : AM), k + n = 11 → RI m t u k → (∀ j, j < k → ¬ brk (nF m) (nL m) (nC m) t j) → AW 2 kX3_roundsToBreak (RQ m t) 35 [some (.inr 15), some (.inl (nI t)), some (.inl (nI k))] [] u := by
    intro n
    induction n with
    | zero =>
      intro k u hk hI hb
      obtain rfl : k = 11 := by omega
      refine st_X3_roundsToBreak_35 ?_; simp only [bX3_roundsToBreak_35, exP, stP, p1, p2, pr, pobj, parr, sh0, sh1, sh2, sh3, sh4, sh5, sh6, sh7, sh8, sh9, sh10, sh11, sh12, sh13, sh14, sh15, sh16, sh17, sh18, sh19, sh20, sh21, sh22, sh23, sh24, sh25, sh26, sh27, sh28, sh29, sh30, sh31, sh32, sh33, sh34, sh35, sh36, sh37, sh38, sh39, sh40, sh41, sh42, sh43, sh44, sh45, sh46, sh47, sh48, sh49, sh50, sh51, sh52, sh53, sh54, sh55, sh56, sh57, sh58, sh59, brP, brN, swP, amask, apush, List.getElem?_cons_zero, List.getElem?_cons_succ, List.set_cons_zero, List.set_cons_succ, List.take_succ_cons, List.take_zero, List.drop_succ_cons, List.drop_zero, List.reverse_cons, List.reverse_nil, List.nil_append, List.cons_append, List.length_cons, List.length_nil, true_and, and_true, Nat.zero_le, Nat.reduceLeDiff, Nat.reduceAdd, Nat.reduceEqDiff, false_imp_iff, true_imp_iff, not_false_eq_true, not_true_eq_false, imp_self, forall_const, lit_nlt (k := 12) (n := 11) (by omega) (by omega)]
      refine st_X3_roundsToBreak_41 ?_; simp only [bX3_roundsToBreak_41, exP, stP, p1, p2, pr, pobj, parr, sh0, sh1, sh2, sh3, sh4, sh5, sh6, sh7, sh8, sh9, sh10, sh11, sh12, sh13, sh14, sh15, sh16, sh17, sh18, sh19, sh20, sh21, sh22, sh23, sh24, sh25, sh26, sh27, sh28, sh29, sh30, sh31, sh32, sh33, sh34, sh35, sh36, sh37, sh38, sh39, sh40, sh41, sh42, sh43, sh44, sh45, sh46, sh47, sh48, sh49, sh50, sh51, sh52, sh53, sh54, sh55, sh56, sh57, sh58, sh59, brP, brN, swP, amask, apush, List.getElem?_cons_zero, List.getElem?_cons_succ, List.set_cons_zero, List.set_cons_succ, List.take_succ_cons, List.take_zero, List.drop_succ_cons, List.drop_zero, List.reverse_cons, List.reverse_nil, List.nil_append, List.cons_append, List.length_cons, List.length_nil, true_and, and_true, Nat.zero_le, Nat.reduceLeDiff, Nat.reduceAdd, Nat.reduceEqDiff, false_imp_iff, true_imp_iff, not_false_eq_true, not_true_eq_false, imp_self, forall_const]
      refine ⟨_, ⟨1, by decide, c_firstBroken u t ht⟩, ?_⟩
      rintro z u' ⟨rfl, hz⟩
      have e16 := hI.1 16 (by omega) (by omega) (by omega) (by omega)
      rcases hz with ⟨rfl, hz⟩ | ⟨d, hd, rfl, htd, hlt⟩
      · simp only [exP, stP, p1, p2, pr, pobj, parr, sh0, sh1, sh2, sh3, sh4, sh5, sh6, sh7, sh8, sh9, sh10, sh11, sh12, sh13, sh14, sh15, sh16, sh17, sh18, sh19, sh20, sh21, sh22, sh23, sh24, sh25, sh26, sh27, sh28, sh29, sh30, sh31, sh32, sh33, sh34, sh35, sh36, sh37, sh38, sh39, sh40, sh41, sh42, sh43, sh44, sh45, sh46, sh47, sh48, sh49, sh50, sh51, sh52, sh53, sh54, sh55, sh56, sh57, sh58, sh59, brP, brN, swP, amask, apush, List.getElem?_cons_zero, List.getElem?_cons_succ, List.set_cons_zero, List.set_cons_succ, List.take_succ_cons, List.take_zero, List.drop_succ_cons, List.drop_zero, List.reverse_cons, List.reverse_nil, List.nil_append, List.cons_append, List.length_cons, List.length_nil, true_and, and_true, Nat.zero_le, Nat.reduceLeDiff, Nat.reduceAdd, Nat.reduceEqDiff, false_imp_iff, true_imp_iff, not_false_eq_true, not_true_eq_false, imp_self, forall_const, aup_eq, upd_eq, true_or]
        refine st_X3_roundsToBreak_60 ?_; simp only [bX3_roundsToBreak_60, exP, stP, p1, p2, pr, pobj, parr, sh0, sh1, sh2, sh3, sh4, sh5, sh6, sh7, sh8, sh9, sh10, sh11, sh12, sh13, sh14, sh15, sh16, sh17, sh18, sh19, sh20, sh21, sh22, sh23, sh24, sh25, sh26, sh27, sh28, sh29, sh30, sh31, sh32, sh33, sh34, sh35, sh36, sh37, sh38, sh39, sh40, sh41, sh42, sh43, sh44, sh45, sh46, sh47, sh48, sh49, sh50, sh51, sh52, sh53, sh54, sh55, sh56, sh57, sh58, sh59, brP, brN, swP, amask, apush, List.getElem?_cons_zero, List.getElem?_cons_succ, List.set_cons_zero, List.set_cons_succ, List.take_succ_cons, List.take_zero, List.drop_succ_cons, List.drop_zero, List.reverse_cons, List.reverse_nil, List.nil_append, List.cons_append, List.length_cons, List.length_nil, true_and, and_true, Nat.zero_le, Nat.reduceLeDiff, Nat.reduceAdd, Nat.reduceEqDiff, false_imp_iff, true_imp_iff, not_false_eq_true, not_true_eq_false, imp_self, forall_const]
        have hI2 := hI.put (-1)
        refine ⟨_, ⟨1, by decide, c_lowerOnce _ (hI2.tw hm) (hI2.range hm) t ht⟩, ?_⟩
        rintro z u' ⟨ch, rfl, hL⟩
        obtain ⟨hI3, hch⟩ := hI2.next hL
        have hno : ¬ ∃ b, b < 12 ∧ lat (nL m) (nC m) t (11 + 1) b < lat (nL m) (nC m) t 11 b := by
          rintro ⟨b, hb, hlt⟩
          cases hq : t.testBit b with
          | true =>
            have h9 : lat (nL m) (nC m) t (11 + 1) b = lat (nL m) (nC m) t 11 b := lat_stable (L := nL m) (fun a b c h => (hc0 a b c h).1) hb hq
            omega
          | false =>
            have e : lat (nL m) (nC m) t (11 + 1) b = lat (nL m) (nC m) t 11 b := jmin_out hq 12
            omega
        have hcf : ch = false := by
          cases ch with
          | false => rfl
          | true => exact absurd (hch.mp rfl) hno
        subst hcf
        simp only [exP, stP, p1, p2, pr, pobj, parr, sh0, sh1, sh2, sh3, sh4, sh5, sh6, sh7, sh8, sh9, sh10, sh11, sh12, sh13, sh14, sh15, sh16, sh17, sh18, sh19, sh20, sh21, sh22, sh23, sh24, sh25, sh26, sh27, sh28, sh29, sh30, sh31, sh32, sh33, sh34, sh35, sh36, sh37, sh38, sh39, sh40, sh41, sh42, sh43, sh44, sh45, sh46, sh47, sh48, sh49, sh50, sh51, sh52, sh53, sh54, sh55, sh56, sh57, sh58, sh59, brP, brN, swP, amask, apush, List.getElem?_cons_zero, List.getElem?_cons_succ, List.set_cons_zero, List.set_cons_succ, List.take_succ_cons, List.take_zero, List.drop_succ_cons, List.drop_zero, List.reverse_cons, List.reverse_nil, List.nil_append, List.cons_append, List.length_cons, List.length_nil, true_and, and_true, Nat.zero_le, Nat.reduceLeDiff, Nat.reduceAdd, Nat.reduceEqDiff, false_imp_iff, true_imp_iff, not_false_eq_true, not_true_eq_false, imp_self, forall_const, b01_0]
        refine st_X3_roundsToBreak_68 ?_; simp only [bX3_roundsToBreak_68, exP, stP, p1, p2, pr, pobj, parr, sh0, sh1, sh2, sh3, sh4, sh5, sh6, sh7, sh8, sh9, sh10, sh11, sh12, sh13, sh14, sh15, sh16, sh17, sh18, sh19, sh20, sh21, sh22, sh23, sh24, sh25, sh26, sh27, sh28, sh29, sh30, sh31, sh32, sh33, sh34, sh35, sh36, sh37, sh38, sh39, sh40, sh41, sh42, sh43, sh44, sh45, sh46, sh47, sh48, sh49, sh50, sh51, sh52, sh53, sh54, sh55, sh56, sh57, sh58, sh59, brP, brN, swP, amask, apush, List.getElem?_cons_zero, List.getElem?_cons_succ, List.set_cons_zero, List.set_cons_succ, List.take_succ_cons, List.take_zero, List.drop_succ_cons, List.drop_zero, List.reverse_cons, List.reverse_nil, List.nil_append, List.cons_append, List.length_cons, List.length_nil, true_and, and_true, Nat.zero_le, Nat.reduceLeDiff, Nat.reduceAdd, Nat.reduceEqDiff, false_imp_iff, true_imp_iff, not_false_eq_true, not_true_eq_false, imp_self, forall_const]
        refine ⟨Or.inl trivial, Or.inr ⟨11, rfl, hI3, ?_, fun b hb => ?_⟩⟩
        · rintro ⟨b, hb, htb, hlt⟩
          have h5 := hz b hb htb
          have h6 := hI.2.2.1 b hb
          unfold nF at h5 hlt
          rw [e16] at h5
          omega
        · have h5 := lat_le (L := nL m) (cst := nC m) t 11 b
          rcases Int.lt_or_le (lat (nL m) (nC m) t (11 + 1) b) (lat (nL m) (nC m) t 11 b) with q | q
          · exact absurd ⟨b, hb, q⟩ hno
          · omega
      · simp only [exP, stP, p1, p2, pr, pobj, parr, sh0, sh1, sh2, sh3, sh4, sh5, sh6, sh7, sh8, sh9, sh10, sh11, sh12, sh13, sh14, sh15, sh16, sh17, sh18, sh19, sh20, sh21, sh22, sh23, sh24, sh25, sh26, sh27, sh28, sh29, sh30, sh31, sh32, sh33, sh34, sh35, sh36, sh37, sh38, sh39, sh40, sh41, sh42, sh43, sh44, sh45, sh46, sh47, sh48, sh49, sh50, sh51, sh52, sh53, sh54, sh55, sh56, sh57, sh58, sh59, brP, brN, swP, amask, apush, List.getElem?_cons_zero, List.getElem?_cons_succ, List.set_cons_zero, List.set_cons_succ, List.take_succ_cons, List.take_zero, List.drop_succ_cons, List.drop_zero, List.reverse_cons, List.reverse_nil, List.nil_append, List.cons_append, List.length_cons, List.length_nil, true_and, and_true, Nat.zero_le, Nat.reduceLeDiff, Nat.reduceAdd, Nat.reduceEqDiff, false_imp_iff, true_imp_iff, not_false_eq_true, not_true_eq_false, imp_self, forall_const, aup_eq, upd_eq, true_or, nI_m1 (show d < 2147483648 by omega)]
        refine st_X3_roundsToBreak_58 ?_; simp only [bX3_roundsToBreak_58, exP, stP, p1, p2, pr, pobj, parr, sh0, sh1, sh2, sh3, sh4, sh5, sh6, sh7, sh8, sh9, sh10, sh11, sh12, sh13, sh14, sh15, sh16, sh17, sh18, sh19, sh20, sh21, sh22, sh23, sh24, sh25, sh26, sh27, sh28, sh29, sh30, sh31, sh32, sh33, sh34, sh35, sh36, sh37, sh38, sh39, sh40, sh41, sh42, sh43, sh44, sh45, sh46, sh47, sh48, sh49, sh50, sh51, sh52, sh53, sh54, sh55, sh56, sh57, sh58, sh59, brP, brN, swP, amask, apush, List.getElem?_cons_zero, List.getElem?_cons_succ, List.set_cons_zero, List.set_cons_succ, List.take_succ_cons, List.take_zero, List.drop_succ_cons, List.drop_zero, List.reverse_cons, List.reverse_nil, List.nil_append, List.cons_append, List.length_cons, List.length_nil, true_and, and_true, Nat.zero_le, Nat.reduceLeDiff, Nat.reduceAdd, Nat.reduceEqDiff, false_imp_iff, true_imp_iff, not_false_eq_true, not_true_eq_false, imp_self, forall_const]
        have hlt2 : (u 22 d).toInt < nF m d := by unfold nF at hlt ⊢; rw [e16] at hlt; exact hlt
        refine ⟨Or.inl trivial, Or.inl ⟨11, Nat.le_refl _, rfl, ⟨⟨d, hd, htd, ?_⟩, hb⟩, hI.put _, d, hd, ?_, htd, ?_⟩⟩
        · rw [← hI.2.2.1 d hd]; exact hlt2
        · rw [aup_eq, upd_eq]
        · rw [aup_ne (by omega)]; exact hlt2
    | succ n ih =>
      intro k u hk hI hb
      refine st_X3_roundsToBreak_35 ?_; simp only [bX3_roundsToBreak_35, exP, stP, p1, p2, pr, pobj, parr, sh0, sh1, sh2, sh3, sh4, sh5, sh6, sh7, sh8, sh9, sh10, sh11, sh12, sh13, sh14, sh15, sh16, sh17, sh18, sh19, sh20, sh21, sh22, sh23, sh24, sh25, sh26, sh27, sh28, sh29, sh30, sh31, sh32, sh33, sh34, sh35, sh36, sh37, sh38, sh39, sh40, sh41, sh42, sh43, sh44, sh45, sh46, sh47, sh48, sh49, sh50, sh51, sh52, sh53, sh54, sh55, sh56, sh57, sh58, sh59, brP, brN, swP, amask, apush, List.getElem?_cons_zero, List.getElem?_cons_succ, List.set_cons_zero, List.set_cons_succ, List.take_succ_cons, List.take_zero, List.drop_succ_cons, List.drop_zero, List.reverse_cons, List.reverse_nil, List.nil_append, List.cons_append, List.length_cons, List.length_nil, true_and, and_true, Nat.zero_le, Nat.reduceLeDiff, Nat.reduceAdd, Nat.reduceEqDiff, false_imp_iff, true_imp_iff, not_false_eq_true, not_true_eq_false, imp_self, forall_const, lit_nlt (k := 12) (n := k) (by omega) (by omega)]
      refine st_X3_roundsToBreak_41 ?_; simp only [bX3_roundsToBreak_41, exP, stP, p1, p2, pr, pobj, parr, sh0, sh1, sh2, sh3, sh4, sh5, sh6, sh7, sh8, sh9, sh10, sh11, sh12, sh13, sh14, sh15, sh16, sh17, sh18, sh19, sh20, sh21, sh22, sh23, sh24, sh25, sh26, sh27, sh28, sh29, sh30, sh31, sh32, sh33, sh34, sh35, sh36, sh37, sh38, sh39, sh40, sh41, sh42, sh43, sh44, sh45, sh46, sh47, sh48, sh49, sh50, sh51, sh52, sh53, sh54, sh55, sh56, sh57, sh58, sh59, brP, brN, swP, amask, apush, List.getElem?_cons_zero, List.getElem?_cons_succ, List.set_cons_zero, List.set_cons_succ, List.take_succ_cons, List.take_zero, List.drop_succ_cons, List.drop_zero, List.reverse_cons, List.reverse_nil, List.nil_append, List.cons_append, List.length_cons, List.length_nil, true_and, and_true, Nat.zero_le, Nat.reduceLeDiff, Nat.reduceAdd, Nat.reduceEqDiff, false_imp_iff, true_imp_iff, not_false_eq_true, not_true_eq_false, imp_self, forall_const]
      refine ⟨_, ⟨1, by decide, c_firstBroken u t ht⟩, ?_⟩
      rintro z u' ⟨rfl, hz⟩
      have e16 := hI.1 16 (by omega) (by omega) (by omega) (by omega)
      rcases hz with ⟨rfl, hz⟩ | ⟨d, hd, rfl, htd, hlt⟩
      · simp only [exP, stP, p1, p2, pr, pobj, parr, sh0, sh1, sh2, sh3, sh4, sh5, sh6, sh7, sh8, sh9, sh10, sh11, sh12, sh13, sh14, sh15, sh16, sh17, sh18, sh19, sh20, sh21, sh22, sh23, sh24, sh25, sh26, sh27, sh28, sh29, sh30, sh31, sh32, sh33, sh34, sh35, sh36, sh37, sh38, sh39, sh40, sh41, sh42, sh43, sh44, sh45, sh46, sh47, sh48, sh49, sh50, sh51, sh52, sh53, sh54, sh55, sh56, sh57, sh58, sh59, brP, brN, swP, amask, apush, List.getElem?_cons_zero, List.getElem?_cons_succ, List.set_cons_zero, List.set_cons_succ, List.take_succ_cons, List.take_zero, List.drop_succ_cons, List.drop_zero, List.reverse_cons, List.reverse_nil, List.nil_append, List.cons_append, List.length_cons, List.length_nil, true_and, and_true, Nat.zero_le, Nat.reduceLeDiff, Nat.reduceAdd, Nat.reduceEqDiff, false_imp_iff, true_imp_iff, not_false_eq_true, not_true_eq_false, imp_self, forall_const, aup_eq, upd_eq, true_or]
        refine st_X3_roundsToBreak_60 ?_; simp only [bX3_roundsToBreak_60, exP, stP, p1, p2, pr, pobj, parr, sh0, sh1, sh2, sh3, sh4, sh5, sh6, sh7, sh8, sh9, sh10, sh11, sh12, sh13, sh14, sh15, sh16, sh17, sh18, sh19, sh20, sh21, sh22, sh23, sh24, sh25, sh26, sh27, sh28, sh29, sh30, sh31, sh32, sh33, sh34, sh35, sh36, sh37, sh38, sh39, sh40, sh41, sh42, sh43, sh44, sh45, sh46, sh47, sh48, sh49, sh50, sh51, sh52, sh53, sh54, sh55, sh56, sh57, sh58, sh59, brP, brN, swP, amask, apush, List.getElem?_cons_zero, List.getElem?_cons_succ, List.set_cons_zero, List.set_cons_succ, List.take_succ_cons, List.take_zero, List.drop_succ_cons, List.drop_zero, List.reverse_cons, List.reverse_nil, List.nil_append, List.cons_append, List.length_cons, List.length_nil, true_and, and_true, Nat.zero_le, Nat.reduceLeDiff, Nat.reduceAdd, Nat.reduceEqDiff, false_imp_iff, true_imp_iff, not_false_eq_true, not_true_eq_false, imp_self, forall_const]
        have hI2 := hI.put (-1)
        have hnb : ¬ brk (nF m) (nL m) (nC m) t k := by
          rintro ⟨b, hb, htb, hlt⟩
          have h5 := hz b hb htb
          have h6 := hI.2.2.1 b hb
          unfold nF at h5 hlt
          rw [e16] at h5
          omega
        refine ⟨_, ⟨1, by decide, c_lowerOnce _ (hI2.tw hm) (hI2.range hm) t ht⟩, ?_⟩
        rintro z u' ⟨ch, rfl, hL⟩
        obtain ⟨hI3, hch⟩ := hI2.next hL
        simp only [exP, stP, p1, p2, pr, pobj, parr, sh0, sh1, sh2, sh3, sh4, sh5, sh6, sh7, sh8, sh9, sh10, sh11, sh12, sh13, sh14, sh15, sh16, sh17, sh18, sh19, sh20, sh21, sh22, sh23, sh24, sh25, sh26, sh27, sh28, sh29, sh30, sh31, sh32, sh33, sh34, sh35, sh36, sh37, sh38, sh39, sh40, sh41, sh42, sh43, sh44, sh45, sh46, sh47, sh48, sh49, sh50, sh51, sh52, sh53, sh54, sh55, sh56, sh57, sh58, sh59, brP, brN, swP, amask, apush, List.getElem?_cons_zero, List.getElem?_cons_succ, List.set_cons_zero, List.set_cons_succ, List.take_succ_cons, List.take_zero, List.drop_succ_cons, List.drop_zero, List.reverse_cons, List.reverse_nil, List.nil_append, List.cons_append, List.length_cons, List.length_nil, true_and, and_true, Nat.zero_le, Nat.reduceLeDiff, Nat.reduceAdd, Nat.reduceEqDiff, false_imp_iff, true_imp_iff, not_false_eq_true, not_true_eq_false, imp_self, forall_const, b01_0]
        refine ⟨fun c => ?_, fun c => ?_⟩
        · refine st_X3_roundsToBreak_70 ?_; simp only [bX3_roundsToBreak_70, exP, stP, p1, p2, pr, pobj, parr, sh0, sh1, sh2, sh3, sh4, sh5, sh6, sh7, sh8, sh9, sh10, sh11, sh12, sh13, sh14, sh15, sh16, sh17, sh18, sh19, sh20, sh21, sh22, sh23, sh24, sh25, sh26, sh27, sh28, sh29, sh30, sh31, sh32, sh33, sh34, sh35, sh36, sh37, sh38, sh39, sh40, sh41, sh42, sh43, sh44, sh45, sh46, sh47, sh48, sh49, sh50, sh51, sh52, sh53, sh54, sh55, sh56, sh57, sh58, sh59, brP, brN, swP, amask, apush, List.getElem?_cons_zero, List.getElem?_cons_succ, List.set_cons_zero, List.set_cons_succ, List.take_succ_cons, List.take_zero, List.drop_succ_cons, List.drop_zero, List.reverse_cons, List.reverse_nil, List.nil_append, List.cons_append, List.length_cons, List.length_nil, true_and, and_true, Nat.zero_le, Nat.reduceLeDiff, Nat.reduceAdd, Nat.reduceEqDiff, false_imp_iff, true_imp_iff, not_false_eq_true, not_true_eq_false, imp_self, forall_const]
          rw [nI_1]
          refine ih (k + 1) u' (by omega) hI3 (fun j hj => ?_)
          by_cases q : j = k
          · subst q; exact hnb
          · exact hb j (by omega)
        · refine st_X3_roundsToBreak_68 ?_; simp only [bX3_roundsToBreak_68, exP, stP, p1, p2, pr, pobj, parr, sh0, sh1, sh2, sh3, sh4, sh5, sh6, sh7, sh8, sh9, sh10, sh11, sh12, sh13, sh14, sh15, sh16, sh17, sh18, sh19, sh20, sh21, sh22, sh23, sh24, sh25, sh26, sh27, sh28, sh29, sh30, sh31, sh32, sh33, sh34, sh35, sh36, sh37, sh38, sh39, sh40, sh41, sh42, sh43, sh44, sh45, sh46, sh47, sh48, sh49, sh50, sh51, sh52, sh53, sh54, sh55, sh56, sh57, sh58, sh59, brP, brN, swP, amask, apush, List.getElem?_cons_zero, List.getElem?_cons_succ, List.set_cons_zero, List.set_cons_succ, List.take_succ_cons, List.take_zero, List.drop_succ_cons, List.drop_zero, List.reverse_cons, List.reverse_nil, List.nil_append, List.cons_append, List.length_cons, List.length_nil, true_and, and_true, Nat.zero_le, Nat.reduceLeDiff, Nat.reduceAdd, Nat.reduceEqDiff, false_imp_iff, true_imp_iff, not_false_eq_true, not_true_eq_false, imp_self, forall_const]
          refine ⟨Or.inl trivial, Or.inr ⟨k, rfl, hI3, hnb, fun b hb => ?_⟩⟩
          have h5 := lat_le (L := nL m) (cst := nC m) t k b
          rcases Int.lt_or_le (lat (nL m) (nC m) t (k + 1) b) (lat (nL m) (nC m) t k b) with q | q
          · rw [hch.mpr ⟨b, hb, q⟩] at c; cases c
          · omega
      · simp only [exP, stP, p1, p2, pr, pobj, parr, sh0, sh1, sh2, sh3, sh4, sh5, sh6, sh7, sh8, sh9, sh10, sh11, sh12, sh13, sh14, sh15, sh16, sh17, sh18, sh19, sh20, sh21, sh22, sh23, sh24, sh25, sh26, sh27, sh28, sh29, sh30, sh31, sh32, sh33, sh34, sh35, sh36, sh37, sh38, sh39, sh40, sh41, sh42, sh43, sh44, sh45, sh46, sh47, sh48, sh49, sh50, sh51, sh52, sh53, sh54, sh55, sh56, sh57, sh58, sh59, brP, brN, swP, amask, apush, List.getElem?_cons_zero, List.getElem?_cons_succ, List.set_cons_zero, List.set_cons_succ, List.take_succ_cons, List.take_zero, List.drop_succ_cons, List.drop_zero, List.reverse_cons, List.reverse_nil, List.nil_append, List.cons_append, List.length_cons, List.length_nil, true_and, and_true, Nat.zero_le, Nat.reduceLeDiff, Nat.reduceAdd, Nat.reduceEqDiff, false_imp_iff, true_imp_iff, not_false_eq_true, not_true_eq_false, imp_self, forall_const, aup_eq, upd_eq, true_or, nI_m1 (show d < 2147483648 by omega)]
        refine st_X3_roundsToBreak_58 ?_; simp only [bX3_roundsToBreak_58, exP, stP, p1, p2, pr, pobj, parr, sh0, sh1, sh2, sh3, sh4, sh5, sh6, sh7, sh8, sh9, sh10, sh11, sh12, sh13, sh14, sh15, sh16, sh17, sh18, sh19, sh20, sh21, sh22, sh23, sh24, sh25, sh26, sh27, sh28, sh29, sh30, sh31, sh32, sh33, sh34, sh35, sh36, sh37, sh38, sh39, sh40, sh41, sh42, sh43, sh44, sh45, sh46, sh47, sh48, sh49, sh50, sh51, sh52, sh53, sh54, sh55, sh56, sh57, sh58, sh59, brP, brN, swP, amask, apush, List.getElem?_cons_zero, List.getElem?_cons_succ, List.set_cons_zero, List.set_cons_succ, List.take_succ_cons, List.take_zero, List.drop_succ_cons, List.drop_zero, List.reverse_cons, List.reverse_nil, List.nil_append, List.cons_append, List.length_cons, List.length_nil, true_and, and_true, Nat.zero_le, Nat.reduceLeDiff, Nat.reduceAdd, Nat.reduceEqDiff, false_imp_iff, true_imp_iff, not_false_eq_true, not_true_eq_false, imp_self, forall_const]
        have hlt2 : (u 22 d).toInt < nF m d := by unfold nF at hlt ⊢; rw [e16] at hlt; exact hlt
        refine ⟨Or.inl trivial, Or.inl ⟨k, by omega, rfl, ⟨⟨d, hd, htd, ?_⟩, hb⟩, hI.put _, d, hd, ?_, htd, ?_⟩⟩
        · rw [← hI.2.2.1 d hd]; exact hlt2
        · rw [aup_eq, upd_eq]
        · rw [aup_ne (by omega)]; exact hlt2
  have loop1 : ∀ (n j : Nat) (u : AM), j + n = 12 → (∀ i, i ≠ 22 → i ≠ 24 → u i = m i) → (∀ b, b < j → u 22 b = m 17 b ∧ u 24 b = -1) → AW 2 kX3_roundsToBreak (RQ m t) 2 [some (.inr 15), some (.inl (nI t)), some (.inl (nI j))] [] u := by
    intro n
    induction n with
    | zero =>
      intro j u hj h1 h2
      obtain rfl : j = 12 := by omega
      refine st_X3_roundsToBreak_2 ?_; simp only [bX3_roundsToBreak_2, exP, stP, p1, p2, pr, pobj, parr, sh0, sh1, sh2, sh3, sh4, sh5, sh6, sh7, sh8, sh9, sh10, sh11, sh12, sh13, sh14, sh15, sh16, sh17, sh18, sh19, sh20, sh21, sh22, sh23, sh24, sh25, sh26, sh27, sh28, sh29, sh30, sh31, sh32, sh33, sh34, sh35, sh36, sh37, sh38, sh39, sh40, sh41, sh42, sh43, sh44, sh45, sh46, sh47, sh48, sh49, sh50, sh51, sh52, sh53, sh54, sh55, sh56, sh57, sh58, sh59, brP, brN, swP, amask, apush, List.getElem?_cons_zero, List.getElem?_cons_succ, List.set_cons_zero, List.set_cons_succ, List.take_succ_cons, List.take_zero, List.drop_succ_cons, List.drop_zero, List.reverse_cons, List.reverse_nil, List.nil_append, List.cons_append, List.length_cons, List.length_nil, true_and, and_true, Nat.zero_le, Nat.reduceLeDiff, Nat.reduceAdd, Nat.reduceEqDiff, false_imp_iff, true_imp_iff, not_false_eq_true, not_true_eq_false, imp_self, forall_const, lit_le (k := 12) (n := 12) (by omega) (by omega)]
      refine st_X3_roundsToBreak_33 ?_; simp only [bX3_roundsToBreak_33, exP, stP, p1, p2, pr, pobj, parr, sh0, sh1, sh2, sh3, sh4, sh5, sh6, sh7, sh8, sh9, sh10, sh11, sh12, sh13, sh14, sh15, sh16, sh17, sh18, sh19, sh20, sh21, sh22, sh23, sh24, sh25, sh26, sh27, sh28, sh29, sh30, sh31, sh32, sh33, sh34, sh35, sh36, sh37, sh38, sh39, sh40, sh41, sh42, sh43, sh44, sh45, sh46, sh47, sh48, sh49, sh50, sh51, sh52, sh53, sh54, sh55, sh56, sh57, sh58, sh59, brP, brN, swP, amask, apush, List.getElem?_cons_zero, List.getElem?_cons_succ, List.set_cons_zero, List.set_cons_succ, List.take_succ_cons, List.take_zero, List.drop_succ_cons, List.drop_zero, List.reverse_cons, List.reverse_nil, List.nil_append, List.cons_append, List.length_cons, List.length_nil, true_and, and_true, Nat.zero_le, Nat.reduceLeDiff, Nat.reduceAdd, Nat.reduceEqDiff, false_imp_iff, true_imp_iff, not_false_eq_true, not_true_eq_false, imp_self, forall_const]
      refine loop2 11 0 u rfl ⟨fun j _ j2 _ j4 => h1 j j2 j4, fun j _ => by rw [h1 15 (by omega) (by omega)], fun b hb => by rw [(h2 b hb).1]; rfl, fun _ => 0, fun b hb _ => ⟨Nat.le_refl 0, Or.inl ⟨(h2 b hb).2, by rw [(h2 b hb).1]; rfl⟩⟩⟩ (fun j hj => by omega)
    | succ n ih =>
      intro j u hj h1 h2
      have vj := eq_true (vp_in_nI (show j < 12 by omega) (show 12 < 2 ^ 31 by omega))
      have cj := nI_clamp (show j < 2 ^ 31 by omega)
      refine st_X3_roundsToBreak_2 ?_; simp only [bX3_roundsToBreak_2, exP, stP, p1, p2, pr, pobj, parr, sh0, sh1, sh2, sh3, sh4, sh5, sh6, sh7, sh8, sh9, sh10, sh11, sh12, sh13, sh14, sh15, sh16, sh17, sh18, sh19, sh20, sh21, sh22, sh23, sh24, sh25, sh26, sh27, sh28, sh29, sh30, sh31, sh32, sh33, sh34, sh35, sh36, sh37, sh38, sh39, sh40, sh41, sh42, sh43, sh44, sh45, sh46, sh47, sh48, sh49, sh50, sh51, sh52, sh53, sh54, sh55, sh56, sh57, sh58, sh59, brP, brN, swP, amask, apush, List.getElem?_cons_zero, List.getElem?_cons_succ, List.set_cons_zero, List.set_cons_succ, List.take_succ_cons, List.take_zero, List.drop_succ_cons, List.drop_zero, List.reverse_cons, List.reverse_nil, List.nil_append, List.cons_append, List.length_cons, List.length_nil, true_and, and_true, Nat.zero_le, Nat.reduceLeDiff, Nat.reduceAdd, Nat.reduceEqDiff, false_imp_iff, true_imp_iff, not_false_eq_true, not_true_eq_false, imp_self, forall_const, lit_nle (k := 12) (n := j) (by omega) (by omega)]
      refine st_X3_roundsToBreak_8 ?_; simp only [bX3_roundsToBreak_8, exP, stP, p1, p2, pr, pobj, parr, sh0, sh1, sh2, sh3, sh4, sh5, sh6, sh7, sh8, sh9, sh10, sh11, sh12, sh13, sh14, sh15, sh16, sh17, sh18, sh19, sh20, sh21, sh22, sh23, sh24, sh25, sh26, sh27, sh28, sh29, sh30, sh31, sh32, sh33, sh34, sh35, sh36, sh37, sh38, sh39, sh40, sh41, sh42, sh43, sh44, sh45, sh46, sh47, sh48, sh49, sh50, sh51, sh52, sh53, sh54, sh55, sh56, sh57, sh58, sh59, brP, brN, swP, amask, apush, List.getElem?_cons_zero, List.getElem?_cons_succ, List.set_cons_zero, List.set_cons_succ, List.take_succ_cons, List.take_zero, List.drop_succ_cons, List.drop_zero, List.reverse_cons, List.reverse_nil, List.nil_append, List.cons_append, List.length_cons, List.length_nil, true_and, and_true, Nat.zero_le, Nat.reduceLeDiff, Nat.reduceAdd, Nat.reduceEqDiff, false_imp_iff, true_imp_iff, not_false_eq_true, not_true_eq_false, imp_self, forall_const, vj, cj]
      rw [nI_1]
      refine ih (j + 1) _ (by omega) (fun i i1 i2 => by rw [aup_ne i2, aup_ne i1]; exact h1 i i1 i2) (fun b hb => ?_)
      rw [aup_ne (show 22 ≠ 24 by omega), aup_eq, aup_eq, aup_ne (show 24 ≠ 22 by omega)]
      by_cases q : b = j
      · subst q
        rw [upd_eq, upd_eq, h1 17 (by omega) (by omega)]
        exact ⟨rfl, rfl⟩
      · rw [upd_ne q, upd_ne q]
        exact h2 b (by omega)
  refine st_X3_roundsToBreak_0 ?_; simp only [bX3_roundsToBreak_0, exP, stP, p1, p2, pr, pobj, parr, sh0, sh1, sh2, sh3, sh4, sh5, sh6, sh7, sh8, sh9, sh10, sh11, sh12, sh13, sh14, sh15, sh16, sh17, sh18, sh19, sh20, sh21, sh22, sh23, sh24, sh25, sh26, sh27, sh28, sh29, sh30, sh31, sh32, sh33, sh34, sh35, sh36, sh37, sh38, sh39, sh40, sh41, sh42, sh43, sh44, sh45, sh46, sh47, sh48, sh49, sh50, sh51, sh52, sh53, sh54, sh55, sh56, sh57, sh58, sh59, brP, brN, swP, amask, apush, List.getElem?_cons_zero, List.getElem?_cons_succ, List.set_cons_zero, List.set_cons_succ, List.take_succ_cons, List.take_zero, List.drop_succ_cons, List.drop_zero, List.reverse_cons, List.reverse_nil, List.nil_append, List.cons_append, List.length_cons, List.length_nil, true_and, and_true, Nat.zero_le, Nat.reduceLeDiff, Nat.reduceAdd, Nat.reduceEqDiff, false_imp_iff, true_imp_iff, not_false_eq_true, not_true_eq_false, imp_self, forall_const]
  exact loop1 12 0 m rfl (fun _ _ _ => rfl) (fun b hb => by omega)
