/-! ===== the timeline: one round ===== -/
theorem bt_nI {t : Nat} (h : t < 4294967296) (i : Nat) : bt (nI t) i = t.testBit i := by
  unfold bt nI
  show (BitVec.ofNat 32 t).getLsbD i = _
  rw [BitVec.getLsbD_ofNat]
  by_cases hi : i < 32
  · simp [hi]
  · have : t.testBit i = false := Nat.testBit_lt_two_pow (Nat.lt_of_lt_of_le h (by
      have : 2 ^ 32 ≤ 2 ^ i := Nat.pow_le_pow_right (by omega) (by omega)
      omega))
    simp [hi, this]
def nF (m : AM) (d : Nat) : Int := (m 16 d).toInt
def nL (m : AM) (d : Nat) : Int := (m 17 d).toInt
def nC (m : AM) (a b : Nat) : Option Int := if bt (m 19 a) b = true then some 0 else if bt (m 18 a) b = true then some (m 15 9).toInt else none
def TW (m : AM) : Prop := (∀ d, d < 12 → 0 ≤ nF m d ∧ nF m d ≤ 3000 ∧ 0 ≤ nL m d ∧ nL m d ≤ 3000) ∧ 0 ≤ (m 15 9).toInt ∧ (m 15 9).toInt ≤ 200
theorem TW_c {m : AM} (h : TW m) : ∀ a b c, nC m a b = some c → 0 ≤ c ∧ c ≤ 200 := by
  intro a b c hc
  unfold nC at hc
  have := h.2
  split at hc
  · cases hc; omega
  · split at hc
    · cases hc; omega
    · cases hc
theorem jmin_step_no {cst : Nat → Nat → Option Int} {t : Nat} {X : Nat → Int} {a b : Nat} (h : ¬ (t.testBit a = true ∧ t.testBit b = true ∧ ∃ c, cst a b = some c)) : jmin cst t X b (a + 1) = jmin cst t X b a := by
  conv => lhs; unfold jmin
  by_cases q : t.testBit a = true ∧ t.testBit b = true
  · rw [if_pos q]
    cases hc : cst a b with
    | none => rfl
    | some c => exact absurd ⟨q.1, q.2, c, hc⟩ h
  · rw [if_neg q]
theorem jmin_step_yes {cst : Nat → Nat → Option Int} {t : Nat} {X : Nat → Int} {a b : Nat} {c : Int} (ha : t.testBit a = true) (hb : t.testBit b = true) (hc : cst a b = some c) : jmin cst t X b (a + 1) = if X a + c < jmin cst t X b a then X a + c else jmin cst t X b a := by
  conv => lhs; unfold jmin
  rw [if_pos ⟨ha, hb⟩, hc]
theorem jmin_range {cst : Nat → Nat → Option Int} (hc0 : ∀ a b c, cst a b = some c → 0 ≤ c ∧ c ≤ 200) {t : Nat} {X : Nat → Int} (hX : ∀ b, b < 12 → 0 ≤ X b ∧ X b ≤ 3000) {b : Nat} (hb : b < 12) : ∀ n, n ≤ 12 → 0 ≤ jmin cst t X b n ∧ jmin cst t X b n ≤ 3000 := by
  intro n hn
  have h1 := jmin_le (cst := cst) t X b n
  have h2 := hX b hb
  rcases jmin_or (cst := cst) t X b n with e | ⟨a, c, ha, -, -, hc, e⟩
  · rw [e]; exact h2
  · have h3 := hc0 a b c hc
    have h4 := hX a (by omega)
    omega
theorem lat_range {cst : Nat → Nat → Option Int} (hc0 : ∀ a b c, cst a b = some c → 0 ≤ c ∧ c ≤ 200) {L : Nat → Int} {t : Nat} (hX : ∀ b, b < 12 → 0 ≤ L b ∧ L b ≤ 3000) : ∀ k b, b < 12 → 0 ≤ lat L cst t k b ∧ lat L cst t k b ≤ 3000
  | 0, b, hb => hX b hb
  | k + 1, b, hb => jmin_range hc0 (lat_range hc0 hX k) hb 12 (Nat.le_refl 12)
theorem i32_add {x y : Int32} (h1 : -2147483648 ≤ x.toInt + y.toInt) (h2 : x.toInt + y.toInt < 2147483648) : (x + y).toInt = x.toInt + y.toInt := by
  rw [Int32.toInt_add]
  exact Int.bmod_eq_of_le (by omega) (by omega)
theorem i32_sub {x y : Int32} (h1 : -2147483648 ≤ x.toInt - y.toInt) (h2 : x.toInt - y.toInt < 2147483648) : (x - y).toInt = x.toInt - y.toInt := by
  rw [Int32.toInt_sub]
  exact Int.bmod_eq_of_le (by omega) (by omega)
theorem i32_inj {x y : Int32} (h : x.toInt = y.toInt) : x = y := Int32.toInt_inj.mp h
/-- what a round has done so far: rows 22 (the years), 23 (those of before), 24 (the causes) -/
def LI (m : AM) (t : Nat) (u : AM) (ch : Bool) (P : Nat → Nat) : Prop :=
  (∀ k, k ≠ 22 → k ≠ 23 → k ≠ 24 → u k = m k) ∧ (∀ b, b < 12 → u 23 b = m 22 b) ∧ (∀ b, b < 12 → (u 22 b).toInt = jmin (nC m) t (fun b => (m 22 b).toInt) b (P b)) ∧
  (∀ b, b < 12 → ((u 22 b).toInt = (m 22 b).toInt ∧ u 24 b = m 24 b) ∨ ∃ a c, a < 12 ∧ t.testBit a = true ∧ t.testBit b = true ∧ nC m a b = some c ∧ u 24 b = nI a ∧ (u 22 b).toInt = (m 22 a).toInt + c ∧ (u 22 b).toInt < (m 22 b).toInt) ∧
  (ch = true ↔ ∃ b, b < 12 ∧ (u 22 b).toInt < (m 22 b).toInt)
theorem LI.P {m : AM} {t : Nat} {u : AM} {ch : Bool} {P P' : Nat → Nat} (h : LI m t u ch P) (hp : ∀ b, b < 12 → jmin (nC m) t (fun b => (m 22 b).toInt) b (P' b) = jmin (nC m) t (fun b => (m 22 b).toInt) b (P b)) : LI m t u ch P' :=
  ⟨h.1, h.2.1, fun b hb => by rw [h.2.2.1 b hb, hp b hb], h.2.2.2⟩
def LQ (m : AM) (t : Nat) : APost := fun z u => ∃ ch, z = some (b01 ch) ∧ LI m t u ch (fun _ => 12)
theorem w_low_in (m : AM) (hm : TW m) (hX : ∀ b, b < 12 → 0 ≤ (m 22 b).toInt ∧ (m 22 b).toInt ≤ 3000) (t a : Nat) (ht : t < 4096) (ha : a < 12) (bd : Int32) (hbd : ∀ b, b < 12 → (bt bd b = true ↔ (t.testBit a = true ∧ t.testBit b = true ∧ ∃ c, nC m a b = some c)))
    (kk : ∀ u ch, LI m t u ch (fun _ => a + 1) → AW 1 kX3_lowerOnce (LQ m t) 152 [some (.inr 15), some (.inl (nI t)), some (.inl (b01 ch)), some (.inl (nI a)), none, none, none] [] u) :
    ∀ (n j : Nat) (u : AM) (ch : Bool), j + n = 12 → LI m t u ch (fun b => if b < j then a + 1 else a) → AW 1 kX3_lowerOnce (LQ m t) 57 [some (.inr 15), some (.inl (nI t)), some (.inl (b01 ch)), some (.inl (nI a)), some (.inl bd), some (.inl (nI j)), none] [] u
  | 0, j, u, ch, h, hI => by
    obtain rfl : j = 12 := by omega
    refine st_X3_lowerOnce_57 ?_; simp only [bX3_lowerOnce_57, exP, stP, p1, p2, pr, pobj, parr, sh0, sh1, sh2, sh3, sh4, sh5, sh6, sh7, sh8, sh9, sh10, sh11, sh12, sh13, sh14, sh15, sh16, sh17, sh18, sh19, sh20, sh21, sh22, sh23, sh24, sh25, sh26, sh27, sh28, sh29, sh30, sh31, sh32, sh33, sh34, sh35, sh36, sh37, sh38, sh39, sh40, sh41, sh42, sh43, sh44, sh45, sh46, sh47, sh48, sh49, sh50, sh51, sh52, sh53, sh54, sh55, sh56, sh57, sh58, sh59, brP, brN, swP, amask, apush, List.getElem?_cons_zero, List.getElem?_cons_succ, List.set_cons_zero, List.set_cons_succ, List.take_succ_cons, List.take_zero, List.drop_succ_cons, List.drop_zero, List.reverse_cons, List.reverse_nil, List.nil_append, List.cons_append, List.length_cons, List.length_nil, true_and, and_true, Nat.zero_le, Nat.reduceLeDiff, Nat.reduceAdd, Nat.reduceEqDiff, false_imp_iff, true_imp_iff, not_false_eq_true, not_true_eq_false, imp_self, forall_const, lit_le (k := 12) (n := 12) (by omega) (by omega)]
    exact kk u ch (hI.P (fun b hb => by simp [hb]))
  | n + 1, j, u, ch, h, hI => by
    have hj : j < 12 := by omega
    have vj := eq_true (vp_in_nI (show j < 12 by omega) (show 12 < 2 ^ 31 by omega))
    have cj := nI_clamp (show j < 2 ^ 31 by omega)
    have va := eq_true (vp_in_nI (show a < 12 by omega) (show 12 < 2 ^ 31 by omega))
    have ca := nI_clamp (show a < 2 ^ 31 by omega)
    obtain ⟨h1, h2, h3, h4, h5⟩ := hI
    have hc0 := TW_c hm
    refine st_X3_lowerOnce_57 ?_; simp only [bX3_lowerOnce_57, exP, stP, p1, p2, pr, pobj, parr, sh0, sh1, sh2, sh3, sh4, sh5, sh6, sh7, sh8, sh9, sh10, sh11, sh12, sh13, sh14, sh15, sh16, sh17, sh18, sh19, sh20, sh21, sh22, sh23, sh24, sh25, sh26, sh27, sh28, sh29, sh30, sh31, sh32, sh33, sh34, sh35, sh36, sh37, sh38, sh39, sh40, sh41, sh42, sh43, sh44, sh45, sh46, sh47, sh48, sh49, sh50, sh51, sh52, sh53, sh54, sh55, sh56, sh57, sh58, sh59, brP, brN, swP, amask, apush, List.getElem?_cons_zero, List.getElem?_cons_succ, List.set_cons_zero, List.set_cons_succ, List.take_succ_cons, List.take_zero, List.drop_succ_cons, List.drop_zero, List.reverse_cons, List.reverse_nil, List.nil_append, List.cons_append, List.length_cons, List.length_nil, true_and, and_true, Nat.zero_le, Nat.reduceLeDiff, Nat.reduceAdd, Nat.reduceEqDiff, false_imp_iff, true_imp_iff, not_false_eq_true, not_true_eq_false, imp_self, forall_const, lit_nle (k := 12) (n := j) hj (by omega)]
    refine st_X3_lowerOnce_64 ?_; simp only [bX3_lowerOnce_64, exP, stP, p1, p2, pr, pobj, parr, sh0, sh1, sh2, sh3, sh4, sh5, sh6, sh7, sh8, sh9, sh10, sh11, sh12, sh13, sh14, sh15, sh16, sh17, sh18, sh19, sh20, sh21, sh22, sh23, sh24, sh25, sh26, sh27, sh28, sh29, sh30, sh31, sh32, sh33, sh34, sh35, sh36, sh37, sh38, sh39, sh40, sh41, sh42, sh43, sh44, sh45, sh46, sh47, sh48, sh49, sh50, sh51, sh52, sh53, sh54, sh55, sh56, sh57, sh58, sh59, brP, brN, swP, amask, apush, List.getElem?_cons_zero, List.getElem?_cons_succ, List.set_cons_zero, List.set_cons_succ, List.take_succ_cons, List.take_zero, List.drop_succ_cons, List.drop_zero, List.reverse_cons, List.reverse_nil, List.nil_append, List.cons_append, List.length_cons, List.length_nil, true_and, and_true, Nat.zero_le, Nat.reduceLeDiff, Nat.reduceAdd, Nat.reduceEqDiff, false_imp_iff, true_imp_iff, not_false_eq_true, not_true_eq_false, imp_self, forall_const]
    refine ⟨fun c => ?_, fun c => ?_⟩
    · refine kk u ch (LI.P ⟨h1, h2, h3, h4, h5⟩ (fun b hb => ?_))
      have hno : ¬ (t.testBit a = true ∧ t.testBit b = true ∧ ∃ c, nC m a b = some c) := by
        rw [← hbd b hb, c, b_0]; simp
      try dsimp only
      split
      · rfl
      · exact jmin_step_no hno
    · have back : ∀ (u' : AM) (ch' : Bool), LI m t u' ch' (fun b => if b < j + 1 then a + 1 else a) → AW 1 kX3_lowerOnce (LQ m t) 146 [some (.inr 15), some (.inl (nI t)), some (.inl (b01 ch')), some (.inl (nI a)), some (.inl bd), some (.inl (nI j)), none] [] u' := by
        intro u' ch' hI'
        refine st_X3_lowerOnce_146 ?_; simp only [bX3_lowerOnce_146, exP, stP, p1, p2, pr, pobj, parr, sh0, sh1, sh2, sh3, sh4, sh5, sh6, sh7, sh8, sh9, sh10, sh11, sh12, sh13, sh14, sh15, sh16, sh17, sh18, sh19, sh20, sh21, sh22, sh23, sh24, sh25, sh26, sh27, sh28, sh29, sh30, sh31, sh32, sh33, sh34, sh35, sh36, sh37, sh38, sh39, sh40, sh41, sh42, sh43, sh44, sh45, sh46, sh47, sh48, sh49, sh50, sh51, sh52, sh53, sh54, sh55, sh56, sh57, sh58, sh59, brP, brN, swP, amask, apush, List.getElem?_cons_zero, List.getElem?_cons_succ, List.set_cons_zero, List.set_cons_succ, List.take_succ_cons, List.take_zero, List.drop_succ_cons, List.drop_zero, List.reverse_cons, List.reverse_nil, List.nil_append, List.cons_append, List.length_cons, List.length_nil, true_and, and_true, Nat.zero_le, Nat.reduceLeDiff, Nat.reduceAdd, Nat.reduceEqDiff, false_imp_iff, true_imp_iff, not_false_eq_true, not_true_eq_false, imp_self, forall_const]
        rw [nI_1]
        exact w_low_in m hm hX t a ht ha bd hbd kk n (j + 1) u' ch' (by omega) hI'
      have skip : (jmin (nC m) t (fun b => (m 22 b).toInt) j (a + 1) = jmin (nC m) t (fun b => (m 22 b).toInt) j a) → LI m t u ch (fun b => if b < j + 1 then a + 1 else a) := by
        intro e
        refine LI.P ⟨h1, h2, h3, h4, h5⟩ (fun b hb => ?_)
        try dsimp only
        by_cases q : b < j
        · rw [if_pos q, if_pos (by omega)]
        · rw [if_neg q]
          by_cases q2 : b = j
          · subst q2
            rw [if_pos (by omega)]
            exact e
          · rw [if_neg (by omega)]
      have fin : ∀ lim : Int32, (∀ c, nC m a j = some c → lim.toInt = (m 22 a).toInt + c) → AW 1 kX3_lowerOnce (LQ m t) 103 [some (.inr 15), some (.inl (nI t)), some (.inl (b01 ch)), some (.inl (nI a)), some (.inl bd), some (.inl (nI j)), none] [.inl lim] u := by
        intro lim hlim
        refine st_X3_lowerOnce_103 ?_; simp only [bX3_lowerOnce_103, exP, stP, p1, p2, pr, pobj, parr, sh0, sh1, sh2, sh3, sh4, sh5, sh6, sh7, sh8, sh9, sh10, sh11, sh12, sh13, sh14, sh15, sh16, sh17, sh18, sh19, sh20, sh21, sh22, sh23, sh24, sh25, sh26, sh27, sh28, sh29, sh30, sh31, sh32, sh33, sh34, sh35, sh36, sh37, sh38, sh39, sh40, sh41, sh42, sh43, sh44, sh45, sh46, sh47, sh48, sh49, sh50, sh51, sh52, sh53, sh54, sh55, sh56, sh57, sh58, sh59, brP, brN, swP, amask, apush, List.getElem?_cons_zero, List.getElem?_cons_succ, List.set_cons_zero, List.set_cons_succ, List.take_succ_cons, List.take_zero, List.drop_succ_cons, List.drop_zero, List.reverse_cons, List.reverse_nil, List.nil_append, List.cons_append, List.length_cons, List.length_nil, true_and, and_true, Nat.zero_le, Nat.reduceLeDiff, Nat.reduceAdd, Nat.reduceEqDiff, false_imp_iff, true_imp_iff, not_false_eq_true, not_true_eq_false, imp_self, forall_const]
        refine ⟨_, ⟨0, by decide, c_holds _ bd j (by omega)⟩, ?_⟩; rintro _ _ ⟨rfl, rfl⟩; simp only [exP, stP, p1, p2, pr, pobj, parr, sh0, sh1, sh2, sh3, sh4, sh5, sh6, sh7, sh8, sh9, sh10, sh11, sh12, sh13, sh14, sh15, sh16, sh17, sh18, sh19, sh20, sh21, sh22, sh23, sh24, sh25, sh26, sh27, sh28, sh29, sh30, sh31, sh32, sh33, sh34, sh35, sh36, sh37, sh38, sh39, sh40, sh41, sh42, sh43, sh44, sh45, sh46, sh47, sh48, sh49, sh50, sh51, sh52, sh53, sh54, sh55, sh56, sh57, sh58, sh59, brP, brN, swP, amask, apush, List.getElem?_cons_zero, List.getElem?_cons_succ, List.set_cons_zero, List.set_cons_succ, List.take_succ_cons, List.take_zero, List.drop_succ_cons, List.drop_zero, List.reverse_cons, List.reverse_nil, List.nil_append, List.cons_append, List.length_cons, List.length_nil, true_and, and_true, Nat.zero_le, Nat.reduceLeDiff, Nat.reduceAdd, Nat.reduceEqDiff, false_imp_iff, true_imp_iff, not_false_eq_true, not_true_eq_false, imp_self, forall_const, b01_0]
        refine ⟨fun c1 => ?_, fun c1 => ?_⟩
        · refine back u ch (skip (jmin_step_no ?_))
          rw [← hbd j hj, c1]; simp
        · have c2 : bt bd j = true := by simpa using c1
          obtain ⟨hta, htj, cc, hcc⟩ := (hbd j hj).mp c2
          have e1 := hlim cc hcc
          have e2 := h3 j hj
          simp only [if_neg (Nat.lt_irrefl j)] at e2
          have e3 := jmin_step_yes (X := fun b => (m 22 b).toInt) hta htj hcc
          refine st_X3_lowerOnce_115 ?_; simp only [bX3_lowerOnce_115, exP, stP, p1, p2, pr, pobj, parr, sh0, sh1, sh2, sh3, sh4, sh5, sh6, sh7, sh8, sh9, sh10, sh11, sh12, sh13, sh14, sh15, sh16, sh17, sh18, sh19, sh20, sh21, sh22, sh23, sh24, sh25, sh26, sh27, sh28, sh29, sh30, sh31, sh32, sh33, sh34, sh35, sh36, sh37, sh38, sh39, sh40, sh41, sh42, sh43, sh44, sh45, sh46, sh47, sh48, sh49, sh50, sh51, sh52, sh53, sh54, sh55, sh56, sh57, sh58, sh59, brP, brN, swP, amask, apush, List.getElem?_cons_zero, List.getElem?_cons_succ, List.set_cons_zero, List.set_cons_succ, List.take_succ_cons, List.take_zero, List.drop_succ_cons, List.drop_zero, List.reverse_cons, List.reverse_nil, List.nil_append, List.cons_append, List.length_cons, List.length_nil, true_and, and_true, Nat.zero_le, Nat.reduceLeDiff, Nat.reduceAdd, Nat.reduceEqDiff, false_imp_iff, true_imp_iff, not_false_eq_true, not_true_eq_false, imp_self, forall_const, vj, cj]
          refine ⟨fun c3 => ?_, fun c3 => ?_⟩
          · rw [Int32.le_iff_toInt_le] at c3
            refine back u ch (skip ?_)
            rw [e3, if_neg]
            show ¬ (m 22 a).toInt + cc < _
            omega
          · rw [Int32.le_iff_toInt_le] at c3
            refine st_X3_lowerOnce_127 ?_; simp only [bX3_lowerOnce_127, exP, stP, p1, p2, pr, pobj, parr, sh0, sh1, sh2, sh3, sh4, sh5, sh6, sh7, sh8, sh9, sh10, sh11, sh12, sh13, sh14, sh15, sh16, sh17, sh18, sh19, sh20, sh21, sh22, sh23, sh24, sh25, sh26, sh27, sh28, sh29, sh30, sh31, sh32, sh33, sh34, sh35, sh36, sh37, sh38, sh39, sh40, sh41, sh42, sh43, sh44, sh45, sh46, sh47, sh48, sh49, sh50, sh51, sh52, sh53, sh54, sh55, sh56, sh57, sh58, sh59, brP, brN, swP, amask, apush, List.getElem?_cons_zero, List.getElem?_cons_succ, List.set_cons_zero, List.set_cons_succ, List.take_succ_cons, List.take_zero, List.drop_succ_cons, List.drop_zero, List.reverse_cons, List.reverse_nil, List.nil_append, List.cons_append, List.length_cons, List.length_nil, true_and, and_true, Nat.zero_le, Nat.reduceLeDiff, Nat.reduceAdd, Nat.reduceEqDiff, false_imp_iff, true_imp_iff, not_false_eq_true, not_true_eq_false, imp_self, forall_const, vj, cj]
            refine back _ true ⟨fun k k1 k2 k3 => ?_, fun b hb => ?_, fun b hb => ?_, fun b hb => ?_, ?_⟩
            · rw [aup_ne k3, aup_ne k1]; exact h1 k k1 k2 k3
            · rw [aup_ne (by omega), aup_ne (by omega)]; exact h2 b hb
            · rw [aup_ne (by omega), aup_eq]
              dsimp only
              by_cases q : b = j
              · subst q
                rw [upd_eq, if_pos (by omega), e3, if_pos]
                · exact e1
                · show (m 22 a).toInt + cc < _
                  omega
              · rw [upd_ne q, h3 b hb]
                dsimp only
                by_cases q2 : b < j
                · rw [if_pos q2, if_pos (by omega)]
                · rw [if_neg q2, if_neg (by omega)]
            · rw [aup_ne (by omega), aup_eq, aup_eq, aup_ne (by omega)]
              have e4 := jmin_le (cst := nC m) t (fun b => (m 22 b).toInt) j a
              by_cases q : b = j
              · subst q
                rw [upd_eq, upd_eq]
                refine Or.inr ⟨a, cc, ha, hta, htj, hcc, rfl, e1, ?_⟩
                try dsimp only at e4
                omega
              · rw [upd_ne q, upd_ne q]
                exact h4 b hb
            · have e4 := jmin_le (cst := nC m) t (fun b => (m 22 b).toInt) j a
              try dsimp only at e4
              refine ⟨fun _ => ⟨j, hj, ?_⟩, fun _ => rfl⟩
              rw [aup_ne (by omega), aup_eq, upd_eq]
              omega
      have u19 : u 19 = m 19 := h1 19 (by omega) (by omega) (by omega)
      have u15 : u 15 = m 15 := h1 15 (by omega) (by omega) (by omega)
      have u23 : u 23 a = m 22 a := h2 a ha
      refine st_X3_lowerOnce_69 ?_; simp only [bX3_lowerOnce_69, exP, stP, p1, p2, pr, pobj, parr, sh0, sh1, sh2, sh3, sh4, sh5, sh6, sh7, sh8, sh9, sh10, sh11, sh12, sh13, sh14, sh15, sh16, sh17, sh18, sh19, sh20, sh21, sh22, sh23, sh24, sh25, sh26, sh27, sh28, sh29, sh30, sh31, sh32, sh33, sh34, sh35, sh36, sh37, sh38, sh39, sh40, sh41, sh42, sh43, sh44, sh45, sh46, sh47, sh48, sh49, sh50, sh51, sh52, sh53, sh54, sh55, sh56, sh57, sh58, sh59, brP, brN, swP, amask, apush, List.getElem?_cons_zero, List.getElem?_cons_succ, List.set_cons_zero, List.set_cons_succ, List.take_succ_cons, List.take_zero, List.drop_succ_cons, List.drop_zero, List.reverse_cons, List.reverse_nil, List.nil_append, List.cons_append, List.length_cons, List.length_nil, true_and, and_true, Nat.zero_le, Nat.reduceLeDiff, Nat.reduceAdd, Nat.reduceEqDiff, false_imp_iff, true_imp_iff, not_false_eq_true, not_true_eq_false, imp_self, forall_const, va, ca]
      refine ⟨_, ⟨0, by decide, c_holds _ _ j (by omega)⟩, ?_⟩; rintro _ _ ⟨rfl, rfl⟩; simp only [exP, stP, p1, p2, pr, pobj, parr, sh0, sh1, sh2, sh3, sh4, sh5, sh6, sh7, sh8, sh9, sh10, sh11, sh12, sh13, sh14, sh15, sh16, sh17, sh18, sh19, sh20, sh21, sh22, sh23, sh24, sh25, sh26, sh27, sh28, sh29, sh30, sh31, sh32, sh33, sh34, sh35, sh36, sh37, sh38, sh39, sh40, sh41, sh42, sh43, sh44, sh45, sh46, sh47, sh48, sh49, sh50, sh51, sh52, sh53, sh54, sh55, sh56, sh57, sh58, sh59, brP, brN, swP, amask, apush, List.getElem?_cons_zero, List.getElem?_cons_succ, List.set_cons_zero, List.set_cons_succ, List.take_succ_cons, List.take_zero, List.drop_succ_cons, List.drop_zero, List.reverse_cons, List.reverse_nil, List.nil_append, List.cons_append, List.length_cons, List.length_nil, true_and, and_true, Nat.zero_le, Nat.reduceLeDiff, Nat.reduceAdd, Nat.reduceEqDiff, false_imp_iff, true_imp_iff, not_false_eq_true, not_true_eq_false, imp_self, forall_const, b01_0]
      refine ⟨fun c1 => ?_, fun c1 => ?_⟩
      · refine st_X3_lowerOnce_92 ?_; simp only [bX3_lowerOnce_92, exP, stP, p1, p2, pr, pobj, parr, sh0, sh1, sh2, sh3, sh4, sh5, sh6, sh7, sh8, sh9, sh10, sh11, sh12, sh13, sh14, sh15, sh16, sh17, sh18, sh19, sh20, sh21, sh22, sh23, sh24, sh25, sh26, sh27, sh28, sh29, sh30, sh31, sh32, sh33, sh34, sh35, sh36, sh37, sh38, sh39, sh40, sh41, sh42, sh43, sh44, sh45, sh46, sh47, sh48, sh49, sh50, sh51, sh52, sh53, sh54, sh55, sh56, sh57, sh58, sh59, brP, brN, swP, amask, apush, List.getElem?_cons_zero, List.getElem?_cons_succ, List.set_cons_zero, List.set_cons_succ, List.take_succ_cons, List.take_zero, List.drop_succ_cons, List.drop_zero, List.reverse_cons, List.reverse_nil, List.nil_append, List.cons_append, List.length_cons, List.length_nil, true_and, and_true, Nat.zero_le, Nat.reduceLeDiff, Nat.reduceAdd, Nat.reduceEqDiff, false_imp_iff, true_imp_iff, not_false_eq_true, not_true_eq_false, imp_self, forall_const, va, ca]
        refine fin _ (fun cc hcc => ?_)
        rw [u19] at c1
        unfold nC at hcc
        rw [c1] at hcc
        simp only [Bool.false_eq_true, if_false] at hcc
        split at hcc
        · cases hcc
          have := hX a ha
          have := hm.2
          rw [u23, u15, i32_add (by omega) (by omega)]
        · cases hcc
      · refine st_X3_lowerOnce_83 ?_; simp only [bX3_lowerOnce_83, exP, stP, p1, p2, pr, pobj, parr, sh0, sh1, sh2, sh3, sh4, sh5, sh6, sh7, sh8, sh9, sh10, sh11, sh12, sh13, sh14, sh15, sh16, sh17, sh18, sh19, sh20, sh21, sh22, sh23, sh24, sh25, sh26, sh27, sh28, sh29, sh30, sh31, sh32, sh33, sh34, sh35, sh36, sh37, sh38, sh39, sh40, sh41, sh42, sh43, sh44, sh45, sh46, sh47, sh48, sh49, sh50, sh51, sh52, sh53, sh54, sh55, sh56, sh57, sh58, sh59, brP, brN, swP, amask, apush, List.getElem?_cons_zero, List.getElem?_cons_succ, List.set_cons_zero, List.set_cons_succ, List.take_succ_cons, List.take_zero, List.drop_succ_cons, List.drop_zero, List.reverse_cons, List.reverse_nil, List.nil_append, List.cons_append, List.length_cons, List.length_nil, true_and, and_true, Nat.zero_le, Nat.reduceLeDiff, Nat.reduceAdd, Nat.reduceEqDiff, false_imp_iff, true_imp_iff, not_false_eq_true, not_true_eq_false, imp_self, forall_const, va, ca]
        refine fin _ (fun cc hcc => ?_)
        rw [u19] at c1
        have c2 : bt (m 19 a) j = true := by simpa using c1
        unfold nC at hcc
        rw [if_pos c2] at hcc
        cases hcc
        rw [u23]; omega
theorem w_low_out (m : AM) (hm : TW m) (hX : ∀ b, b < 12 → 0 ≤ (m 22 b).toInt ∧ (m 22 b).toInt ≤ 3000) (t : Nat) (ht : t < 4096) : ∀ (n a : Nat) (u : AM) (ch : Bool), a + n = 12 → LI m t u ch (fun _ => a) → AW 1 kX3_lowerOnce (LQ m t) 19 [some (.inr 15), some (.inl (nI t)), some (.inl (b01 ch)), some (.inl (nI a)), none, none, none] [] u
  | 0, a, u, ch, h, hI => by
    obtain rfl : a = 12 := by omega
    refine st_X3_lowerOnce_19 ?_; simp only [bX3_lowerOnce_19, exP, stP, p1, p2, pr, pobj, parr, sh0, sh1, sh2, sh3, sh4, sh5, sh6, sh7, sh8, sh9, sh10, sh11, sh12, sh13, sh14, sh15, sh16, sh17, sh18, sh19, sh20, sh21, sh22, sh23, sh24, sh25, sh26, sh27, sh28, sh29, sh30, sh31, sh32, sh33, sh34, sh35, sh36, sh37, sh38, sh39, sh40, sh41, sh42, sh43, sh44, sh45, sh46, sh47, sh48, sh49, sh50, sh51, sh52, sh53, sh54, sh55, sh56, sh57, sh58, sh59, brP, brN, swP, amask, apush, List.getElem?_cons_zero, List.getElem?_cons_succ, List.set_cons_zero, List.set_cons_succ, List.take_succ_cons, List.take_zero, List.drop_succ_cons, List.drop_zero, List.reverse_cons, List.reverse_nil, List.nil_append, List.cons_append, List.length_cons, List.length_nil, true_and, and_true, Nat.zero_le, Nat.reduceLeDiff, Nat.reduceAdd, Nat.reduceEqDiff, false_imp_iff, true_imp_iff, not_false_eq_true, not_true_eq_false, imp_self, forall_const, lit_le (k := 12) (n := 12) (by omega) (by omega)]
    refine st_X3_lowerOnce_158 ?_; simp only [bX3_lowerOnce_158, exP, stP, p1, p2, pr, pobj, parr, sh0, sh1, sh2, sh3, sh4, sh5, sh6, sh7, sh8, sh9, sh10, sh11, sh12, sh13, sh14, sh15, sh16, sh17, sh18, sh19, sh20, sh21, sh22, sh23, sh24, sh25, sh26, sh27, sh28, sh29, sh30, sh31, sh32, sh33, sh34, sh35, sh36, sh37, sh38, sh39, sh40, sh41, sh42, sh43, sh44, sh45, sh46, sh47, sh48, sh49, sh50, sh51, sh52, sh53, sh54, sh55, sh56, sh57, sh58, sh59, brP, brN, swP, amask, apush, List.getElem?_cons_zero, List.getElem?_cons_succ, List.set_cons_zero, List.set_cons_succ, List.take_succ_cons, List.take_zero, List.drop_succ_cons, List.drop_zero, List.reverse_cons, List.reverse_nil, List.nil_append, List.cons_append, List.length_cons, List.length_nil, true_and, and_true, Nat.zero_le, Nat.reduceLeDiff, Nat.reduceAdd, Nat.reduceEqDiff, false_imp_iff, true_imp_iff, not_false_eq_true, not_true_eq_false, imp_self, forall_const]
    exact ⟨Or.inr (b01_01 ch), ch, rfl, hI⟩
  | n + 1, a, u, ch, h, hI => by
    have ha : a < 12 := by omega
    have va := eq_true (vp_in_nI (show a < 12 by omega) (show 12 < 2 ^ 31 by omega))
    have ca := nI_clamp (show a < 2 ^ 31 by omega)
    have next : ∀ u ch, LI m t u ch (fun _ => a + 1) → AW 1 kX3_lowerOnce (LQ m t) 152 [some (.inr 15), some (.inl (nI t)), some (.inl (b01 ch)), some (.inl (nI a)), none, none, none] [] u := by
      intro u ch hI
      refine st_X3_lowerOnce_152 ?_; simp only [bX3_lowerOnce_152, exP, stP, p1, p2, pr, pobj, parr, sh0, sh1, sh2, sh3, sh4, sh5, sh6, sh7, sh8, sh9, sh10, sh11, sh12, sh13, sh14, sh15, sh16, sh17, sh18, sh19, sh20, sh21, sh22, sh23, sh24, sh25, sh26, sh27, sh28, sh29, sh30, sh31, sh32, sh33, sh34, sh35, sh36, sh37, sh38, sh39, sh40, sh41, sh42, sh43, sh44, sh45, sh46, sh47, sh48, sh49, sh50, sh51, sh52, sh53, sh54, sh55, sh56, sh57, sh58, sh59, brP, brN, swP, amask, apush, List.getElem?_cons_zero, List.getElem?_cons_succ, List.set_cons_zero, List.set_cons_succ, List.take_succ_cons, List.take_zero, List.drop_succ_cons, List.drop_zero, List.reverse_cons, List.reverse_nil, List.nil_append, List.cons_append, List.length_cons, List.length_nil, true_and, and_true, Nat.zero_le, Nat.reduceLeDiff, Nat.reduceAdd, Nat.reduceEqDiff, false_imp_iff, true_imp_iff, not_false_eq_true, not_true_eq_false, imp_self, forall_const]
      rw [nI_1]
      exact w_low_out m hm hX t ht n (a + 1) u ch (by omega) hI
    have inner : ∀ bd : Int32, (∀ b, b < 12 → (bt bd b = true ↔ (t.testBit a = true ∧ t.testBit b = true ∧ ∃ c, nC m a b = some c))) → AW 1 kX3_lowerOnce (LQ m t) 52 [some (.inr 15), some (.inl (nI t)), some (.inl (b01 ch)), some (.inl (nI a)), none, none, none] [.inl bd] u := by
      intro bd hbd
      refine st_X3_lowerOnce_52 ?_; simp only [bX3_lowerOnce_52, exP, stP, p1, p2, pr, pobj, parr, sh0, sh1, sh2, sh3, sh4, sh5, sh6, sh7, sh8, sh9, sh10, sh11, sh12, sh13, sh14, sh15, sh16, sh17, sh18, sh19, sh20, sh21, sh22, sh23, sh24, sh25, sh26, sh27, sh28, sh29, sh30, sh31, sh32, sh33, sh34, sh35, sh36, sh37, sh38, sh39, sh40, sh41, sh42, sh43, sh44, sh45, sh46, sh47, sh48, sh49, sh50, sh51, sh52, sh53, sh54, sh55, sh56, sh57, sh58, sh59, brP, brN, swP, amask, apush, List.getElem?_cons_zero, List.getElem?_cons_succ, List.set_cons_zero, List.set_cons_succ, List.take_succ_cons, List.take_zero, List.drop_succ_cons, List.drop_zero, List.reverse_cons, List.reverse_nil, List.nil_append, List.cons_append, List.length_cons, List.length_nil, true_and, and_true, Nat.zero_le, Nat.reduceLeDiff, Nat.reduceAdd, Nat.reduceEqDiff, false_imp_iff, true_imp_iff, not_false_eq_true, not_true_eq_false, imp_self, forall_const]
      exact w_low_in m hm hX t a ht ha bd hbd next 12 0 u ch rfl (hI.P (fun b hb => by simp))
    have u19 : u 19 = m 19 := hI.1 19 (by omega) (by omega) (by omega)
    have u18 : u 18 = m 18 := hI.1 18 (by omega) (by omega) (by omega)
    refine st_X3_lowerOnce_19 ?_; simp only [bX3_lowerOnce_19, exP, stP, p1, p2, pr, pobj, parr, sh0, sh1, sh2, sh3, sh4, sh5, sh6, sh7, sh8, sh9, sh10, sh11, sh12, sh13, sh14, sh15, sh16, sh17, sh18, sh19, sh20, sh21, sh22, sh23, sh24, sh25, sh26, sh27, sh28, sh29, sh30, sh31, sh32, sh33, sh34, sh35, sh36, sh37, sh38, sh39, sh40, sh41, sh42, sh43, sh44, sh45, sh46, sh47, sh48, sh49, sh50, sh51, sh52, sh53, sh54, sh55, sh56, sh57, sh58, sh59, brP, brN, swP, amask, apush, List.getElem?_cons_zero, List.getElem?_cons_succ, List.set_cons_zero, List.set_cons_succ, List.take_succ_cons, List.take_zero, List.drop_succ_cons, List.drop_zero, List.reverse_cons, List.reverse_nil, List.nil_append, List.cons_append, List.length_cons, List.length_nil, true_and, and_true, Nat.zero_le, Nat.reduceLeDiff, Nat.reduceAdd, Nat.reduceEqDiff, false_imp_iff, true_imp_iff, not_false_eq_true, not_true_eq_false, imp_self, forall_const, lit_nle (k := 12) (n := a) ha (by omega)]
    refine st_X3_lowerOnce_25 ?_; simp only [bX3_lowerOnce_25, exP, stP, p1, p2, pr, pobj, parr, sh0, sh1, sh2, sh3, sh4, sh5, sh6, sh7, sh8, sh9, sh10, sh11, sh12, sh13, sh14, sh15, sh16, sh17, sh18, sh19, sh20, sh21, sh22, sh23, sh24, sh25, sh26, sh27, sh28, sh29, sh30, sh31, sh32, sh33, sh34, sh35, sh36, sh37, sh38, sh39, sh40, sh41, sh42, sh43, sh44, sh45, sh46, sh47, sh48, sh49, sh50, sh51, sh52, sh53, sh54, sh55, sh56, sh57, sh58, sh59, brP, brN, swP, amask, apush, List.getElem?_cons_zero, List.getElem?_cons_succ, List.set_cons_zero, List.set_cons_succ, List.take_succ_cons, List.take_zero, List.drop_succ_cons, List.drop_zero, List.reverse_cons, List.reverse_nil, List.nil_append, List.cons_append, List.length_cons, List.length_nil, true_and, and_true, Nat.zero_le, Nat.reduceLeDiff, Nat.reduceAdd, Nat.reduceEqDiff, false_imp_iff, true_imp_iff, not_false_eq_true, not_true_eq_false, imp_self, forall_const]
    refine ⟨_, ⟨0, by decide, c_holds _ _ a (by omega)⟩, ?_⟩; rintro _ _ ⟨rfl, rfl⟩; simp only [exP, stP, p1, p2, pr, pobj, parr, sh0, sh1, sh2, sh3, sh4, sh5, sh6, sh7, sh8, sh9, sh10, sh11, sh12, sh13, sh14, sh15, sh16, sh17, sh18, sh19, sh20, sh21, sh22, sh23, sh24, sh25, sh26, sh27, sh28, sh29, sh30, sh31, sh32, sh33, sh34, sh35, sh36, sh37, sh38, sh39, sh40, sh41, sh42, sh43, sh44, sh45, sh46, sh47, sh48, sh49, sh50, sh51, sh52, sh53, sh54, sh55, sh56, sh57, sh58, sh59, brP, brN, swP, amask, apush, List.getElem?_cons_zero, List.getElem?_cons_succ, List.set_cons_zero, List.set_cons_succ, List.take_succ_cons, List.take_zero, List.drop_succ_cons, List.drop_zero, List.reverse_cons, List.reverse_nil, List.nil_append, List.cons_append, List.length_cons, List.length_nil, true_and, and_true, Nat.zero_le, Nat.reduceLeDiff, Nat.reduceAdd, Nat.reduceEqDiff, false_imp_iff, true_imp_iff, not_false_eq_true, not_true_eq_false, imp_self, forall_const, b01_0, bt_nI (show t < 4294967296 by omega)]
    refine ⟨fun c => ?_, fun c => ?_⟩
    · refine st_X3_lowerOnce_51 ?_; simp only [bX3_lowerOnce_51, exP, stP, p1, p2, pr, pobj, parr, sh0, sh1, sh2, sh3, sh4, sh5, sh6, sh7, sh8, sh9, sh10, sh11, sh12, sh13, sh14, sh15, sh16, sh17, sh18, sh19, sh20, sh21, sh22, sh23, sh24, sh25, sh26, sh27, sh28, sh29, sh30, sh31, sh32, sh33, sh34, sh35, sh36, sh37, sh38, sh39, sh40, sh41, sh42, sh43, sh44, sh45, sh46, sh47, sh48, sh49, sh50, sh51, sh52, sh53, sh54, sh55, sh56, sh57, sh58, sh59, brP, brN, swP, amask, apush, List.getElem?_cons_zero, List.getElem?_cons_succ, List.set_cons_zero, List.set_cons_succ, List.take_succ_cons, List.take_zero, List.drop_succ_cons, List.drop_zero, List.reverse_cons, List.reverse_nil, List.nil_append, List.cons_append, List.length_cons, List.length_nil, true_and, and_true, Nat.zero_le, Nat.reduceLeDiff, Nat.reduceAdd, Nat.reduceEqDiff, false_imp_iff, true_imp_iff, not_false_eq_true, not_true_eq_false, imp_self, forall_const]
      refine inner 0 (fun b hb => ?_)
      rw [b_0]
      simp [c]
    · have c2 : t.testBit a = true := by simpa using c
      refine st_X3_lowerOnce_33 ?_; simp only [bX3_lowerOnce_33, exP, stP, p1, p2, pr, pobj, parr, sh0, sh1, sh2, sh3, sh4, sh5, sh6, sh7, sh8, sh9, sh10, sh11, sh12, sh13, sh14, sh15, sh16, sh17, sh18, sh19, sh20, sh21, sh22, sh23, sh24, sh25, sh26, sh27, sh28, sh29, sh30, sh31, sh32, sh33, sh34, sh35, sh36, sh37, sh38, sh39, sh40, sh41, sh42, sh43, sh44, sh45, sh46, sh47, sh48, sh49, sh50, sh51, sh52, sh53, sh54, sh55, sh56, sh57, sh58, sh59, brP, brN, swP, amask, apush, List.getElem?_cons_zero, List.getElem?_cons_succ, List.set_cons_zero, List.set_cons_succ, List.take_succ_cons, List.take_zero, List.drop_succ_cons, List.drop_zero, List.reverse_cons, List.reverse_nil, List.nil_append, List.cons_append, List.length_cons, List.length_nil, true_and, and_true, Nat.zero_le, Nat.reduceLeDiff, Nat.reduceAdd, Nat.reduceEqDiff, false_imp_iff, true_imp_iff, not_false_eq_true, not_true_eq_false, imp_self, forall_const, va, ca]
      refine inner _ (fun b hb => ?_)
      rw [b_and, b_or, bt_nI (by omega), u19, u18]
      unfold nC
      rw [c2]
      cases bt (m 19 a) b <;> cases bt (m 18 a) b <;> simp
theorem c_lowerOnce (m : AM) (hm : TW m) (hX : ∀ b, b < 12 → 0 ≤ (m 22 b).toInt ∧ (m 22 b).toInt ≤ 3000) (t : Nat) (ht : t < 4096) : AC 1 kX3_lowerOnce [.inr 15, .inl (nI t)] m (LQ m t) := by
  refine AC_of own_X3_lowerOnce (ls := [some (.inr 15), some (.inl (nI t)), none, none, none, none, none]) (z := 5) (Nat.le_of_ble_eq_true rfl) rfl ?_
  refine st_X3_lowerOnce_0 ?_; simp only [bX3_lowerOnce_0, exP, stP, p1, p2, pr, pobj, parr, sh0, sh1, sh2, sh3, sh4, sh5, sh6, sh7, sh8, sh9, sh10, sh11, sh12, sh13, sh14, sh15, sh16, sh17, sh18, sh19, sh20, sh21, sh22, sh23, sh24, sh25, sh26, sh27, sh28, sh29, sh30, sh31, sh32, sh33, sh34, sh35, sh36, sh37, sh38, sh39, sh40, sh41, sh42, sh43, sh44, sh45, sh46, sh47, sh48, sh49, sh50, sh51, sh52, sh53, sh54, sh55, sh56, sh57, sh58, sh59, brP, brN, swP, amask, apush, List.getElem?_cons_zero, List.getElem?_cons_succ, List.set_cons_zero, List.set_cons_succ, List.take_succ_cons, List.take_zero, List.drop_succ_cons, List.drop_zero, List.reverse_cons, List.reverse_nil, List.nil_append, List.cons_append, List.length_cons, List.length_nil, true_and, and_true, Nat.zero_le, Nat.reduceLeDiff, Nat.reduceAdd, Nat.reduceEqDiff, false_imp_iff, true_imp_iff, not_false_eq_true, not_true_eq_false, imp_self, forall_const]
  refine ⟨by decide, by decide, by decide, by decide, by decide, ?_⟩
  rw [show Int32.toNatClampNeg 0 = 0 from rfl, show Int32.toNatClampNeg 12 = 12 from rfl]
  refine w_low_out m hm hX t ht 12 0 (aup m 23 (va_cpy (m 22) (m 23) 0 0 12)) false rfl ⟨fun k k1 k2 k3 => aup_ne k2, fun b hb => ?_, fun b hb => ?_, fun b hb => ?_, ?_⟩
  · rw [aup_eq]
    rw [sb_cpy0 hb]
  · rw [aup_ne (by omega)]; rfl
  · rw [aup_ne (by omega), aup_ne (by omega)]; exact Or.inl ⟨rfl, rfl⟩
  · rw [aup_ne (by omega)]
    simp
