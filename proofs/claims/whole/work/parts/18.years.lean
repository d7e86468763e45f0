/-! ===== the years: least and greatest ===== -/
def clo (cst : Nat → Nat → Option Int) (t : Nat) (y : Nat → Int) : Prop := ∀ a b c, a < 12 → b < 12 → t.testBit a = true → t.testBit b = true → cst a b = some c → y b ≤ y a + c
/-- the greatest years under L, the least years over F, of the set t -/
def isG (L : Nat → Int) (cst : Nat → Nat → Option Int) (t : Nat) (G : Nat → Int) : Prop := (∀ b, b < 12 → t.testBit b = true → G b ≤ L b) ∧ clo cst t G ∧ ∀ y, (∀ b, b < 12 → t.testBit b = true → y b ≤ L b) → clo cst t y → ∀ b, b < 12 → t.testBit b = true → y b ≤ G b
def isM (F : Nat → Int) (cst : Nat → Nat → Option Int) (t : Nat) (Y : Nat → Int) : Prop := (∀ b, b < 12 → t.testBit b = true → F b ≤ Y b) ∧ clo cst t Y ∧ ∀ y, (∀ b, b < 12 → t.testBit b = true → F b ≤ y b) → clo cst t y → ∀ b, b < 12 → t.testBit b = true → Y b ≤ y b
theorem isG_uniq {L : Nat → Int} {cst : Nat → Nat → Option Int} {t : Nat} {G G' : Nat → Int} (h : isG L cst t G) (h' : isG L cst t G') : ∀ b, b < 12 → t.testBit b = true → G b = G' b := by
  intro b hb htb
  have h1 := h'.2.2 G h.1 h.2.1 b hb htb
  have h2 := h.2.2 G' h'.1 h'.2.1 b hb htb
  omega
theorem isM_uniq {F : Nat → Int} {cst : Nat → Nat → Option Int} {t : Nat} {G G' : Nat → Int} (h : isM F cst t G) (h' : isM F cst t G') : ∀ b, b < 12 → t.testBit b = true → G b = G' b := by
  intro b hb htb
  have h1 := h'.2.2 G h.1 h.2.1 b hb htb
  have h2 := h.2.2 G' h'.1 h'.2.1 b hb htb
  omega
theorem isG_lat {L : Nat → Int} {cst : Nat → Nat → Option Int} {t k : Nat} (hs : ∀ b, b < 12 → t.testBit b = true → lat L cst t (k + 1) b = lat L cst t k b) : isG L cst t (lat L cst t k) := by
  refine ⟨fun b _ _ => lat_dec (L := L) (cst := cst) t b (Nat.zero_le k), fun a b c ha hb hta htb hc => ?_, fun y hy hc b hb htb => ?_⟩
  · rw [← hs b hb htb]
    exact lat_edge ha hta htb hc
  · exact lat_sol (F := y) (L := L) (cst := cst) (t := t) (y := y) ⟨fun d hd htd => ⟨Int.le_refl _, hy d hd htd⟩, hc⟩ k b hb htb
def dC (cst : Nat → Nat → Option Int) : Nat → Nat → Option Int := fun a b => cst b a
/-- what one raising has done so far -/
def UI (m : AM) (t : Nat) (u : AM) (ch : Bool) (P : Nat → Nat → Prop) : Prop :=
  (∀ k, k ≠ 20 → u k = m k) ∧ (∀ b, b < 12 → (m 20 b).toInt ≤ (u 20 b).toInt ∧ (u 20 b).toInt ≤ 3000) ∧
  (∀ a b c, a < 12 → b < 12 → P a b → t.testBit a = true → t.testBit b = true → nC m a b = some c → (m 20 b).toInt - c ≤ (u 20 a).toInt) ∧
  (∀ y : Nat → Int, (∀ b, b < 12 → t.testBit b = true → (m 20 b).toInt ≤ y b) → clo (nC m) t y → ∀ b, b < 12 → t.testBit b = true → (u 20 b).toInt ≤ y b) ∧
  (ch = false → ∀ b, b < 12 → (u 20 b).toInt = (m 20 b).toInt) ∧ (ch = true → ∃ b, b < 12 ∧ t.testBit b = true ∧ (m 20 b).toInt < (u 20 b).toInt)
def UQ (m : AM) (t : Nat) : APost := fun z u => ∃ ch, z = some (b01 ch) ∧ UI m t u ch (fun _ _ => True)
theorem UI.P {m : AM} {t : Nat} {u : AM} {ch : Bool} {P P' : Nat → Nat → Prop} (h : UI m t u ch P) (hp : ∀ a b c, a < 12 → b < 12 → t.testBit a = true → t.testBit b = true → nC m a b = some c → P' a b → P a b) : UI m t u ch P' :=
  ⟨h.1, h.2.1, fun a b c ha hb hP hta htb hc => h.2.2.1 a b c ha hb (hp a b c ha hb hta htb hc hP) hta htb hc, h.2.2.2⟩
theorem w_up_in (m : AM) (hm : TW m) (hX : ∀ b, b < 12 → 0 ≤ (m 20 b).toInt ∧ (m 20 b).toInt ≤ 3000) (t a : Nat) (ht : t < 4096) (ha : a < 12) (bd : Int32) (hbd : ∀ b, b < 12 → (bt bd b = true ↔ (t.testBit a = true ∧ t.testBit b = true ∧ ∃ c, nC m a b = some c)))
    (kk : ∀ u ch, UI m t u ch (fun x _ => x < a + 1) → AW 1 kX3_raiseOnce (UQ m t) 129 [some (.inr 15), some (.inl (nI t)), some (.inl (b01 ch)), some (.inl (nI a)), none, none, none] [] u) :
    ∀ (n j : Nat) (u : AM) (ch : Bool), j + n = 12 → UI m t u ch (fun x b => x < a ∨ (x = a ∧ b < j)) → AW 1 kX3_raiseOnce (UQ m t) 42 [some (.inr 15), some (.inl (nI t)), some (.inl (b01 ch)), some (.inl (nI a)), some (.inl bd), some (.inl (nI j)), none] [] u
  | 0, j, u, ch, h, hI => by
    obtain rfl : j = 12 := by omega
    refine st_X3_raiseOnce_42 ?_; simp only [bX3_raiseOnce_42, exP, stP, p1, p2, pr, pobj, parr, sh0, sh1, sh2, sh3, sh4, sh5, sh6, sh7, sh8, sh9, sh10, sh11, sh12, sh13, sh14, sh15, sh16, sh17, sh18, sh19, sh20, sh21, sh22, sh23, sh24, sh25, sh26, sh27, sh28, sh29, sh30, sh31, sh32, sh33, sh34, sh35, sh36, sh37, sh38, sh39, sh40, sh41, sh42, sh43, sh44, sh45, sh46, sh47, sh48, sh49, sh50, sh51, sh52, sh53, sh54, sh55, sh56, sh57, sh58, sh59, brP, brN, swP, amask, apush, List.getElem?_cons_zero, List.getElem?_cons_succ, List.set_cons_zero, List.set_cons_succ, List.take_succ_cons, List.take_zero, List.drop_succ_cons, List.drop_zero, List.reverse_cons, List.reverse_nil, List.nil_append, List.cons_append, List.length_cons, List.length_nil, true_and, and_true, Nat.zero_le, Nat.reduceLeDiff, Nat.reduceAdd, Nat.reduceEqDiff, false_imp_iff, true_imp_iff, not_false_eq_true, not_true_eq_false, imp_self, forall_const, lit_le (k := 12) (n := 12) (by omega) (by omega)]
    exact kk u ch (hI.P (fun x b c hx hb _ _ _ q => by omega))
  | n + 1, j, u, ch, h, hI => by
    have hj : j < 12 := by omega
    have vj := eq_true (vp_in_nI (show j < 12 by omega) (show 12 < 2 ^ 31 by omega))
    have cj := nI_clamp (show j < 2 ^ 31 by omega)
    have va := eq_true (vp_in_nI (show a < 12 by omega) (show 12 < 2 ^ 31 by omega))
    have ca := nI_clamp (show a < 2 ^ 31 by omega)
    have hc0 := TW_c hm
    refine st_X3_raiseOnce_42 ?_; simp only [bX3_raiseOnce_42, exP, stP, p1, p2, pr, pobj, parr, sh0, sh1, sh2, sh3, sh4, sh5, sh6, sh7, sh8, sh9, sh10, sh11, sh12, sh13, sh14, sh15, sh16, sh17, sh18, sh19, sh20, sh21, sh22, sh23, sh24, sh25, sh26, sh27, sh28, sh29, sh30, sh31, sh32, sh33, sh34, sh35, sh36, sh37, sh38, sh39, sh40, sh41, sh42, sh43, sh44, sh45, sh46, sh47, sh48, sh49, sh50, sh51, sh52, sh53, sh54, sh55, sh56, sh57, sh58, sh59, brP, brN, swP, amask, apush, List.getElem?_cons_zero, List.getElem?_cons_succ, List.set_cons_zero, List.set_cons_succ, List.take_succ_cons, List.take_zero, List.drop_succ_cons, List.drop_zero, List.reverse_cons, List.reverse_nil, List.nil_append, List.cons_append, List.length_cons, List.length_nil, true_and, and_true, Nat.zero_le, Nat.reduceLeDiff, Nat.reduceAdd, Nat.reduceEqDiff, false_imp_iff, true_imp_iff, not_false_eq_true, not_true_eq_false, imp_self, forall_const, lit_nle (k := 12) (n := j) hj (by omega)]
    refine st_X3_raiseOnce_49 ?_; simp only [bX3_raiseOnce_49, exP, stP, p1, p2, pr, pobj, parr, sh0, sh1, sh2, sh3, sh4, sh5, sh6, sh7, sh8, sh9, sh10, sh11, sh12, sh13, sh14, sh15, sh16, sh17, sh18, sh19, sh20, sh21, sh22, sh23, sh24, sh25, sh26, sh27, sh28, sh29, sh30, sh31, sh32, sh33, sh34, sh35, sh36, sh37, sh38, sh39, sh40, sh41, sh42, sh43, sh44, sh45, sh46, sh47, sh48, sh49, sh50, sh51, sh52, sh53, sh54, sh55, sh56, sh57, sh58, sh59, brP, brN, swP, amask, apush, List.getElem?_cons_zero, List.getElem?_cons_succ, List.set_cons_zero, List.set_cons_succ, List.take_succ_cons, List.take_zero, List.drop_succ_cons, List.drop_zero, List.reverse_cons, List.reverse_nil, List.nil_append, List.cons_append, List.length_cons, List.length_nil, true_and, and_true, Nat.zero_le, Nat.reduceLeDiff, Nat.reduceAdd, Nat.reduceEqDiff, false_imp_iff, true_imp_iff, not_false_eq_true, not_true_eq_false, imp_self, forall_const]
    refine ⟨fun c => ?_, fun c => ?_⟩
    · refine kk u ch (hI.P (fun x b cc hx hb hta htb hcc q => ?_))
      by_cases r : x = a
      · subst r
        have := (hbd b hb).mpr ⟨hta, htb, cc, hcc⟩
        rw [c, b_0] at this
        cases this
      · omega
    · have back : ∀ (u' : AM) (ch' : Bool), UI m t u' ch' (fun x b => x < a ∨ (x = a ∧ b < j + 1)) → AW 1 kX3_raiseOnce (UQ m t) 123 [some (.inr 15), some (.inl (nI t)), some (.inl (b01 ch')), some (.inl (nI a)), some (.inl bd), some (.inl (nI j)), none] [] u' := by
        intro u' ch' hI'
        refine st_X3_raiseOnce_123 ?_; simp only [bX3_raiseOnce_123, exP, stP, p1, p2, pr, pobj, parr, sh0, sh1, sh2, sh3, sh4, sh5, sh6, sh7, sh8, sh9, sh10, sh11, sh12, sh13, sh14, sh15, sh16, sh17, sh18, sh19, sh20, sh21, sh22, sh23, sh24, sh25, sh26, sh27, sh28, sh29, sh30, sh31, sh32, sh33, sh34, sh35, sh36, sh37, sh38, sh39, sh40, sh41, sh42, sh43, sh44, sh45, sh46, sh47, sh48, sh49, sh50, sh51, sh52, sh53, sh54, sh55, sh56, sh57, sh58, sh59, brP, brN, swP, amask, apush, List.getElem?_cons_zero, List.getElem?_cons_succ, List.set_cons_zero, List.set_cons_succ, List.take_succ_cons, List.take_zero, List.drop_succ_cons, List.drop_zero, List.reverse_cons, List.reverse_nil, List.nil_append, List.cons_append, List.length_cons, List.length_nil, true_and, and_true, Nat.zero_le, Nat.reduceLeDiff, Nat.reduceAdd, Nat.reduceEqDiff, false_imp_iff, true_imp_iff, not_false_eq_true, not_true_eq_false, imp_self, forall_const]
        rw [nI_1]
        exact w_up_in m hm hX t a ht ha bd hbd kk n (j + 1) u' ch' (by omega) hI'
      have fin : ∀ lim : Int32, (∀ c, nC m a j = some c → lim.toInt = (u 20 j).toInt - c) → AW 1 kX3_raiseOnce (UQ m t) 90 [some (.inr 15), some (.inl (nI t)), some (.inl (b01 ch)), some (.inl (nI a)), some (.inl bd), some (.inl (nI j)), none] [.inl lim] u := by
        intro lim hlim
        refine st_X3_raiseOnce_90 ?_; simp only [bX3_raiseOnce_90, exP, stP, p1, p2, pr, pobj, parr, sh0, sh1, sh2, sh3, sh4, sh5, sh6, sh7, sh8, sh9, sh10, sh11, sh12, sh13, sh14, sh15, sh16, sh17, sh18, sh19, sh20, sh21, sh22, sh23, sh24, sh25, sh26, sh27, sh28, sh29, sh30, sh31, sh32, sh33, sh34, sh35, sh36, sh37, sh38, sh39, sh40, sh41, sh42, sh43, sh44, sh45, sh46, sh47, sh48, sh49, sh50, sh51, sh52, sh53, sh54, sh55, sh56, sh57, sh58, sh59, brP, brN, swP, amask, apush, List.getElem?_cons_zero, List.getElem?_cons_succ, List.set_cons_zero, List.set_cons_succ, List.take_succ_cons, List.take_zero, List.drop_succ_cons, List.drop_zero, List.reverse_cons, List.reverse_nil, List.nil_append, List.cons_append, List.length_cons, List.length_nil, true_and, and_true, Nat.zero_le, Nat.reduceLeDiff, Nat.reduceAdd, Nat.reduceEqDiff, false_imp_iff, true_imp_iff, not_false_eq_true, not_true_eq_false, imp_self, forall_const]
        refine ⟨_, ⟨0, by decide, c_holds _ bd j (by omega)⟩, ?_⟩; rintro _ _ ⟨rfl, rfl⟩; simp only [exP, stP, p1, p2, pr, pobj, parr, sh0, sh1, sh2, sh3, sh4, sh5, sh6, sh7, sh8, sh9, sh10, sh11, sh12, sh13, sh14, sh15, sh16, sh17, sh18, sh19, sh20, sh21, sh22, sh23, sh24, sh25, sh26, sh27, sh28, sh29, sh30, sh31, sh32, sh33, sh34, sh35, sh36, sh37, sh38, sh39, sh40, sh41, sh42, sh43, sh44, sh45, sh46, sh47, sh48, sh49, sh50, sh51, sh52, sh53, sh54, sh55, sh56, sh57, sh58, sh59, brP, brN, swP, amask, apush, List.getElem?_cons_zero, List.getElem?_cons_succ, List.set_cons_zero, List.set_cons_succ, List.take_succ_cons, List.take_zero, List.drop_succ_cons, List.drop_zero, List.reverse_cons, List.reverse_nil, List.nil_append, List.cons_append, List.length_cons, List.length_nil, true_and, and_true, Nat.zero_le, Nat.reduceLeDiff, Nat.reduceAdd, Nat.reduceEqDiff, false_imp_iff, true_imp_iff, not_false_eq_true, not_true_eq_false, imp_self, forall_const, b01_0]
        refine ⟨fun c1 => ?_, fun c1 => ?_⟩
        · refine back u ch (hI.P (fun x b cc hx hb hta htb hcc q => ?_))
          by_cases r : x = a ∧ b = j
          · obtain ⟨rfl, rfl⟩ := r
            have := (hbd b hb).mpr ⟨hta, htb, cc, hcc⟩
            rw [c1] at this
            cases this
          · omega
        · have c2 : bt bd j = true := by simpa using c1
          obtain ⟨hta, htj, cc, hcc⟩ := (hbd j hj).mp c2
          have e1 := hlim cc hcc
          obtain ⟨h1, h2, h3, h4, h5, h6⟩ := hI
          have hjj := h2 j hj
          have hcc0 := hc0 a j cc hcc
          refine st_X3_raiseOnce_102 ?_; simp only [bX3_raiseOnce_102, exP, stP, p1, p2, pr, pobj, parr, sh0, sh1, sh2, sh3, sh4, sh5, sh6, sh7, sh8, sh9, sh10, sh11, sh12, sh13, sh14, sh15, sh16, sh17, sh18, sh19, sh20, sh21, sh22, sh23, sh24, sh25, sh26, sh27, sh28, sh29, sh30, sh31, sh32, sh33, sh34, sh35, sh36, sh37, sh38, sh39, sh40, sh41, sh42, sh43, sh44, sh45, sh46, sh47, sh48, sh49, sh50, sh51, sh52, sh53, sh54, sh55, sh56, sh57, sh58, sh59, brP, brN, swP, amask, apush, List.getElem?_cons_zero, List.getElem?_cons_succ, List.set_cons_zero, List.set_cons_succ, List.take_succ_cons, List.take_zero, List.drop_succ_cons, List.drop_zero, List.reverse_cons, List.reverse_nil, List.nil_append, List.cons_append, List.length_cons, List.length_nil, true_and, and_true, Nat.zero_le, Nat.reduceLeDiff, Nat.reduceAdd, Nat.reduceEqDiff, false_imp_iff, true_imp_iff, not_false_eq_true, not_true_eq_false, imp_self, forall_const, va, ca]
          refine ⟨fun c3 => ?_, fun c3 => ?_⟩
          · rw [Int32.le_iff_toInt_le] at c3
            refine back u ch ⟨h1, h2, fun x b c' hx hb hp hxt hbt hc' => ?_, h4, h5, h6⟩
            by_cases r : x = a ∧ b = j
            · obtain ⟨rfl, rfl⟩ := r
              rw [hcc] at hc'
              cases hc'
              omega
            · exact h3 x b c' hx hb (by omega) hxt hbt hc'
          · rw [Int32.le_iff_toInt_le] at c3
            refine st_X3_raiseOnce_113 ?_; simp only [bX3_raiseOnce_113, exP, stP, p1, p2, pr, pobj, parr, sh0, sh1, sh2, sh3, sh4, sh5, sh6, sh7, sh8, sh9, sh10, sh11, sh12, sh13, sh14, sh15, sh16, sh17, sh18, sh19, sh20, sh21, sh22, sh23, sh24, sh25, sh26, sh27, sh28, sh29, sh30, sh31, sh32, sh33, sh34, sh35, sh36, sh37, sh38, sh39, sh40, sh41, sh42, sh43, sh44, sh45, sh46, sh47, sh48, sh49, sh50, sh51, sh52, sh53, sh54, sh55, sh56, sh57, sh58, sh59, brP, brN, swP, amask, apush, List.getElem?_cons_zero, List.getElem?_cons_succ, List.set_cons_zero, List.set_cons_succ, List.take_succ_cons, List.take_zero, List.drop_succ_cons, List.drop_zero, List.reverse_cons, List.reverse_nil, List.nil_append, List.cons_append, List.length_cons, List.length_nil, true_and, and_true, Nat.zero_le, Nat.reduceLeDiff, Nat.reduceAdd, Nat.reduceEqDiff, false_imp_iff, true_imp_iff, not_false_eq_true, not_true_eq_false, imp_self, forall_const, va, ca]
            have haa := h2 a ha
            refine back _ true ⟨fun k hk => ?_, fun b hb => ?_, fun x b c' hx hb hp hxt hbt hc' => ?_, fun y hy hyc b hb htb => ?_, fun q => absurd q (by decide), fun _ => ⟨a, ha, hta, ?_⟩⟩
            · rw [aup_ne hk]; exact h1 k hk
            · rw [aup_eq]
              by_cases r : b = a
              · subst r; rw [upd_eq]; omega
              · rw [upd_ne r]; exact h2 b hb
            · rw [aup_eq]
              by_cases r : x = a
              · subst r
                rw [upd_eq]
                by_cases s : b = j
                · subst s
                  rw [hcc] at hc'
                  cases hc'
                  omega
                · have := h3 x b c' hx hb (by omega) hxt hbt hc'
                  omega
              · rw [upd_ne r]
                exact h3 x b c' hx hb (by omega) hxt hbt hc'
            · rw [aup_eq]
              by_cases r : b = a
              · subst r
                rw [upd_eq]
                have := h4 y hy hyc j hj htj
                have := hyc b j cc hb hj htb htj hcc
                omega
              · rw [upd_ne r]; exact h4 y hy hyc b hb htb
            · rw [aup_eq, upd_eq]; omega
      have u19 : u 19 = m 19 := hI.1 19 (by omega)
      have u15 : u 15 = m 15 := hI.1 15 (by omega)
      refine st_X3_raiseOnce_54 ?_; simp only [bX3_raiseOnce_54, exP, stP, p1, p2, pr, pobj, parr, sh0, sh1, sh2, sh3, sh4, sh5, sh6, sh7, sh8, sh9, sh10, sh11, sh12, sh13, sh14, sh15, sh16, sh17, sh18, sh19, sh20, sh21, sh22, sh23, sh24, sh25, sh26, sh27, sh28, sh29, sh30, sh31, sh32, sh33, sh34, sh35, sh36, sh37, sh38, sh39, sh40, sh41, sh42, sh43, sh44, sh45, sh46, sh47, sh48, sh49, sh50, sh51, sh52, sh53, sh54, sh55, sh56, sh57, sh58, sh59, brP, brN, swP, amask, apush, List.getElem?_cons_zero, List.getElem?_cons_succ, List.set_cons_zero, List.set_cons_succ, List.take_succ_cons, List.take_zero, List.drop_succ_cons, List.drop_zero, List.reverse_cons, List.reverse_nil, List.nil_append, List.cons_append, List.length_cons, List.length_nil, true_and, and_true, Nat.zero_le, Nat.reduceLeDiff, Nat.reduceAdd, Nat.reduceEqDiff, false_imp_iff, true_imp_iff, not_false_eq_true, not_true_eq_false, imp_self, forall_const, va, ca]
      refine ⟨_, ⟨0, by decide, c_holds _ _ j (by omega)⟩, ?_⟩; rintro _ _ ⟨rfl, rfl⟩; simp only [exP, stP, p1, p2, pr, pobj, parr, sh0, sh1, sh2, sh3, sh4, sh5, sh6, sh7, sh8, sh9, sh10, sh11, sh12, sh13, sh14, sh15, sh16, sh17, sh18, sh19, sh20, sh21, sh22, sh23, sh24, sh25, sh26, sh27, sh28, sh29, sh30, sh31, sh32, sh33, sh34, sh35, sh36, sh37, sh38, sh39, sh40, sh41, sh42, sh43, sh44, sh45, sh46, sh47, sh48, sh49, sh50, sh51, sh52, sh53, sh54, sh55, sh56, sh57, sh58, sh59, brP, brN, swP, amask, apush, List.getElem?_cons_zero, List.getElem?_cons_succ, List.set_cons_zero, List.set_cons_succ, List.take_succ_cons, List.take_zero, List.drop_succ_cons, List.drop_zero, List.reverse_cons, List.reverse_nil, List.nil_append, List.cons_append, List.length_cons, List.length_nil, true_and, and_true, Nat.zero_le, Nat.reduceLeDiff, Nat.reduceAdd, Nat.reduceEqDiff, false_imp_iff, true_imp_iff, not_false_eq_true, not_true_eq_false, imp_self, forall_const, b01_0]
      refine ⟨fun c1 => ?_, fun c1 => ?_⟩
      · refine st_X3_raiseOnce_78 ?_; simp only [bX3_raiseOnce_78, exP, stP, p1, p2, pr, pobj, parr, sh0, sh1, sh2, sh3, sh4, sh5, sh6, sh7, sh8, sh9, sh10, sh11, sh12, sh13, sh14, sh15, sh16, sh17, sh18, sh19, sh20, sh21, sh22, sh23, sh24, sh25, sh26, sh27, sh28, sh29, sh30, sh31, sh32, sh33, sh34, sh35, sh36, sh37, sh38, sh39, sh40, sh41, sh42, sh43, sh44, sh45, sh46, sh47, sh48, sh49, sh50, sh51, sh52, sh53, sh54, sh55, sh56, sh57, sh58, sh59, brP, brN, swP, amask, apush, List.getElem?_cons_zero, List.getElem?_cons_succ, List.set_cons_zero, List.set_cons_succ, List.take_succ_cons, List.take_zero, List.drop_succ_cons, List.drop_zero, List.reverse_cons, List.reverse_nil, List.nil_append, List.cons_append, List.length_cons, List.length_nil, true_and, and_true, Nat.zero_le, Nat.reduceLeDiff, Nat.reduceAdd, Nat.reduceEqDiff, false_imp_iff, true_imp_iff, not_false_eq_true, not_true_eq_false, imp_self, forall_const, vj, cj]
        refine fin _ (fun cc hcc => ?_)
        rw [u19] at c1
        unfold nC at hcc
        rw [c1] at hcc
        simp only [Bool.false_eq_true, if_false] at hcc
        split at hcc
        · cases hcc
          have := hX j hj
          have := hI.2.1 j hj
          have := hm.2
          rw [u15, i32_sub (by omega) (by omega)]
        · cases hcc
      · refine st_X3_raiseOnce_68 ?_; simp only [bX3_raiseOnce_68, exP, stP, p1, p2, pr, pobj, parr, sh0, sh1, sh2, sh3, sh4, sh5, sh6, sh7, sh8, sh9, sh10, sh11, sh12, sh13, sh14, sh15, sh16, sh17, sh18, sh19, sh20, sh21, sh22, sh23, sh24, sh25, sh26, sh27, sh28, sh29, sh30, sh31, sh32, sh33, sh34, sh35, sh36, sh37, sh38, sh39, sh40, sh41, sh42, sh43, sh44, sh45, sh46, sh47, sh48, sh49, sh50, sh51, sh52, sh53, sh54, sh55, sh56, sh57, sh58, sh59, brP, brN, swP, amask, apush, List.getElem?_cons_zero, List.getElem?_cons_succ, List.set_cons_zero, List.set_cons_succ, List.take_succ_cons, List.take_zero, List.drop_succ_cons, List.drop_zero, List.reverse_cons, List.reverse_nil, List.nil_append, List.cons_append, List.length_cons, List.length_nil, true_and, and_true, Nat.zero_le, Nat.reduceLeDiff, Nat.reduceAdd, Nat.reduceEqDiff, false_imp_iff, true_imp_iff, not_false_eq_true, not_true_eq_false, imp_self, forall_const, vj, cj]
        refine fin _ (fun cc hcc => ?_)
        rw [u19] at c1
        have c2 : bt (m 19 a) j = true := by simpa using c1
        unfold nC at hcc
        rw [if_pos c2] at hcc
        cases hcc
        omega
theorem w_up_out (m : AM) (hm : TW m) (hX : ∀ b, b < 12 → 0 ≤ (m 20 b).toInt ∧ (m 20 b).toInt ≤ 3000) (t : Nat) (ht : t < 4096) : ∀ (n a : Nat) (u : AM) (ch : Bool), a + n = 12 → UI m t u ch (fun x _ => x < a) → AW 1 kX3_raiseOnce (UQ m t) 4 [some (.inr 15), some (.inl (nI t)), some (.inl (b01 ch)), some (.inl (nI a)), none, none, none] [] u
  | 0, a, u, ch, h, hI => by
    obtain rfl : a = 12 := by omega
    refine st_X3_raiseOnce_4 ?_; simp only [bX3_raiseOnce_4, exP, stP, p1, p2, pr, pobj, parr, sh0, sh1, sh2, sh3, sh4, sh5, sh6, sh7, sh8, sh9, sh10, sh11, sh12, sh13, sh14, sh15, sh16, sh17, sh18, sh19, sh20, sh21, sh22, sh23, sh24, sh25, sh26, sh27, sh28, sh29, sh30, sh31, sh32, sh33, sh34, sh35, sh36, sh37, sh38, sh39, sh40, sh41, sh42, sh43, sh44, sh45, sh46, sh47, sh48, sh49, sh50, sh51, sh52, sh53, sh54, sh55, sh56, sh57, sh58, sh59, brP, brN, swP, amask, apush, List.getElem?_cons_zero, List.getElem?_cons_succ, List.set_cons_zero, List.set_cons_succ, List.take_succ_cons, List.take_zero, List.drop_succ_cons, List.drop_zero, List.reverse_cons, List.reverse_nil, List.nil_append, List.cons_append, List.length_cons, List.length_nil, true_and, and_true, Nat.zero_le, Nat.reduceLeDiff, Nat.reduceAdd, Nat.reduceEqDiff, false_imp_iff, true_imp_iff, not_false_eq_true, not_true_eq_false, imp_self, forall_const, lit_le (k := 12) (n := 12) (by omega) (by omega)]
    refine st_X3_raiseOnce_135 ?_; simp only [bX3_raiseOnce_135, exP, stP, p1, p2, pr, pobj, parr, sh0, sh1, sh2, sh3, sh4, sh5, sh6, sh7, sh8, sh9, sh10, sh11, sh12, sh13, sh14, sh15, sh16, sh17, sh18, sh19, sh20, sh21, sh22, sh23, sh24, sh25, sh26, sh27, sh28, sh29, sh30, sh31, sh32, sh33, sh34, sh35, sh36, sh37, sh38, sh39, sh40, sh41, sh42, sh43, sh44, sh45, sh46, sh47, sh48, sh49, sh50, sh51, sh52, sh53, sh54, sh55, sh56, sh57, sh58, sh59, brP, brN, swP, amask, apush, List.getElem?_cons_zero, List.getElem?_cons_succ, List.set_cons_zero, List.set_cons_succ, List.take_succ_cons, List.take_zero, List.drop_succ_cons, List.drop_zero, List.reverse_cons, List.reverse_nil, List.nil_append, List.cons_append, List.length_cons, List.length_nil, true_and, and_true, Nat.zero_le, Nat.reduceLeDiff, Nat.reduceAdd, Nat.reduceEqDiff, false_imp_iff, true_imp_iff, not_false_eq_true, not_true_eq_false, imp_self, forall_const]
    exact ⟨Or.inr (b01_01 ch), ch, rfl, hI.P (fun a b c ha _ _ _ _ _ => ha)⟩
  | n + 1, a, u, ch, h, hI => by
    have ha : a < 12 := by omega
    have va := eq_true (vp_in_nI (show a < 12 by omega) (show 12 < 2 ^ 31 by omega))
    have ca := nI_clamp (show a < 2 ^ 31 by omega)
    have next : ∀ u ch, UI m t u ch (fun x _ => x < a + 1) → AW 1 kX3_raiseOnce (UQ m t) 129 [some (.inr 15), some (.inl (nI t)), some (.inl (b01 ch)), some (.inl (nI a)), none, none, none] [] u := by
      intro u ch hI
      refine st_X3_raiseOnce_129 ?_; simp only [bX3_raiseOnce_129, exP, stP, p1, p2, pr, pobj, parr, sh0, sh1, sh2, sh3, sh4, sh5, sh6, sh7, sh8, sh9, sh10, sh11, sh12, sh13, sh14, sh15, sh16, sh17, sh18, sh19, sh20, sh21, sh22, sh23, sh24, sh25, sh26, sh27, sh28, sh29, sh30, sh31, sh32, sh33, sh34, sh35, sh36, sh37, sh38, sh39, sh40, sh41, sh42, sh43, sh44, sh45, sh46, sh47, sh48, sh49, sh50, sh51, sh52, sh53, sh54, sh55, sh56, sh57, sh58, sh59, brP, brN, swP, amask, apush, List.getElem?_cons_zero, List.getElem?_cons_succ, List.set_cons_zero, List.set_cons_succ, List.take_succ_cons, List.take_zero, List.drop_succ_cons, List.drop_zero, List.reverse_cons, List.reverse_nil, List.nil_append, List.cons_append, List.length_cons, List.length_nil, true_and, and_true, Nat.zero_le, Nat.reduceLeDiff, Nat.reduceAdd, Nat.reduceEqDiff, false_imp_iff, true_imp_iff, not_false_eq_true, not_true_eq_false, imp_self, forall_const]
      rw [nI_1]
      exact w_up_out m hm hX t ht n (a + 1) u ch (by omega) hI
    have inner : ∀ bd : Int32, (∀ b, b < 12 → (bt bd b = true ↔ (t.testBit a = true ∧ t.testBit b = true ∧ ∃ c, nC m a b = some c))) → AW 1 kX3_raiseOnce (UQ m t) 37 [some (.inr 15), some (.inl (nI t)), some (.inl (b01 ch)), some (.inl (nI a)), none, none, none] [.inl bd] u := by
      intro bd hbd
      refine st_X3_raiseOnce_37 ?_; simp only [bX3_raiseOnce_37, exP, stP, p1, p2, pr, pobj, parr, sh0, sh1, sh2, sh3, sh4, sh5, sh6, sh7, sh8, sh9, sh10, sh11, sh12, sh13, sh14, sh15, sh16, sh17, sh18, sh19, sh20, sh21, sh22, sh23, sh24, sh25, sh26, sh27, sh28, sh29, sh30, sh31, sh32, sh33, sh34, sh35, sh36, sh37, sh38, sh39, sh40, sh41, sh42, sh43, sh44, sh45, sh46, sh47, sh48, sh49, sh50, sh51, sh52, sh53, sh54, sh55, sh56, sh57, sh58, sh59, brP, brN, swP, amask, apush, List.getElem?_cons_zero, List.getElem?_cons_succ, List.set_cons_zero, List.set_cons_succ, List.take_succ_cons, List.take_zero, List.drop_succ_cons, List.drop_zero, List.reverse_cons, List.reverse_nil, List.nil_append, List.cons_append, List.length_cons, List.length_nil, true_and, and_true, Nat.zero_le, Nat.reduceLeDiff, Nat.reduceAdd, Nat.reduceEqDiff, false_imp_iff, true_imp_iff, not_false_eq_true, not_true_eq_false, imp_self, forall_const]
      exact w_up_in m hm hX t a ht ha bd hbd next 12 0 u ch rfl (hI.P (fun x b c _ _ _ _ _ q => by omega))
    have u19 : u 19 = m 19 := hI.1 19 (by omega)
    have u18 : u 18 = m 18 := hI.1 18 (by omega)
    refine st_X3_raiseOnce_4 ?_; simp only [bX3_raiseOnce_4, exP, stP, p1, p2, pr, pobj, parr, sh0, sh1, sh2, sh3, sh4, sh5, sh6, sh7, sh8, sh9, sh10, sh11, sh12, sh13, sh14, sh15, sh16, sh17, sh18, sh19, sh20, sh21, sh22, sh23, sh24, sh25, sh26, sh27, sh28, sh29, sh30, sh31, sh32, sh33, sh34, sh35, sh36, sh37, sh38, sh39, sh40, sh41, sh42, sh43, sh44, sh45, sh46, sh47, sh48, sh49, sh50, sh51, sh52, sh53, sh54, sh55, sh56, sh57, sh58, sh59, brP, brN, swP, amask, apush, List.getElem?_cons_zero, List.getElem?_cons_succ, List.set_cons_zero, List.set_cons_succ, List.take_succ_cons, List.take_zero, List.drop_succ_cons, List.drop_zero, List.reverse_cons, List.reverse_nil, List.nil_append, List.cons_append, List.length_cons, List.length_nil, true_and, and_true, Nat.zero_le, Nat.reduceLeDiff, Nat.reduceAdd, Nat.reduceEqDiff, false_imp_iff, true_imp_iff, not_false_eq_true, not_true_eq_false, imp_self, forall_const, lit_nle (k := 12) (n := a) ha (by omega)]
    refine st_X3_raiseOnce_10 ?_; simp only [bX3_raiseOnce_10, exP, stP, p1, p2, pr, pobj, parr, sh0, sh1, sh2, sh3, sh4, sh5, sh6, sh7, sh8, sh9, sh10, sh11, sh12, sh13, sh14, sh15, sh16, sh17, sh18, sh19, sh20, sh21, sh22, sh23, sh24, sh25, sh26, sh27, sh28, sh29, sh30, sh31, sh32, sh33, sh34, sh35, sh36, sh37, sh38, sh39, sh40, sh41, sh42, sh43, sh44, sh45, sh46, sh47, sh48, sh49, sh50, sh51, sh52, sh53, sh54, sh55, sh56, sh57, sh58, sh59, brP, brN, swP, amask, apush, List.getElem?_cons_zero, List.getElem?_cons_succ, List.set_cons_zero, List.set_cons_succ, List.take_succ_cons, List.take_zero, List.drop_succ_cons, List.drop_zero, List.reverse_cons, List.reverse_nil, List.nil_append, List.cons_append, List.length_cons, List.length_nil, true_and, and_true, Nat.zero_le, Nat.reduceLeDiff, Nat.reduceAdd, Nat.reduceEqDiff, false_imp_iff, true_imp_iff, not_false_eq_true, not_true_eq_false, imp_self, forall_const]
    refine ⟨_, ⟨0, by decide, c_holds _ _ a (by omega)⟩, ?_⟩; rintro _ _ ⟨rfl, rfl⟩; simp only [exP, stP, p1, p2, pr, pobj, parr, sh0, sh1, sh2, sh3, sh4, sh5, sh6, sh7, sh8, sh9, sh10, sh11, sh12, sh13, sh14, sh15, sh16, sh17, sh18, sh19, sh20, sh21, sh22, sh23, sh24, sh25, sh26, sh27, sh28, sh29, sh30, sh31, sh32, sh33, sh34, sh35, sh36, sh37, sh38, sh39, sh40, sh41, sh42, sh43, sh44, sh45, sh46, sh47, sh48, sh49, sh50, sh51, sh52, sh53, sh54, sh55, sh56, sh57, sh58, sh59, brP, brN, swP, amask, apush, List.getElem?_cons_zero, List.getElem?_cons_succ, List.set_cons_zero, List.set_cons_succ, List.take_succ_cons, List.take_zero, List.drop_succ_cons, List.drop_zero, List.reverse_cons, List.reverse_nil, List.nil_append, List.cons_append, List.length_cons, List.length_nil, true_and, and_true, Nat.zero_le, Nat.reduceLeDiff, Nat.reduceAdd, Nat.reduceEqDiff, false_imp_iff, true_imp_iff, not_false_eq_true, not_true_eq_false, imp_self, forall_const, b01_0, bt_nI (show t < 4294967296 by omega)]
    refine ⟨fun c => ?_, fun c => ?_⟩
    · refine st_X3_raiseOnce_36 ?_; simp only [bX3_raiseOnce_36, exP, stP, p1, p2, pr, pobj, parr, sh0, sh1, sh2, sh3, sh4, sh5, sh6, sh7, sh8, sh9, sh10, sh11, sh12, sh13, sh14, sh15, sh16, sh17, sh18, sh19, sh20, sh21, sh22, sh23, sh24, sh25, sh26, sh27, sh28, sh29, sh30, sh31, sh32, sh33, sh34, sh35, sh36, sh37, sh38, sh39, sh40, sh41, sh42, sh43, sh44, sh45, sh46, sh47, sh48, sh49, sh50, sh51, sh52, sh53, sh54, sh55, sh56, sh57, sh58, sh59, brP, brN, swP, amask, apush, List.getElem?_cons_zero, List.getElem?_cons_succ, List.set_cons_zero, List.set_cons_succ, List.take_succ_cons, List.take_zero, List.drop_succ_cons, List.drop_zero, List.reverse_cons, List.reverse_nil, List.nil_append, List.cons_append, List.length_cons, List.length_nil, true_and, and_true, Nat.zero_le, Nat.reduceLeDiff, Nat.reduceAdd, Nat.reduceEqDiff, false_imp_iff, true_imp_iff, not_false_eq_true, not_true_eq_false, imp_self, forall_const]
      refine inner 0 (fun b hb => ?_)
      rw [b_0]
      simp [c]
    · have c2 : t.testBit a = true := by simpa using c
      refine st_X3_raiseOnce_18 ?_; simp only [bX3_raiseOnce_18, exP, stP, p1, p2, pr, pobj, parr, sh0, sh1, sh2, sh3, sh4, sh5, sh6, sh7, sh8, sh9, sh10, sh11, sh12, sh13, sh14, sh15, sh16, sh17, sh18, sh19, sh20, sh21, sh22, sh23, sh24, sh25, sh26, sh27, sh28, sh29, sh30, sh31, sh32, sh33, sh34, sh35, sh36, sh37, sh38, sh39, sh40, sh41, sh42, sh43, sh44, sh45, sh46, sh47, sh48, sh49, sh50, sh51, sh52, sh53, sh54, sh55, sh56, sh57, sh58, sh59, brP, brN, swP, amask, apush, List.getElem?_cons_zero, List.getElem?_cons_succ, List.set_cons_zero, List.set_cons_succ, List.take_succ_cons, List.take_zero, List.drop_succ_cons, List.drop_zero, List.reverse_cons, List.reverse_nil, List.nil_append, List.cons_append, List.length_cons, List.length_nil, true_and, and_true, Nat.zero_le, Nat.reduceLeDiff, Nat.reduceAdd, Nat.reduceEqDiff, false_imp_iff, true_imp_iff, not_false_eq_true, not_true_eq_false, imp_self, forall_const, va, ca]
      refine inner _ (fun b hb => ?_)
      rw [b_and, b_or, bt_nI (by omega), u19, u18]
      unfold nC
      rw [c2]
      cases bt (m 19 a) b <;> cases bt (m 18 a) b <;> simp
theorem c_raiseOnce (m : AM) (hm : TW m) (hX : ∀ b, b < 12 → 0 ≤ (m 20 b).toInt ∧ (m 20 b).toInt ≤ 3000) (t : Nat) (ht : t < 4096) : AC 1 kX3_raiseOnce [.inr 15, .inl (nI t)] m (UQ m t) := by
  refine AC_of own_X3_raiseOnce (ls := [some (.inr 15), some (.inl (nI t)), none, none, none, none, none]) (z := 5) (Nat.le_of_ble_eq_true rfl) rfl ?_
  refine st_X3_raiseOnce_0 ?_; simp only [bX3_raiseOnce_0, exP, stP, p1, p2, pr, pobj, parr, sh0, sh1, sh2, sh3, sh4, sh5, sh6, sh7, sh8, sh9, sh10, sh11, sh12, sh13, sh14, sh15, sh16, sh17, sh18, sh19, sh20, sh21, sh22, sh23, sh24, sh25, sh26, sh27, sh28, sh29, sh30, sh31, sh32, sh33, sh34, sh35, sh36, sh37, sh38, sh39, sh40, sh41, sh42, sh43, sh44, sh45, sh46, sh47, sh48, sh49, sh50, sh51, sh52, sh53, sh54, sh55, sh56, sh57, sh58, sh59, brP, brN, swP, amask, apush, List.getElem?_cons_zero, List.getElem?_cons_succ, List.set_cons_zero, List.set_cons_succ, List.take_succ_cons, List.take_zero, List.drop_succ_cons, List.drop_zero, List.reverse_cons, List.reverse_nil, List.nil_append, List.cons_append, List.length_cons, List.length_nil, true_and, and_true, Nat.zero_le, Nat.reduceLeDiff, Nat.reduceAdd, Nat.reduceEqDiff, false_imp_iff, true_imp_iff, not_false_eq_true, not_true_eq_false, imp_self, forall_const]
  exact w_up_out m hm hX t ht 12 0 m false rfl ⟨fun k hk => rfl, fun b hb => ⟨Int.le_refl _, (hX b hb).2⟩, fun a b c _ _ q => by omega, fun y hy _ b hb htb => hy b hb htb, fun _ _ _ => rfl, fun q => by cases q⟩
/-- after a raising: the dual's next round is reached -/
theorem UI.dual {m : AM} {t : Nat} {u : AM} {ch : Bool} {k : Nat} {F : Nat → Int} (h : UI m t u ch (fun _ _ => True)) (hk : ∀ b, b < 12 → t.testBit b = true → - (m 20 b).toInt ≤ lat (fun d => - F d) (dC (nC m)) t k b) : ∀ b, b < 12 → t.testBit b = true → - (u 20 b).toInt ≤ lat (fun d => - F d) (dC (nC m)) t (k + 1) b := by
  intro b hb htb
  obtain ⟨h1, h2, h3, -⟩ := h
  show _ ≤ jmin (dC (nC m)) t (lat (fun d => - F d) (dC (nC m)) t k) b 12
  rcases jmin_or (cst := dC (nC m)) t (lat (fun d => - F d) (dC (nC m)) t k) b 12 with e | ⟨a, c, ha, hta, -, hc, e⟩
  · rw [e]
    have := hk b hb htb
    have := (h2 b hb).1
    omega
  · rw [e]
    have := hk a ha hta
    have := h3 b a c hb ha trivial htb hta hc
    omega
def KQ (m : AM) (t : Nat) : APost := fun z u => z = none ∧ (∀ j, j ≠ 15 → j ≠ 20 → j ≠ 21 → j ≠ 22 → j ≠ 23 → j ≠ 24 → u j = m j) ∧ (∀ j, j ≠ 10 → u 15 j = m 15 j) ∧ isM (nF m) (nC m) t (fun b => (u 20 b).toInt) ∧ (agr (nF m) (nL m) (nC m) t → isG (nL m) (nC m) t (fun b => (u 21 b).toInt))
theorem c_keepYears (m : AM) (hm : TW m) (t : Nat) (ht : t < 4096) : AC 3 kX3_keepYears [.inr 15, .inl (nI t)] m (KQ m t) := by
  refine AC_of own_X3_keepYears (ls := [some (.inr 15), some (.inl (nI t)), none]) (z := 1) (Nat.le_of_ble_eq_true rfl) rfl ?_
  have hc0 := TW_c hm
  have hd0 : ∀ a b c, dC (nC m) a b = some c → 0 ≤ c := fun a b c h => (hc0 b a c h).1
  -- the years over F
  have loop : ∀ (n k : Nat) (u : AM), k + n = 11 → (∀ j, j ≠ 15 → j ≠ 20 → j ≠ 21 → j ≠ 22 → j ≠ 23 → j ≠ 24 → u j = m j) → (∀ j, j ≠ 10 → u 15 j = m 15 j) → (agr (nF m) (nL m) (nC m) t → isG (nL m) (nC m) t (fun b => (u 21 b).toInt)) → (∀ b, b < 12 → 0 ≤ (u 20 b).toInt ∧ (u 20 b).toInt ≤ 3000 ∧ nF m b ≤ (u 20 b).toInt) → (∀ b, b < 12 → t.testBit b = true → - (u 20 b).toInt ≤ lat (fun d => - nF m d) (dC (nC m)) t k b) → (∀ y, (∀ b, b < 12 → t.testBit b = true → nF m b ≤ y b) → clo (nC m) t y → ∀ b, b < 12 → t.testBit b = true → (u 20 b).toInt ≤ y b) → AW 3 kX3_keepYears (KQ m t) 38 [some (.inr 15), some (.inl (nI t)), some (.inl (nI k))] [] u := by
    intro n
    induction n with
    | zero =>
      intro k u hk h1 h2 h3 h4 h5 h6
      obtain rfl : k = 11 := by omega
      have eC : nC u = nC m := by
        funext a b
        unfold nC
        rw [h1 19 (by omega) (by omega) (by omega) (by omega) (by omega) (by omega), h1 18 (by omega) (by omega) (by omega) (by omega) (by omega) (by omega), h2 9 (by omega)]
      have hmu : TW u := by
        unfold TW nF nL
        rw [h1 16 (by omega) (by omega) (by omega) (by omega) (by omega) (by omega), h1 17 (by omega) (by omega) (by omega) (by omega) (by omega) (by omega), h2 9 (by omega)]
        exact hm
      have hst : ∀ b, b < 12 → t.testBit b = true → lat (fun d => - nF m d) (dC (nC m)) t 12 b = lat (fun d => - nF m d) (dC (nC m)) t 11 b := fun b hb htb => lat_stable hd0 hb htb
      have hcl : clo (nC m) t (fun b => - lat (fun d => - nF m d) (dC (nC m)) t 11 b) := by
        intro a b c ha hb hta htb hc
        have h7 := lat_edge (L := fun d => - nF m d) (cst := dC (nC m)) (t := t) (k := 11) (a := b) (b := a) (c := c) hb htb hta hc
        have h8 := hst a ha hta
        have h9 : lat (fun d => - nF m d) (dC (nC m)) t (11 + 1) a = lat (fun d => - nF m d) (dC (nC m)) t 11 a := h8
        try dsimp only
        omega
      have heq : ∀ b, b < 12 → t.testBit b = true → (u 20 b).toInt = - lat (fun d => - nF m d) (dC (nC m)) t 11 b := by
        intro b hb htb
        have h7 := h5 b hb htb
        have h8 := h6 (fun b => - lat (fun d => - nF m d) (dC (nC m)) t 11 b) (fun b hb htb => by
          have := lat_dec (L := fun d => - nF m d) (cst := dC (nC m)) t b (Nat.zero_le 11)
          have e : lat (fun d => - nF m d) (dC (nC m)) t 0 b = - nF m b := rfl
          try dsimp only
          omega) hcl b hb htb
        try dsimp only at h8
        omega
      have hclu : clo (nC m) t (fun b => (u 20 b).toInt) := by
        intro a b c ha hb hta htb hc
        have := hcl a b c ha hb hta htb hc
        try dsimp only at this ⊢
        rw [heq a ha hta, heq b hb htb]
        exact this
      refine st_X3_keepYears_38 ?_; simp only [bX3_keepYears_38, exP, stP, p1, p2, pr, pobj, parr, sh0, sh1, sh2, sh3, sh4, sh5, sh6, sh7, sh8, sh9, sh10, sh11, sh12, sh13, sh14, sh15, sh16, sh17, sh18, sh19, sh20, sh21, sh22, sh23, sh24, sh25, sh26, sh27, sh28, sh29, sh30, sh31, sh32, sh33, sh34, sh35, sh36, sh37, sh38, sh39, sh40, sh41, sh42, sh43, sh44, sh45, sh46, sh47, sh48, sh49, sh50, sh51, sh52, sh53, sh54, sh55, sh56, sh57, sh58, sh59, brP, brN, swP, amask, apush, List.getElem?_cons_zero, List.getElem?_cons_succ, List.set_cons_zero, List.set_cons_succ, List.take_succ_cons, List.take_zero, List.drop_succ_cons, List.drop_zero, List.reverse_cons, List.reverse_nil, List.nil_append, List.cons_append, List.length_cons, List.length_nil, true_and, and_true, Nat.zero_le, Nat.reduceLeDiff, Nat.reduceAdd, Nat.reduceEqDiff, false_imp_iff, true_imp_iff, not_false_eq_true, not_true_eq_false, imp_self, forall_const, lit_nlt (k := 12) (n := 11) (by omega) (by omega)]
      refine st_X3_keepYears_44 ?_; simp only [bX3_keepYears_44, exP, stP, p1, p2, pr, pobj, parr, sh0, sh1, sh2, sh3, sh4, sh5, sh6, sh7, sh8, sh9, sh10, sh11, sh12, sh13, sh14, sh15, sh16, sh17, sh18, sh19, sh20, sh21, sh22, sh23, sh24, sh25, sh26, sh27, sh28, sh29, sh30, sh31, sh32, sh33, sh34, sh35, sh36, sh37, sh38, sh39, sh40, sh41, sh42, sh43, sh44, sh45, sh46, sh47, sh48, sh49, sh50, sh51, sh52, sh53, sh54, sh55, sh56, sh57, sh58, sh59, brP, brN, swP, amask, apush, List.getElem?_cons_zero, List.getElem?_cons_succ, List.set_cons_zero, List.set_cons_succ, List.take_succ_cons, List.take_zero, List.drop_succ_cons, List.drop_zero, List.reverse_cons, List.reverse_nil, List.nil_append, List.cons_append, List.length_cons, List.length_nil, true_and, and_true, Nat.zero_le, Nat.reduceLeDiff, Nat.reduceAdd, Nat.reduceEqDiff, false_imp_iff, true_imp_iff, not_false_eq_true, not_true_eq_false, imp_self, forall_const]
      refine ⟨_, ⟨1, by decide, c_raiseOnce u hmu (fun b hb => ⟨(h4 b hb).1, (h4 b hb).2.1⟩) t ht⟩, ?_⟩
      rintro z u' ⟨ch, rfl, hU⟩
      have hcf : ch = false := by
        cases ch with
        | false => rfl
        | true =>
          obtain ⟨b, hb, htb, hlt⟩ := hU.2.2.2.2.2 rfl
          have := hU.2.2.2.1 (fun b => (u 20 b).toInt) (fun b _ _ => Int.le_refl _) (by rw [eC]; exact hclu) b hb htb
          try dsimp only at this
          omega
      subst hcf
      simp only [exP, stP, p1, p2, pr, pobj, parr, sh0, sh1, sh2, sh3, sh4, sh5, sh6, sh7, sh8, sh9, sh10, sh11, sh12, sh13, sh14, sh15, sh16, sh17, sh18, sh19, sh20, sh21, sh22, sh23, sh24, sh25, sh26, sh27, sh28, sh29, sh30, sh31, sh32, sh33, sh34, sh35, sh36, sh37, sh38, sh39, sh40, sh41, sh42, sh43, sh44, sh45, sh46, sh47, sh48, sh49, sh50, sh51, sh52, sh53, sh54, sh55, sh56, sh57, sh58, sh59, brP, brN, swP, amask, apush, List.getElem?_cons_zero, List.getElem?_cons_succ, List.set_cons_zero, List.set_cons_succ, List.take_succ_cons, List.take_zero, List.drop_succ_cons, List.drop_zero, List.reverse_cons, List.reverse_nil, List.nil_append, List.cons_append, List.length_cons, List.length_nil, true_and, and_true, Nat.zero_le, Nat.reduceLeDiff, Nat.reduceAdd, Nat.reduceEqDiff, false_imp_iff, true_imp_iff, not_false_eq_true, not_true_eq_false, imp_self, forall_const, b01_0]
      refine st_X3_keepYears_52 ?_; simp only [bX3_keepYears_52, exP, stP, p1, p2, pr, pobj, parr, sh0, sh1, sh2, sh3, sh4, sh5, sh6, sh7, sh8, sh9, sh10, sh11, sh12, sh13, sh14, sh15, sh16, sh17, sh18, sh19, sh20, sh21, sh22, sh23, sh24, sh25, sh26, sh27, sh28, sh29, sh30, sh31, sh32, sh33, sh34, sh35, sh36, sh37, sh38, sh39, sh40, sh41, sh42, sh43, sh44, sh45, sh46, sh47, sh48, sh49, sh50, sh51, sh52, sh53, sh54, sh55, sh56, sh57, sh58, sh59, brP, brN, swP, amask, apush, List.getElem?_cons_zero, List.getElem?_cons_succ, List.set_cons_zero, List.set_cons_succ, List.take_succ_cons, List.take_zero, List.drop_succ_cons, List.drop_zero, List.reverse_cons, List.reverse_nil, List.nil_append, List.cons_append, List.length_cons, List.length_nil, true_and, and_true, Nat.zero_le, Nat.reduceLeDiff, Nat.reduceAdd, Nat.reduceEqDiff, false_imp_iff, true_imp_iff, not_false_eq_true, not_true_eq_false, imp_self, forall_const]
      refine st_X3_keepYears_61 ?_; simp only [bX3_keepYears_61, exP, stP, p1, p2, pr, pobj, parr, sh0, sh1, sh2, sh3, sh4, sh5, sh6, sh7, sh8, sh9, sh10, sh11, sh12, sh13, sh14, sh15, sh16, sh17, sh18, sh19, sh20, sh21, sh22, sh23, sh24, sh25, sh26, sh27, sh28, sh29, sh30, sh31, sh32, sh33, sh34, sh35, sh36, sh37, sh38, sh39, sh40, sh41, sh42, sh43, sh44, sh45, sh46, sh47, sh48, sh49, sh50, sh51, sh52, sh53, sh54, sh55, sh56, sh57, sh58, sh59, brP, brN, swP, amask, apush, List.getElem?_cons_zero, List.getElem?_cons_succ, List.set_cons_zero, List.set_cons_succ, List.take_succ_cons, List.take_zero, List.drop_succ_cons, List.drop_zero, List.reverse_cons, List.reverse_nil, List.nil_append, List.cons_append, List.length_cons, List.length_nil, true_and, and_true, Nat.zero_le, Nat.reduceLeDiff, Nat.reduceAdd, Nat.reduceEqDiff, false_imp_iff, true_imp_iff, not_false_eq_true, not_true_eq_false, imp_self, forall_const]
      have hsame := hU.2.2.2.2.1 rfl
      refine ⟨rfl, fun j j1 j2 j3 j4 j5 j6 => by rw [hU.1 j j2]; exact h1 j j1 j2 j3 j4 j5 j6, fun j hj => by rw [hU.1 15 (by omega)]; exact h2 j hj, ⟨fun b hb htb => ?_, fun a b c ha hb hta htb hc => ?_, fun y hy hyc b hb htb => ?_⟩, fun hag => ?_⟩
      · have := (h4 b hb).2.2
        have := hsame b hb
        try dsimp only
        omega
      · have := hclu a b c ha hb hta htb hc
        try dsimp only at this ⊢
        rw [hsame a ha, hsame b hb]
        exact this
      · have := h6 y hy hyc b hb htb
        try dsimp only
        rw [hsame b hb]
        exact this
      · have := h3 hag
        rw [hU.1 21 (by omega)]
        exact this
    | succ n ih =>
      intro k u hk h1 h2 h3 h4 h5 h6
      have eC : nC u = nC m := by
        funext a b
        unfold nC
        rw [h1 19 (by omega) (by omega) (by omega) (by omega) (by omega) (by omega), h1 18 (by omega) (by omega) (by omega) (by omega) (by omega) (by omega), h2 9 (by omega)]
      have hmu : TW u := by
        unfold TW nF nL
        rw [h1 16 (by omega) (by omega) (by omega) (by omega) (by omega) (by omega), h1 17 (by omega) (by omega) (by omega) (by omega) (by omega) (by omega), h2 9 (by omega)]
        exact hm
      refine st_X3_keepYears_38 ?_; simp only [bX3_keepYears_38, exP, stP, p1, p2, pr, pobj, parr, sh0, sh1, sh2, sh3, sh4, sh5, sh6, sh7, sh8, sh9, sh10, sh11, sh12, sh13, sh14, sh15, sh16, sh17, sh18, sh19, sh20, sh21, sh22, sh23, sh24, sh25, sh26, sh27, sh28, sh29, sh30, sh31, sh32, sh33, sh34, sh35, sh36, sh37, sh38, sh39, sh40, sh41, sh42, sh43, sh44, sh45, sh46, sh47, sh48, sh49, sh50, sh51, sh52, sh53, sh54, sh55, sh56, sh57, sh58, sh59, brP, brN, swP, amask, apush, List.getElem?_cons_zero, List.getElem?_cons_succ, List.set_cons_zero, List.set_cons_succ, List.take_succ_cons, List.take_zero, List.drop_succ_cons, List.drop_zero, List.reverse_cons, List.reverse_nil, List.nil_append, List.cons_append, List.length_cons, List.length_nil, true_and, and_true, Nat.zero_le, Nat.reduceLeDiff, Nat.reduceAdd, Nat.reduceEqDiff, false_imp_iff, true_imp_iff, not_false_eq_true, not_true_eq_false, imp_self, forall_const, lit_nlt (k := 12) (n := k) (by omega) (by omega)]
      refine st_X3_keepYears_44 ?_; simp only [bX3_keepYears_44, exP, stP, p1, p2, pr, pobj, parr, sh0, sh1, sh2, sh3, sh4, sh5, sh6, sh7, sh8, sh9, sh10, sh11, sh12, sh13, sh14, sh15, sh16, sh17, sh18, sh19, sh20, sh21, sh22, sh23, sh24, sh25, sh26, sh27, sh28, sh29, sh30, sh31, sh32, sh33, sh34, sh35, sh36, sh37, sh38, sh39, sh40, sh41, sh42, sh43, sh44, sh45, sh46, sh47, sh48, sh49, sh50, sh51, sh52, sh53, sh54, sh55, sh56, sh57, sh58, sh59, brP, brN, swP, amask, apush, List.getElem?_cons_zero, List.getElem?_cons_succ, List.set_cons_zero, List.set_cons_succ, List.take_succ_cons, List.take_zero, List.drop_succ_cons, List.drop_zero, List.reverse_cons, List.reverse_nil, List.nil_append, List.cons_append, List.length_cons, List.length_nil, true_and, and_true, Nat.zero_le, Nat.reduceLeDiff, Nat.reduceAdd, Nat.reduceEqDiff, false_imp_iff, true_imp_iff, not_false_eq_true, not_true_eq_false, imp_self, forall_const]
      refine ⟨_, ⟨1, by decide, c_raiseOnce u hmu (fun b hb => ⟨(h4 b hb).1, (h4 b hb).2.1⟩) t ht⟩, ?_⟩
      rintro z u' ⟨ch, rfl, hU⟩
      have f1 : ∀ j, j ≠ 15 → j ≠ 20 → j ≠ 21 → j ≠ 22 → j ≠ 23 → j ≠ 24 → u' j = m j := fun j j1 j2 j3 j4 j5 j6 => by rw [hU.1 j j2]; exact h1 j j1 j2 j3 j4 j5 j6
      have f2 : ∀ j, j ≠ 10 → u' 15 j = m 15 j := fun j hj => by rw [hU.1 15 (by omega)]; exact h2 j hj
      have f3 : agr (nF m) (nL m) (nC m) t → isG (nL m) (nC m) t (fun b => (u' 21 b).toInt) := fun hag => by
        rw [hU.1 21 (by omega)]; exact h3 hag
      have f6 : ∀ y, (∀ b, b < 12 → t.testBit b = true → nF m b ≤ y b) → clo (nC m) t y → ∀ b, b < 12 → t.testBit b = true → (u' 20 b).toInt ≤ y b := fun y hy hyc b hb htb => hU.2.2.2.1 y (fun b hb htb => h6 y hy hyc b hb htb) (by rw [eC]; exact hyc) b hb htb
      have f4 : ∀ b, b < 12 → 0 ≤ (u' 20 b).toInt ∧ (u' 20 b).toInt ≤ 3000 ∧ nF m b ≤ (u' 20 b).toInt := fun b hb => by
        have a1 := hU.2.1 b hb
        have a2 := h4 b hb
        omega
      simp only [exP, stP, p1, p2, pr, pobj, parr, sh0, sh1, sh2, sh3, sh4, sh5, sh6, sh7, sh8, sh9, sh10, sh11, sh12, sh13, sh14, sh15, sh16, sh17, sh18, sh19, sh20, sh21, sh22, sh23, sh24, sh25, sh26, sh27, sh28, sh29, sh30, sh31, sh32, sh33, sh34, sh35, sh36, sh37, sh38, sh39, sh40, sh41, sh42, sh43, sh44, sh45, sh46, sh47, sh48, sh49, sh50, sh51, sh52, sh53, sh54, sh55, sh56, sh57, sh58, sh59, brP, brN, swP, amask, apush, List.getElem?_cons_zero, List.getElem?_cons_succ, List.set_cons_zero, List.set_cons_succ, List.take_succ_cons, List.take_zero, List.drop_succ_cons, List.drop_zero, List.reverse_cons, List.reverse_nil, List.nil_append, List.cons_append, List.length_cons, List.length_nil, true_and, and_true, Nat.zero_le, Nat.reduceLeDiff, Nat.reduceAdd, Nat.reduceEqDiff, false_imp_iff, true_imp_iff, not_false_eq_true, not_true_eq_false, imp_self, forall_const, b01_0]
      refine ⟨fun c => ?_, fun c => ?_⟩
      · refine st_X3_keepYears_55 ?_; simp only [bX3_keepYears_55, exP, stP, p1, p2, pr, pobj, parr, sh0, sh1, sh2, sh3, sh4, sh5, sh6, sh7, sh8, sh9, sh10, sh11, sh12, sh13, sh14, sh15, sh16, sh17, sh18, sh19, sh20, sh21, sh22, sh23, sh24, sh25, sh26, sh27, sh28, sh29, sh30, sh31, sh32, sh33, sh34, sh35, sh36, sh37, sh38, sh39, sh40, sh41, sh42, sh43, sh44, sh45, sh46, sh47, sh48, sh49, sh50, sh51, sh52, sh53, sh54, sh55, sh56, sh57, sh58, sh59, brP, brN, swP, amask, apush, List.getElem?_cons_zero, List.getElem?_cons_succ, List.set_cons_zero, List.set_cons_succ, List.take_succ_cons, List.take_zero, List.drop_succ_cons, List.drop_zero, List.reverse_cons, List.reverse_nil, List.nil_append, List.cons_append, List.length_cons, List.length_nil, true_and, and_true, Nat.zero_le, Nat.reduceLeDiff, Nat.reduceAdd, Nat.reduceEqDiff, false_imp_iff, true_imp_iff, not_false_eq_true, not_true_eq_false, imp_self, forall_const]
        rw [nI_1]
        refine ih (k + 1) u' (by omega) f1 f2 f3 f4 ?_ f6
        have := UI.dual (F := nF m) (k := k) hU (by rw [eC]; exact h5)
        rw [eC] at this
        exact this
      · refine st_X3_keepYears_52 ?_; simp only [bX3_keepYears_52, exP, stP, p1, p2, pr, pobj, parr, sh0, sh1, sh2, sh3, sh4, sh5, sh6, sh7, sh8, sh9, sh10, sh11, sh12, sh13, sh14, sh15, sh16, sh17, sh18, sh19, sh20, sh21, sh22, sh23, sh24, sh25, sh26, sh27, sh28, sh29, sh30, sh31, sh32, sh33, sh34, sh35, sh36, sh37, sh38, sh39, sh40, sh41, sh42, sh43, sh44, sh45, sh46, sh47, sh48, sh49, sh50, sh51, sh52, sh53, sh54, sh55, sh56, sh57, sh58, sh59, brP, brN, swP, amask, apush, List.getElem?_cons_zero, List.getElem?_cons_succ, List.set_cons_zero, List.set_cons_succ, List.take_succ_cons, List.take_zero, List.drop_succ_cons, List.drop_zero, List.reverse_cons, List.reverse_nil, List.nil_append, List.cons_append, List.length_cons, List.length_nil, true_and, and_true, Nat.zero_le, Nat.reduceLeDiff, Nat.reduceAdd, Nat.reduceEqDiff, false_imp_iff, true_imp_iff, not_false_eq_true, not_true_eq_false, imp_self, forall_const]
        refine st_X3_keepYears_61 ?_; simp only [bX3_keepYears_61, exP, stP, p1, p2, pr, pobj, parr, sh0, sh1, sh2, sh3, sh4, sh5, sh6, sh7, sh8, sh9, sh10, sh11, sh12, sh13, sh14, sh15, sh16, sh17, sh18, sh19, sh20, sh21, sh22, sh23, sh24, sh25, sh26, sh27, sh28, sh29, sh30, sh31, sh32, sh33, sh34, sh35, sh36, sh37, sh38, sh39, sh40, sh41, sh42, sh43, sh44, sh45, sh46, sh47, sh48, sh49, sh50, sh51, sh52, sh53, sh54, sh55, sh56, sh57, sh58, sh59, brP, brN, swP, amask, apush, List.getElem?_cons_zero, List.getElem?_cons_succ, List.set_cons_zero, List.set_cons_succ, List.take_succ_cons, List.take_zero, List.drop_succ_cons, List.drop_zero, List.reverse_cons, List.reverse_nil, List.nil_append, List.cons_append, List.length_cons, List.length_nil, true_and, and_true, Nat.zero_le, Nat.reduceLeDiff, Nat.reduceAdd, Nat.reduceEqDiff, false_imp_iff, true_imp_iff, not_false_eq_true, not_true_eq_false, imp_self, forall_const]
        have hsame := hU.2.2.2.2.1 c
        refine ⟨rfl, f1, f2, ⟨fun b hb htb => (f4 b hb).2.2, fun a b cc ha hb hta htb hc => ?_, f6⟩, f3⟩
        have := hU.2.2.1 a b cc ha hb trivial hta htb (by rw [eC]; exact hc)
        have := hsame b hb
        try dsimp only
        omega
  refine st_X3_keepYears_0 ?_; simp only [bX3_keepYears_0, exP, stP, p1, p2, pr, pobj, parr, sh0, sh1, sh2, sh3, sh4, sh5, sh6, sh7, sh8, sh9, sh10, sh11, sh12, sh13, sh14, sh15, sh16, sh17, sh18, sh19, sh20, sh21, sh22, sh23, sh24, sh25, sh26, sh27, sh28, sh29, sh30, sh31, sh32, sh33, sh34, sh35, sh36, sh37, sh38, sh39, sh40, sh41, sh42, sh43, sh44, sh45, sh46, sh47, sh48, sh49, sh50, sh51, sh52, sh53, sh54, sh55, sh56, sh57, sh58, sh59, brP, brN, swP, amask, apush, List.getElem?_cons_zero, List.getElem?_cons_succ, List.set_cons_zero, List.set_cons_succ, List.take_succ_cons, List.take_zero, List.drop_succ_cons, List.drop_zero, List.reverse_cons, List.reverse_nil, List.nil_append, List.cons_append, List.length_cons, List.length_nil, true_and, and_true, Nat.zero_le, Nat.reduceLeDiff, Nat.reduceAdd, Nat.reduceEqDiff, false_imp_iff, true_imp_iff, not_false_eq_true, not_true_eq_false, imp_self, forall_const]
  refine ⟨_, ⟨2, by decide, c_roundsToBreak m hm t ht⟩, ?_⟩
  intro z u hR
  have hRM : RM m u := by
    rcases hR with ⟨k, _, _, _, hI, _⟩ | ⟨k, _, hI, _⟩
    · exact hI.rm
    · exact hI.rm
  have hG : agr (nF m) (nL m) (nC m) t → isG (nL m) (nC m) t (fun b => (u 22 b).toInt) := by
    intro hag
    rcases hR with ⟨k, _, _, hf, hI, _⟩ | ⟨k, _, hI, hnb, hst⟩
    · exact absurd hag (brk_nagr hf.1)
    · have h1 := isG_lat (L := nL m) (cst := nC m) (t := t) (k := k) (fun b hb _ => hst b hb)
      have e : ∀ b, b < 12 → (u 22 b).toInt = lat (nL m) (nC m) t k b := fun b hb => by rw [hI.2.2.1 b hb, hst b hb]
      refine ⟨fun b hb htb => ?_, fun a b c ha hb hta htb hc => ?_, fun y hy hyc b hb htb => ?_⟩
      · (try dsimp only); rw [e b hb]; exact h1.1 b hb htb
      · (try dsimp only); rw [e a ha, e b hb]; exact h1.2.1 a b c ha hb hta htb hc
      · (try dsimp only); rw [e b hb]; exact h1.2.2 y hy hyc b hb htb
  have hzz : ∃ x, z = some x := by
    rcases hR with ⟨k, _, e, _⟩ | ⟨k, e, _⟩
    · exact ⟨_, e⟩
    · exact ⟨_, e⟩
  obtain ⟨x, rfl⟩ := hzz
  simp only [exP, stP, p1, p2, pr, pobj, parr, sh0, sh1, sh2, sh3, sh4, sh5, sh6, sh7, sh8, sh9, sh10, sh11, sh12, sh13, sh14, sh15, sh16, sh17, sh18, sh19, sh20, sh21, sh22, sh23, sh24, sh25, sh26, sh27, sh28, sh29, sh30, sh31, sh32, sh33, sh34, sh35, sh36, sh37, sh38, sh39, sh40, sh41, sh42, sh43, sh44, sh45, sh46, sh47, sh48, sh49, sh50, sh51, sh52, sh53, sh54, sh55, sh56, sh57, sh58, sh59, brP, brN, swP, amask, apush, List.getElem?_cons_zero, List.getElem?_cons_succ, List.set_cons_zero, List.set_cons_succ, List.take_succ_cons, List.take_zero, List.drop_succ_cons, List.drop_zero, List.reverse_cons, List.reverse_nil, List.nil_append, List.cons_append, List.length_cons, List.length_nil, true_and, and_true, Nat.zero_le, Nat.reduceLeDiff, Nat.reduceAdd, Nat.reduceEqDiff, false_imp_iff, true_imp_iff, not_false_eq_true, not_true_eq_false, imp_self, forall_const]
  refine ⟨by decide, by decide, by decide, by decide, by decide, by decide, by decide, by decide, by decide, by decide, ?_⟩
  rw [show Int32.toNatClampNeg 0 = 0 from rfl, show Int32.toNatClampNeg 12 = 12 from rfl]
  refine loop 11 0 _ rfl (fun j j1 j2 j3 j4 j5 j6 => ?_) (fun j hj => ?_) (fun hag => ?_) (fun b hb => ?_) (fun b hb htb => ?_) (fun y hy hyc b hb htb => ?_)
  · rw [aup_ne j2, aup_ne j3]; exact hRM.1 j j1 j4 j5 j6
  · rw [aup_ne (by omega), aup_ne (by omega)]; exact hRM.2 j hj
  · have h1 := hG hag
    have e : ∀ b, b < 12 → (aup (aup u 21 (va_cpy (u 22) (u 21) 0 0 12)) 20 (va_cpy (aup u 21 (va_cpy (u 22) (u 21) 0 0 12) 16) (aup u 21 (va_cpy (u 22) (u 21) 0 0 12) 20) 0 0 12) 21 b).toInt = (u 22 b).toInt := fun b hb => by
      rw [aup_ne (by omega), aup_eq, sb_cpy0 hb]
    refine ⟨fun b hb htb => ?_, fun a b c ha hb hta htb hc => ?_, fun y hy hyc b hb htb => ?_⟩
    · (try dsimp only); rw [e b hb]; exact h1.1 b hb htb
    · (try dsimp only); rw [e a ha, e b hb]; exact h1.2.1 a b c ha hb hta htb hc
    · (try dsimp only); rw [e b hb]; exact h1.2.2 y hy hyc b hb htb
  · rw [aup_eq, sb_cpy0 hb, aup_ne (by omega), hRM.1 16 (by omega) (by omega) (by omega) (by omega)]
    have := hm.1 b hb
    unfold nF at this ⊢
    omega
  · rw [aup_eq, sb_cpy0 hb, aup_ne (by omega), hRM.1 16 (by omega) (by omega) (by omega) (by omega)]
    exact Int.le_refl _
  · rw [aup_eq, sb_cpy0 hb, aup_ne (by omega), hRM.1 16 (by omega) (by omega) (by omega) (by omega)]
    exact hy b hb htb
