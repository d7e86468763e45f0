/-! ===== the reference: years ===== -/
def gF (m : AM) (d : Nat) : Int := (m 53 d).toInt
def gL (m : AM) (d : Nat) : Int := (m 54 d).toInt
def gC (m : AM) (a b : Nat) : Option Int := if a = b then none else if m 56 (12 * a + b) = 0 then (if m 55 (12 * a + b) = 0 then none else some (m 34 2).toInt) else some 0
/-- the reference's rows are years; nd deeds -/
def GW (m : AM) (nd : Nat) : Prop := nd ≤ 12 ∧ m 34 6 = nI nd ∧ (∀ d, d < nd → 0 ≤ gF m d ∧ gF m d ≤ 3000 ∧ 0 ≤ gL m d ∧ gL m d ≤ 3000) ∧ (0 ≤ (m 34 2).toInt ∧ (m 34 2).toInt ≤ 200) ∧ ∀ a b, a < nd → b < nd → (m 55 (12 * a + b) = 0 ↔ m 55 (12 * b + a) = 0)
theorem GW_c {m : AM} {nd : Nat} (h : GW m nd) : ∀ a b c, gC m a b = some c → 0 ≤ c ∧ c ≤ 200 := by
  intro a b c hc
  have := h.2.2.2.1
  unfold gC at hc
  split at hc
  · cases hc
  · split at hc
    · split at hc
      · cases hc
      · cases hc; omega
    · cases hc; omega
theorem nI_12 (a b : Nat) : (12 : Int32) * nI a + nI b = nI (12 * a + b) := by rw [nI_litmul _ 12, nI_add]
def inN (t nd : Nat) : Prop := ∀ i, t.testBit i = true → i < nd
def sumZ (f : Nat → Int) : Nat → Int
  | 0 => 0
  | n + 1 => sumZ f n + f n
theorem sumZ_le {f g : Nat → Int} : ∀ n, (∀ i, i < n → f i ≤ g i) → sumZ f n ≤ sumZ g n
  | 0, _ => Int.le_refl _
  | n + 1, h => by
    have h1 := sumZ_le n (fun i hi => h i (by omega))
    have h2 := h n (by omega)
    unfold sumZ
    omega
theorem sumZ_lt {f g : Nat → Int} {j : Nat} : ∀ n, (∀ i, i < n → f i ≤ g i) → j < n → f j < g j → sumZ f n < sumZ g n
  | 0, _, hj, _ => by omega
  | n + 1, h, hj, hlt => by
    have h2 := h n (by omega)
    unfold sumZ
    by_cases q : j = n
    · subst q
      have h1 := sumZ_le j (fun i hi => h i (by omega))
      omega
    · have h1 := sumZ_lt n (fun i hi => h i (by omega)) (show j < n by omega) hlt
      omega
theorem sumZ_nn {f : Nat → Int} : ∀ n, (∀ i, i < n → 0 ≤ f i) → 0 ≤ sumZ f n
  | 0, _ => Int.le_refl _
  | n + 1, h => by
    have h1 := sumZ_nn n (fun i hi => h i (by omega))
    have h2 := h n (by omega)
    unfold sumZ
    omega
/-- what a pass of ups has done so far -/
def UPI (m : AM) (nd t : Nat) (m0 u : AM) (ch : Bool) (P : Nat → Nat → Prop) : Prop :=
  (∀ k, k ≠ 57 → u k = m k) ∧ (∀ b, b < nd → (m0 57 b).toInt ≤ (u 57 b).toInt ∧ (u 57 b).toInt ≤ 3000 ∧ gF m b ≤ (u 57 b).toInt) ∧
  (∀ y : Nat → Int, (∀ b, b < 12 → t.testBit b = true → gF m b ≤ y b) → clo (gC m) t y → ∀ b, b < 12 → t.testBit b = true → (u 57 b).toInt ≤ y b) ∧
  (ch = false → (∀ b, b < nd → u 57 b = m0 57 b) ∧ ∀ a b c, a < nd → b < nd → P a b → t.testBit a = true → t.testBit b = true → gC m a b = some c → (m0 57 b).toInt - c ≤ (m0 57 a).toInt) ∧
  (ch = true → ∃ b, b < nd ∧ (m0 57 b).toInt < (u 57 b).toInt)
theorem UPI.P {m : AM} {nd t : Nat} {m0 u : AM} {ch : Bool} {P P' : Nat → Nat → Prop} (h : UPI m nd t m0 u ch P) (hp : ∀ a b c, a < nd → b < nd → t.testBit a = true → t.testBit b = true → gC m a b = some c → P' a b → P a b) : UPI m nd t m0 u ch P' :=
  ⟨h.1, h.2.1, h.2.2.1, fun q => ⟨(h.2.2.2.1 q).1, fun a b c ha hb hP hta htb hc => (h.2.2.2.1 q).2 a b c ha hb (hp a b c ha hb hta htb hc hP) hta htb hc⟩, h.2.2.2.2⟩
def UPQ (m : AM) (t : Nat) : APost := fun z u => z = none ∧ (∀ k, k ≠ 57 → u k = m k) ∧ isM (gF m) (gC m) t (fun b => (u 57 b).toInt)
theorem w_ups_in (m : AM) (nd t : Nat) (hG : GW m nd) (ht : t < 4096) (m0 : AM) (d : Nat) (hd : d < nd)
    (kk : ∀ u ch, UPI m nd t m0 u ch (fun a _ => a < d + 1) → AW 1 kX6_ups (UPQ m t) 177 [some (.inr 34), some (.inl (nI t)), some (.inl (b01 ch)), some (.inl (nI d)), none, none] [] u) :
    ∀ (n j : Nat) (u : AM) (ch : Bool), j + n = nd → UPI m nd t m0 u ch (fun a b => a < d ∨ (a = d ∧ b < j)) → AW 1 kX6_ups (UPQ m t) 49 [some (.inr 34), some (.inl (nI t)), some (.inl (b01 ch)), some (.inl (nI d)), some (.inl (nI j)), none] [] u
  | 0, j, u, ch, h, hI => by
    obtain rfl : j = nd := by omega
    have hnd := hG.1
    have hn : u 34 6 = nI j := by rw [hI.1 34 (by omega)]; exact hG.2.1
    refine st_X6_ups_49 ?_; simp only [bX6_ups_49, exP, stP, p1, p2, pr, pobj, parr, sh0, sh1, sh2, sh3, sh4, sh5, sh6, sh7, sh8, sh9, sh10, sh11, sh12, sh13, sh14, sh15, sh16, sh17, sh18, sh19, sh20, sh21, sh22, sh23, sh24, sh25, sh26, sh27, sh28, sh29, sh30, sh31, sh32, sh33, sh34, sh35, sh36, sh37, sh38, sh39, sh40, sh41, sh42, sh43, sh44, sh45, sh46, sh47, sh48, sh49, sh50, sh51, sh52, sh53, sh54, sh55, sh56, sh57, sh58, sh59, brP, brN, swP, amask, apush, List.getElem?_cons_zero, List.getElem?_cons_succ, List.set_cons_zero, List.set_cons_succ, List.take_succ_cons, List.take_zero, List.drop_succ_cons, List.drop_zero, List.reverse_cons, List.reverse_nil, List.nil_append, List.cons_append, List.length_cons, List.length_nil, true_and, and_true, Nat.zero_le, Nat.reduceLeDiff, Nat.reduceAdd, Nat.reduceEqDiff, false_imp_iff, true_imp_iff, not_false_eq_true, not_true_eq_false, imp_self, forall_const, hn, eq_true (nI_le (Nat.le_refl j) (show j < 2 ^ 31 by omega))]
    exact kk u ch (hI.P (fun a b c ha hb _ _ _ q => by omega))
  | n + 1, j, u, ch, h, hI => by
    have hnd := hG.1
    have hj : j < nd := by omega
    have hn : u 34 6 = nI nd := by rw [hI.1 34 (by omega)]; exact hG.2.1
    have hw2 : u 34 2 = m 34 2 := by rw [hI.1 34 (by omega)]
    have vj := eq_true (vp_in_nI (show j < 12 by omega) (show 12 < 2 ^ 31 by omega))
    have cj := nI_clamp (show j < 2 ^ 31 by omega)
    have vd := eq_true (vp_in_nI (show d < 12 by omega) (show 12 < 2 ^ 31 by omega))
    have cd := nI_clamp (show d < 2 ^ 31 by omega)
    have vx := eq_true (vp_in_nI (show 12 * d + j < 144 by omega) (show 144 < 2 ^ 31 by omega))
    have cx := nI_clamp (show 12 * d + j < 2 ^ 31 by omega)
    have hc0 := GW_c hG
    have back : ∀ (u' : AM) (ch' : Bool), UPI m nd t m0 u' ch' (fun a b => a < d ∨ (a = d ∧ b < j + 1)) → AW 1 kX6_ups (UPQ m t) 171 [some (.inr 34), some (.inl (nI t)), some (.inl (b01 ch')), some (.inl (nI d)), some (.inl (nI j)), none] [] u' := by
      intro u' ch' hI'
      refine st_X6_ups_171 ?_; simp only [bX6_ups_171, exP, stP, p1, p2, pr, pobj, parr, sh0, sh1, sh2, sh3, sh4, sh5, sh6, sh7, sh8, sh9, sh10, sh11, sh12, sh13, sh14, sh15, sh16, sh17, sh18, sh19, sh20, sh21, sh22, sh23, sh24, sh25, sh26, sh27, sh28, sh29, sh30, sh31, sh32, sh33, sh34, sh35, sh36, sh37, sh38, sh39, sh40, sh41, sh42, sh43, sh44, sh45, sh46, sh47, sh48, sh49, sh50, sh51, sh52, sh53, sh54, sh55, sh56, sh57, sh58, sh59, brP, brN, swP, amask, apush, List.getElem?_cons_zero, List.getElem?_cons_succ, List.set_cons_zero, List.set_cons_succ, List.take_succ_cons, List.take_zero, List.drop_succ_cons, List.drop_zero, List.reverse_cons, List.reverse_nil, List.nil_append, List.cons_append, List.length_cons, List.length_nil, true_and, and_true, Nat.zero_le, Nat.reduceLeDiff, Nat.reduceAdd, Nat.reduceEqDiff, false_imp_iff, true_imp_iff, not_false_eq_true, not_true_eq_false, imp_self, forall_const]
      rw [nI_1]
      exact w_ups_in m nd t hG ht m0 d hd kk n (j + 1) u' ch' (by omega) hI'
    have skip : (∀ c, t.testBit d = true → t.testBit j = true → gC m d j = some c → False) → AW 1 kX6_ups (UPQ m t) 171 [some (.inr 34), some (.inl (nI t)), some (.inl (b01 ch)), some (.inl (nI d)), some (.inl (nI j)), none] [] u := by
      intro hno
      refine back u ch (hI.P (fun a b c ha hb hta htb hc q => ?_))
      by_cases r : a = d ∧ b = j
      · obtain ⟨rfl, rfl⟩ := r
        exact absurd (hno c hta htb hc) id
      · omega
    have fin : ∀ (lim : Int32) (c : Int), t.testBit d = true → t.testBit j = true → gC m d j = some c → lim.toInt = (u 57 j).toInt - c → AW 1 kX6_ups (UPQ m t) 145 [some (.inr 34), some (.inl (nI t)), some (.inl (b01 ch)), some (.inl (nI d)), some (.inl (nI j)), none] [.inl lim] u := by
      intro lim cc hta htj hcc e1
      have hcc0 := hc0 d j cc hcc
      obtain ⟨h1, h2, h3, h4, h5⟩ := hI
      have hjj := h2 j hj
      have hdd := h2 d hd
      refine st_X6_ups_145 ?_; simp only [bX6_ups_145, exP, stP, p1, p2, pr, pobj, parr, sh0, sh1, sh2, sh3, sh4, sh5, sh6, sh7, sh8, sh9, sh10, sh11, sh12, sh13, sh14, sh15, sh16, sh17, sh18, sh19, sh20, sh21, sh22, sh23, sh24, sh25, sh26, sh27, sh28, sh29, sh30, sh31, sh32, sh33, sh34, sh35, sh36, sh37, sh38, sh39, sh40, sh41, sh42, sh43, sh44, sh45, sh46, sh47, sh48, sh49, sh50, sh51, sh52, sh53, sh54, sh55, sh56, sh57, sh58, sh59, brP, brN, swP, amask, apush, List.getElem?_cons_zero, List.getElem?_cons_succ, List.set_cons_zero, List.set_cons_succ, List.take_succ_cons, List.take_zero, List.drop_succ_cons, List.drop_zero, List.reverse_cons, List.reverse_nil, List.nil_append, List.cons_append, List.length_cons, List.length_nil, true_and, and_true, Nat.zero_le, Nat.reduceLeDiff, Nat.reduceAdd, Nat.reduceEqDiff, false_imp_iff, true_imp_iff, not_false_eq_true, not_true_eq_false, imp_self, forall_const, vd, cd]
      refine ⟨fun c3 => ?_, fun c3 => ?_⟩
      · rw [Int32.lt_iff_toInt_lt] at c3
        refine st_X6_ups_161 ?_; simp only [bX6_ups_161, exP, stP, p1, p2, pr, pobj, parr, sh0, sh1, sh2, sh3, sh4, sh5, sh6, sh7, sh8, sh9, sh10, sh11, sh12, sh13, sh14, sh15, sh16, sh17, sh18, sh19, sh20, sh21, sh22, sh23, sh24, sh25, sh26, sh27, sh28, sh29, sh30, sh31, sh32, sh33, sh34, sh35, sh36, sh37, sh38, sh39, sh40, sh41, sh42, sh43, sh44, sh45, sh46, sh47, sh48, sh49, sh50, sh51, sh52, sh53, sh54, sh55, sh56, sh57, sh58, sh59, brP, brN, swP, amask, apush, List.getElem?_cons_zero, List.getElem?_cons_succ, List.set_cons_zero, List.set_cons_succ, List.take_succ_cons, List.take_zero, List.drop_succ_cons, List.drop_zero, List.reverse_cons, List.reverse_nil, List.nil_append, List.cons_append, List.length_cons, List.length_nil, true_and, and_true, Nat.zero_le, Nat.reduceLeDiff, Nat.reduceAdd, Nat.reduceEqDiff, false_imp_iff, true_imp_iff, not_false_eq_true, not_true_eq_false, imp_self, forall_const, vd, cd]
        refine back _ true ⟨fun k hk => ?_, fun b hb => ?_, fun y hy hyc b hb htb => ?_, fun q => absurd q (by decide), fun _ => ⟨d, hd, ?_⟩⟩
        · rw [aup_ne hk]; exact h1 k hk
        · rw [aup_eq]
          by_cases r : b = d
          · subst r; rw [upd_eq]; omega
          · rw [upd_ne r]; exact h2 b hb
        · rw [aup_eq]
          by_cases r : b = d
          · subst r
            rw [upd_eq]
            have := h3 y hy hyc j (by omega) htj
            have := hyc b j cc hb (by omega) htb htj hcc
            omega
          · rw [upd_ne r]; exact h3 y hy hyc b hb htb
        · rw [aup_eq, upd_eq]; omega
      · rw [Int32.lt_iff_toInt_lt] at c3
        refine st_X6_ups_158 ?_; simp only [bX6_ups_158, exP, stP, p1, p2, pr, pobj, parr, sh0, sh1, sh2, sh3, sh4, sh5, sh6, sh7, sh8, sh9, sh10, sh11, sh12, sh13, sh14, sh15, sh16, sh17, sh18, sh19, sh20, sh21, sh22, sh23, sh24, sh25, sh26, sh27, sh28, sh29, sh30, sh31, sh32, sh33, sh34, sh35, sh36, sh37, sh38, sh39, sh40, sh41, sh42, sh43, sh44, sh45, sh46, sh47, sh48, sh49, sh50, sh51, sh52, sh53, sh54, sh55, sh56, sh57, sh58, sh59, brP, brN, swP, amask, apush, List.getElem?_cons_zero, List.getElem?_cons_succ, List.set_cons_zero, List.set_cons_succ, List.take_succ_cons, List.take_zero, List.drop_succ_cons, List.drop_zero, List.reverse_cons, List.reverse_nil, List.nil_append, List.cons_append, List.length_cons, List.length_nil, true_and, and_true, Nat.zero_le, Nat.reduceLeDiff, Nat.reduceAdd, Nat.reduceEqDiff, false_imp_iff, true_imp_iff, not_false_eq_true, not_true_eq_false, imp_self, forall_const]
        refine back u ch ⟨h1, h2, h3, fun q => ⟨(h4 q).1, fun a b c' ha hb hp hat hbt hc' => ?_⟩, h5⟩
        by_cases r : a = d ∧ b = j
        · obtain ⟨rfl, rfl⟩ := r
          rw [hcc] at hc'
          cases hc'
          rw [(h4 q).1 a ha] at c3
          rw [(h4 q).1 b hb] at e1
          omega
        · exact (h4 q).2 a b c' ha hb (by omega) hat hbt hc'
    refine st_X6_ups_49 ?_; simp only [bX6_ups_49, exP, stP, p1, p2, pr, pobj, parr, sh0, sh1, sh2, sh3, sh4, sh5, sh6, sh7, sh8, sh9, sh10, sh11, sh12, sh13, sh14, sh15, sh16, sh17, sh18, sh19, sh20, sh21, sh22, sh23, sh24, sh25, sh26, sh27, sh28, sh29, sh30, sh31, sh32, sh33, sh34, sh35, sh36, sh37, sh38, sh39, sh40, sh41, sh42, sh43, sh44, sh45, sh46, sh47, sh48, sh49, sh50, sh51, sh52, sh53, sh54, sh55, sh56, sh57, sh58, sh59, brP, brN, swP, amask, apush, List.getElem?_cons_zero, List.getElem?_cons_succ, List.set_cons_zero, List.set_cons_succ, List.take_succ_cons, List.take_zero, List.drop_succ_cons, List.drop_zero, List.reverse_cons, List.reverse_nil, List.nil_append, List.cons_append, List.length_cons, List.length_nil, true_and, and_true, Nat.zero_le, Nat.reduceLeDiff, Nat.reduceAdd, Nat.reduceEqDiff, false_imp_iff, true_imp_iff, not_false_eq_true, not_true_eq_false, imp_self, forall_const, hn, eq_false (nI_ge (show j < nd by omega) (show nd < 2 ^ 31 by omega))]
    refine st_X6_ups_58 ?_; simp only [bX6_ups_58, exP, stP, p1, p2, pr, pobj, parr, sh0, sh1, sh2, sh3, sh4, sh5, sh6, sh7, sh8, sh9, sh10, sh11, sh12, sh13, sh14, sh15, sh16, sh17, sh18, sh19, sh20, sh21, sh22, sh23, sh24, sh25, sh26, sh27, sh28, sh29, sh30, sh31, sh32, sh33, sh34, sh35, sh36, sh37, sh38, sh39, sh40, sh41, sh42, sh43, sh44, sh45, sh46, sh47, sh48, sh49, sh50, sh51, sh52, sh53, sh54, sh55, sh56, sh57, sh58, sh59, brP, brN, swP, amask, apush, List.getElem?_cons_zero, List.getElem?_cons_succ, List.set_cons_zero, List.set_cons_succ, List.take_succ_cons, List.take_zero, List.drop_succ_cons, List.drop_zero, List.reverse_cons, List.reverse_nil, List.nil_append, List.cons_append, List.length_cons, List.length_nil, true_and, and_true, Nat.zero_le, Nat.reduceLeDiff, Nat.reduceAdd, Nat.reduceEqDiff, false_imp_iff, true_imp_iff, not_false_eq_true, not_true_eq_false, imp_self, forall_const, nI_inj (show d < 2147483648 by omega) (show j < 2147483648 by omega)]
    refine ⟨fun c => skip (fun cc _ _ hc => ?_), fun c => ?_⟩
    · subst c
      unfold gC at hc
      rw [if_pos rfl] at hc
      cases hc
    refine st_X6_ups_64 ?_; simp only [bX6_ups_64, exP, stP, p1, p2, pr, pobj, parr, sh0, sh1, sh2, sh3, sh4, sh5, sh6, sh7, sh8, sh9, sh10, sh11, sh12, sh13, sh14, sh15, sh16, sh17, sh18, sh19, sh20, sh21, sh22, sh23, sh24, sh25, sh26, sh27, sh28, sh29, sh30, sh31, sh32, sh33, sh34, sh35, sh36, sh37, sh38, sh39, sh40, sh41, sh42, sh43, sh44, sh45, sh46, sh47, sh48, sh49, sh50, sh51, sh52, sh53, sh54, sh55, sh56, sh57, sh58, sh59, brP, brN, swP, amask, apush, List.getElem?_cons_zero, List.getElem?_cons_succ, List.set_cons_zero, List.set_cons_succ, List.take_succ_cons, List.take_zero, List.drop_succ_cons, List.drop_zero, List.reverse_cons, List.reverse_nil, List.nil_append, List.cons_append, List.length_cons, List.length_nil, true_and, and_true, Nat.zero_le, Nat.reduceLeDiff, Nat.reduceAdd, Nat.reduceEqDiff, false_imp_iff, true_imp_iff, not_false_eq_true, not_true_eq_false, imp_self, forall_const]
    refine ⟨_, ⟨0, by decide, c_mhas _ _ d (by omega)⟩, ?_⟩; rintro _ _ ⟨rfl, rfl⟩; simp only [exP, stP, p1, p2, pr, pobj, parr, sh0, sh1, sh2, sh3, sh4, sh5, sh6, sh7, sh8, sh9, sh10, sh11, sh12, sh13, sh14, sh15, sh16, sh17, sh18, sh19, sh20, sh21, sh22, sh23, sh24, sh25, sh26, sh27, sh28, sh29, sh30, sh31, sh32, sh33, sh34, sh35, sh36, sh37, sh38, sh39, sh40, sh41, sh42, sh43, sh44, sh45, sh46, sh47, sh48, sh49, sh50, sh51, sh52, sh53, sh54, sh55, sh56, sh57, sh58, sh59, brP, brN, swP, amask, apush, List.getElem?_cons_zero, List.getElem?_cons_succ, List.set_cons_zero, List.set_cons_succ, List.take_succ_cons, List.take_zero, List.drop_succ_cons, List.drop_zero, List.reverse_cons, List.reverse_nil, List.nil_append, List.cons_append, List.length_cons, List.length_nil, true_and, and_true, Nat.zero_le, Nat.reduceLeDiff, Nat.reduceAdd, Nat.reduceEqDiff, false_imp_iff, true_imp_iff, not_false_eq_true, not_true_eq_false, imp_self, forall_const, b01_0, bt_nI (show t < 4294967296 by omega)]
    refine ⟨fun c1 => skip (fun cc q _ _ => by rw [c1] at q; cases q), fun c1 => ?_⟩
    have c1' : t.testBit d = true := by simpa using c1
    refine st_X6_ups_72 ?_; simp only [bX6_ups_72, exP, stP, p1, p2, pr, pobj, parr, sh0, sh1, sh2, sh3, sh4, sh5, sh6, sh7, sh8, sh9, sh10, sh11, sh12, sh13, sh14, sh15, sh16, sh17, sh18, sh19, sh20, sh21, sh22, sh23, sh24, sh25, sh26, sh27, sh28, sh29, sh30, sh31, sh32, sh33, sh34, sh35, sh36, sh37, sh38, sh39, sh40, sh41, sh42, sh43, sh44, sh45, sh46, sh47, sh48, sh49, sh50, sh51, sh52, sh53, sh54, sh55, sh56, sh57, sh58, sh59, brP, brN, swP, amask, apush, List.getElem?_cons_zero, List.getElem?_cons_succ, List.set_cons_zero, List.set_cons_succ, List.take_succ_cons, List.take_zero, List.drop_succ_cons, List.drop_zero, List.reverse_cons, List.reverse_nil, List.nil_append, List.cons_append, List.length_cons, List.length_nil, true_and, and_true, Nat.zero_le, Nat.reduceLeDiff, Nat.reduceAdd, Nat.reduceEqDiff, false_imp_iff, true_imp_iff, not_false_eq_true, not_true_eq_false, imp_self, forall_const]
    refine ⟨_, ⟨0, by decide, c_mhas _ _ j (by omega)⟩, ?_⟩; rintro _ _ ⟨rfl, rfl⟩; simp only [exP, stP, p1, p2, pr, pobj, parr, sh0, sh1, sh2, sh3, sh4, sh5, sh6, sh7, sh8, sh9, sh10, sh11, sh12, sh13, sh14, sh15, sh16, sh17, sh18, sh19, sh20, sh21, sh22, sh23, sh24, sh25, sh26, sh27, sh28, sh29, sh30, sh31, sh32, sh33, sh34, sh35, sh36, sh37, sh38, sh39, sh40, sh41, sh42, sh43, sh44, sh45, sh46, sh47, sh48, sh49, sh50, sh51, sh52, sh53, sh54, sh55, sh56, sh57, sh58, sh59, brP, brN, swP, amask, apush, List.getElem?_cons_zero, List.getElem?_cons_succ, List.set_cons_zero, List.set_cons_succ, List.take_succ_cons, List.take_zero, List.drop_succ_cons, List.drop_zero, List.reverse_cons, List.reverse_nil, List.nil_append, List.cons_append, List.length_cons, List.length_nil, true_and, and_true, Nat.zero_le, Nat.reduceLeDiff, Nat.reduceAdd, Nat.reduceEqDiff, false_imp_iff, true_imp_iff, not_false_eq_true, not_true_eq_false, imp_self, forall_const, b01_0, bt_nI (show t < 4294967296 by omega)]
    refine ⟨fun c2 => ?_, fun c2 => ?_⟩
    · have c2' : t.testBit j = true := by simpa using c2
      have u56 : u 56 (12 * d + j) = m 56 (12 * d + j) := by rw [hI.1 56 (by omega)]
      have u55 : u 55 (12 * d + j) = m 55 (12 * d + j) := by rw [hI.1 55 (by omega)]
      refine st_X6_ups_84 ?_; simp only [bX6_ups_84, exP, stP, p1, p2, pr, pobj, parr, sh0, sh1, sh2, sh3, sh4, sh5, sh6, sh7, sh8, sh9, sh10, sh11, sh12, sh13, sh14, sh15, sh16, sh17, sh18, sh19, sh20, sh21, sh22, sh23, sh24, sh25, sh26, sh27, sh28, sh29, sh30, sh31, sh32, sh33, sh34, sh35, sh36, sh37, sh38, sh39, sh40, sh41, sh42, sh43, sh44, sh45, sh46, sh47, sh48, sh49, sh50, sh51, sh52, sh53, sh54, sh55, sh56, sh57, sh58, sh59, brP, brN, swP, amask, apush, List.getElem?_cons_zero, List.getElem?_cons_succ, List.set_cons_zero, List.set_cons_succ, List.take_succ_cons, List.take_zero, List.drop_succ_cons, List.drop_zero, List.reverse_cons, List.reverse_nil, List.nil_append, List.cons_append, List.length_cons, List.length_nil, true_and, and_true, Nat.zero_le, Nat.reduceLeDiff, Nat.reduceAdd, Nat.reduceEqDiff, false_imp_iff, true_imp_iff, not_false_eq_true, not_true_eq_false, imp_self, forall_const, nI_12, vx, cx, true_or, or_true]
      rw [u56]
      refine ⟨fun c3 => ?_, fun c3 => ?_⟩
      · refine st_X6_ups_109 ?_; simp only [bX6_ups_109, exP, stP, p1, p2, pr, pobj, parr, sh0, sh1, sh2, sh3, sh4, sh5, sh6, sh7, sh8, sh9, sh10, sh11, sh12, sh13, sh14, sh15, sh16, sh17, sh18, sh19, sh20, sh21, sh22, sh23, sh24, sh25, sh26, sh27, sh28, sh29, sh30, sh31, sh32, sh33, sh34, sh35, sh36, sh37, sh38, sh39, sh40, sh41, sh42, sh43, sh44, sh45, sh46, sh47, sh48, sh49, sh50, sh51, sh52, sh53, sh54, sh55, sh56, sh57, sh58, sh59, brP, brN, swP, amask, apush, List.getElem?_cons_zero, List.getElem?_cons_succ, List.set_cons_zero, List.set_cons_succ, List.take_succ_cons, List.take_zero, List.drop_succ_cons, List.drop_zero, List.reverse_cons, List.reverse_nil, List.nil_append, List.cons_append, List.length_cons, List.length_nil, true_and, and_true, Nat.zero_le, Nat.reduceLeDiff, Nat.reduceAdd, Nat.reduceEqDiff, false_imp_iff, true_imp_iff, not_false_eq_true, not_true_eq_false, imp_self, forall_const, nI_12, vx, cx, true_or, or_true]
        rw [u55]
        refine ⟨fun c4 => ?_, fun c4 => ?_⟩
        · refine st_X6_ups_139 ?_; simp only [bX6_ups_139, exP, stP, p1, p2, pr, pobj, parr, sh0, sh1, sh2, sh3, sh4, sh5, sh6, sh7, sh8, sh9, sh10, sh11, sh12, sh13, sh14, sh15, sh16, sh17, sh18, sh19, sh20, sh21, sh22, sh23, sh24, sh25, sh26, sh27, sh28, sh29, sh30, sh31, sh32, sh33, sh34, sh35, sh36, sh37, sh38, sh39, sh40, sh41, sh42, sh43, sh44, sh45, sh46, sh47, sh48, sh49, sh50, sh51, sh52, sh53, sh54, sh55, sh56, sh57, sh58, sh59, brP, brN, swP, amask, apush, List.getElem?_cons_zero, List.getElem?_cons_succ, List.set_cons_zero, List.set_cons_succ, List.take_succ_cons, List.take_zero, List.drop_succ_cons, List.drop_zero, List.reverse_cons, List.reverse_nil, List.nil_append, List.cons_append, List.length_cons, List.length_nil, true_and, and_true, Nat.zero_le, Nat.reduceLeDiff, Nat.reduceAdd, Nat.reduceEqDiff, false_imp_iff, true_imp_iff, not_false_eq_true, not_true_eq_false, imp_self, forall_const, vd, cd]
          refine st_X6_ups_145 ?_; simp only [bX6_ups_145, exP, stP, p1, p2, pr, pobj, parr, sh0, sh1, sh2, sh3, sh4, sh5, sh6, sh7, sh8, sh9, sh10, sh11, sh12, sh13, sh14, sh15, sh16, sh17, sh18, sh19, sh20, sh21, sh22, sh23, sh24, sh25, sh26, sh27, sh28, sh29, sh30, sh31, sh32, sh33, sh34, sh35, sh36, sh37, sh38, sh39, sh40, sh41, sh42, sh43, sh44, sh45, sh46, sh47, sh48, sh49, sh50, sh51, sh52, sh53, sh54, sh55, sh56, sh57, sh58, sh59, brP, brN, swP, amask, apush, List.getElem?_cons_zero, List.getElem?_cons_succ, List.set_cons_zero, List.set_cons_succ, List.take_succ_cons, List.take_zero, List.drop_succ_cons, List.drop_zero, List.reverse_cons, List.reverse_nil, List.nil_append, List.cons_append, List.length_cons, List.length_nil, true_and, and_true, Nat.zero_le, Nat.reduceLeDiff, Nat.reduceAdd, Nat.reduceEqDiff, false_imp_iff, true_imp_iff, not_false_eq_true, not_true_eq_false, imp_self, forall_const, vd, cd]
          refine ⟨fun c5 => absurd c5 (by rw [Int32.lt_iff_toInt_lt]; omega), fun c5 => ?_⟩
          refine st_X6_ups_158 ?_; simp only [bX6_ups_158, exP, stP, p1, p2, pr, pobj, parr, sh0, sh1, sh2, sh3, sh4, sh5, sh6, sh7, sh8, sh9, sh10, sh11, sh12, sh13, sh14, sh15, sh16, sh17, sh18, sh19, sh20, sh21, sh22, sh23, sh24, sh25, sh26, sh27, sh28, sh29, sh30, sh31, sh32, sh33, sh34, sh35, sh36, sh37, sh38, sh39, sh40, sh41, sh42, sh43, sh44, sh45, sh46, sh47, sh48, sh49, sh50, sh51, sh52, sh53, sh54, sh55, sh56, sh57, sh58, sh59, brP, brN, swP, amask, apush, List.getElem?_cons_zero, List.getElem?_cons_succ, List.set_cons_zero, List.set_cons_succ, List.take_succ_cons, List.take_zero, List.drop_succ_cons, List.drop_zero, List.reverse_cons, List.reverse_nil, List.nil_append, List.cons_append, List.length_cons, List.length_nil, true_and, and_true, Nat.zero_le, Nat.reduceLeDiff, Nat.reduceAdd, Nat.reduceEqDiff, false_imp_iff, true_imp_iff, not_false_eq_true, not_true_eq_false, imp_self, forall_const]
          refine skip (fun cc _ _ hc => ?_)
          unfold gC at hc
          rw [if_neg c, if_pos c3, if_pos c4] at hc
          cases hc
        · refine st_X6_ups_124 ?_; simp only [bX6_ups_124, exP, stP, p1, p2, pr, pobj, parr, sh0, sh1, sh2, sh3, sh4, sh5, sh6, sh7, sh8, sh9, sh10, sh11, sh12, sh13, sh14, sh15, sh16, sh17, sh18, sh19, sh20, sh21, sh22, sh23, sh24, sh25, sh26, sh27, sh28, sh29, sh30, sh31, sh32, sh33, sh34, sh35, sh36, sh37, sh38, sh39, sh40, sh41, sh42, sh43, sh44, sh45, sh46, sh47, sh48, sh49, sh50, sh51, sh52, sh53, sh54, sh55, sh56, sh57, sh58, sh59, brP, brN, swP, amask, apush, List.getElem?_cons_zero, List.getElem?_cons_succ, List.set_cons_zero, List.set_cons_succ, List.take_succ_cons, List.take_zero, List.drop_succ_cons, List.drop_zero, List.reverse_cons, List.reverse_nil, List.nil_append, List.cons_append, List.length_cons, List.length_nil, true_and, and_true, Nat.zero_le, Nat.reduceLeDiff, Nat.reduceAdd, Nat.reduceEqDiff, false_imp_iff, true_imp_iff, not_false_eq_true, not_true_eq_false, imp_self, forall_const, vj, cj]
          have hjj := hI.2.1 j hj
          have hF := hG.2.2.1 j hj
          have hw := hG.2.2.2.1
          refine fin _ (m 34 2).toInt c1' c2' (by unfold gC; rw [if_neg c, if_pos c3, if_neg c4]) ?_
          rw [hw2, i32_sub (by omega) (by omega)]
      · refine st_X6_ups_99 ?_; simp only [bX6_ups_99, exP, stP, p1, p2, pr, pobj, parr, sh0, sh1, sh2, sh3, sh4, sh5, sh6, sh7, sh8, sh9, sh10, sh11, sh12, sh13, sh14, sh15, sh16, sh17, sh18, sh19, sh20, sh21, sh22, sh23, sh24, sh25, sh26, sh27, sh28, sh29, sh30, sh31, sh32, sh33, sh34, sh35, sh36, sh37, sh38, sh39, sh40, sh41, sh42, sh43, sh44, sh45, sh46, sh47, sh48, sh49, sh50, sh51, sh52, sh53, sh54, sh55, sh56, sh57, sh58, sh59, brP, brN, swP, amask, apush, List.getElem?_cons_zero, List.getElem?_cons_succ, List.set_cons_zero, List.set_cons_succ, List.take_succ_cons, List.take_zero, List.drop_succ_cons, List.drop_zero, List.reverse_cons, List.reverse_nil, List.nil_append, List.cons_append, List.length_cons, List.length_nil, true_and, and_true, Nat.zero_le, Nat.reduceLeDiff, Nat.reduceAdd, Nat.reduceEqDiff, false_imp_iff, true_imp_iff, not_false_eq_true, not_true_eq_false, imp_self, forall_const, vj, cj]
        exact fin _ 0 c1' c2' (by unfold gC; rw [if_neg c, if_neg c3]) (by omega)
    · refine st_X6_ups_81 ?_; simp only [bX6_ups_81, exP, stP, p1, p2, pr, pobj, parr, sh0, sh1, sh2, sh3, sh4, sh5, sh6, sh7, sh8, sh9, sh10, sh11, sh12, sh13, sh14, sh15, sh16, sh17, sh18, sh19, sh20, sh21, sh22, sh23, sh24, sh25, sh26, sh27, sh28, sh29, sh30, sh31, sh32, sh33, sh34, sh35, sh36, sh37, sh38, sh39, sh40, sh41, sh42, sh43, sh44, sh45, sh46, sh47, sh48, sh49, sh50, sh51, sh52, sh53, sh54, sh55, sh56, sh57, sh58, sh59, brP, brN, swP, amask, apush, List.getElem?_cons_zero, List.getElem?_cons_succ, List.set_cons_zero, List.set_cons_succ, List.take_succ_cons, List.take_zero, List.drop_succ_cons, List.drop_zero, List.reverse_cons, List.reverse_nil, List.nil_append, List.cons_append, List.length_cons, List.length_nil, true_and, and_true, Nat.zero_le, Nat.reduceLeDiff, Nat.reduceAdd, Nat.reduceEqDiff, false_imp_iff, true_imp_iff, not_false_eq_true, not_true_eq_false, imp_self, forall_const]
      exact skip (fun cc _ q _ => by rw [c2] at q; cases q)
theorem w_ups_out (m : AM) (nd t : Nat) (hG : GW m nd) (ht : t < 4096) (m0 : AM)
    (kk : ∀ u ch, UPI m nd t m0 u ch (fun _ _ => True) → AW 1 kX6_ups (UPQ m t) 183 [some (.inr 34), some (.inl (nI t)), some (.inl (b01 ch)), none, none, none] [] u) :
    ∀ (n d : Nat) (u : AM) (ch : Bool), d + n = nd → UPI m nd t m0 u ch (fun a _ => a < d) → AW 1 kX6_ups (UPQ m t) 38 [some (.inr 34), some (.inl (nI t)), some (.inl (b01 ch)), some (.inl (nI d)), none, none] [] u
  | 0, d, u, ch, h, hI => by
    obtain rfl : d = nd := by omega
    have hnd := hG.1
    have hn : u 34 6 = nI d := by rw [hI.1 34 (by omega)]; exact hG.2.1
    refine st_X6_ups_38 ?_; simp only [bX6_ups_38, exP, stP, p1, p2, pr, pobj, parr, sh0, sh1, sh2, sh3, sh4, sh5, sh6, sh7, sh8, sh9, sh10, sh11, sh12, sh13, sh14, sh15, sh16, sh17, sh18, sh19, sh20, sh21, sh22, sh23, sh24, sh25, sh26, sh27, sh28, sh29, sh30, sh31, sh32, sh33, sh34, sh35, sh36, sh37, sh38, sh39, sh40, sh41, sh42, sh43, sh44, sh45, sh46, sh47, sh48, sh49, sh50, sh51, sh52, sh53, sh54, sh55, sh56, sh57, sh58, sh59, brP, brN, swP, amask, apush, List.getElem?_cons_zero, List.getElem?_cons_succ, List.set_cons_zero, List.set_cons_succ, List.take_succ_cons, List.take_zero, List.drop_succ_cons, List.drop_zero, List.reverse_cons, List.reverse_nil, List.nil_append, List.cons_append, List.length_cons, List.length_nil, true_and, and_true, Nat.zero_le, Nat.reduceLeDiff, Nat.reduceAdd, Nat.reduceEqDiff, false_imp_iff, true_imp_iff, not_false_eq_true, not_true_eq_false, imp_self, forall_const, hn, eq_true (nI_le (Nat.le_refl d) (show d < 2 ^ 31 by omega))]
    exact kk u ch (hI.P (fun a b c ha hb _ _ _ q => ha))
  | n + 1, d, u, ch, h, hI => by
    have hnd := hG.1
    have hn : u 34 6 = nI nd := by rw [hI.1 34 (by omega)]; exact hG.2.1
    refine st_X6_ups_38 ?_; simp only [bX6_ups_38, exP, stP, p1, p2, pr, pobj, parr, sh0, sh1, sh2, sh3, sh4, sh5, sh6, sh7, sh8, sh9, sh10, sh11, sh12, sh13, sh14, sh15, sh16, sh17, sh18, sh19, sh20, sh21, sh22, sh23, sh24, sh25, sh26, sh27, sh28, sh29, sh30, sh31, sh32, sh33, sh34, sh35, sh36, sh37, sh38, sh39, sh40, sh41, sh42, sh43, sh44, sh45, sh46, sh47, sh48, sh49, sh50, sh51, sh52, sh53, sh54, sh55, sh56, sh57, sh58, sh59, brP, brN, swP, amask, apush, List.getElem?_cons_zero, List.getElem?_cons_succ, List.set_cons_zero, List.set_cons_succ, List.take_succ_cons, List.take_zero, List.drop_succ_cons, List.drop_zero, List.reverse_cons, List.reverse_nil, List.nil_append, List.cons_append, List.length_cons, List.length_nil, true_and, and_true, Nat.zero_le, Nat.reduceLeDiff, Nat.reduceAdd, Nat.reduceEqDiff, false_imp_iff, true_imp_iff, not_false_eq_true, not_true_eq_false, imp_self, forall_const, hn, eq_false (nI_ge (show d < nd by omega) (show nd < 2 ^ 31 by omega))]
    refine st_X6_ups_46 ?_; simp only [bX6_ups_46, exP, stP, p1, p2, pr, pobj, parr, sh0, sh1, sh2, sh3, sh4, sh5, sh6, sh7, sh8, sh9, sh10, sh11, sh12, sh13, sh14, sh15, sh16, sh17, sh18, sh19, sh20, sh21, sh22, sh23, sh24, sh25, sh26, sh27, sh28, sh29, sh30, sh31, sh32, sh33, sh34, sh35, sh36, sh37, sh38, sh39, sh40, sh41, sh42, sh43, sh44, sh45, sh46, sh47, sh48, sh49, sh50, sh51, sh52, sh53, sh54, sh55, sh56, sh57, sh58, sh59, brP, brN, swP, amask, apush, List.getElem?_cons_zero, List.getElem?_cons_succ, List.set_cons_zero, List.set_cons_succ, List.take_succ_cons, List.take_zero, List.drop_succ_cons, List.drop_zero, List.reverse_cons, List.reverse_nil, List.nil_append, List.cons_append, List.length_cons, List.length_nil, true_and, and_true, Nat.zero_le, Nat.reduceLeDiff, Nat.reduceAdd, Nat.reduceEqDiff, false_imp_iff, true_imp_iff, not_false_eq_true, not_true_eq_false, imp_self, forall_const]
    refine w_ups_in m nd t hG ht m0 d (by omega) (fun u ch hI => ?_) nd 0 u ch (by omega) (hI.P (fun a b c ha hb _ _ _ q => by omega))
    refine st_X6_ups_177 ?_; simp only [bX6_ups_177, exP, stP, p1, p2, pr, pobj, parr, sh0, sh1, sh2, sh3, sh4, sh5, sh6, sh7, sh8, sh9, sh10, sh11, sh12, sh13, sh14, sh15, sh16, sh17, sh18, sh19, sh20, sh21, sh22, sh23, sh24, sh25, sh26, sh27, sh28, sh29, sh30, sh31, sh32, sh33, sh34, sh35, sh36, sh37, sh38, sh39, sh40, sh41, sh42, sh43, sh44, sh45, sh46, sh47, sh48, sh49, sh50, sh51, sh52, sh53, sh54, sh55, sh56, sh57, sh58, sh59, brP, brN, swP, amask, apush, List.getElem?_cons_zero, List.getElem?_cons_succ, List.set_cons_zero, List.set_cons_succ, List.take_succ_cons, List.take_zero, List.drop_succ_cons, List.drop_zero, List.reverse_cons, List.reverse_nil, List.nil_append, List.cons_append, List.length_cons, List.length_nil, true_and, and_true, Nat.zero_le, Nat.reduceLeDiff, Nat.reduceAdd, Nat.reduceEqDiff, false_imp_iff, true_imp_iff, not_false_eq_true, not_true_eq_false, imp_self, forall_const]
    rw [nI_1]
    exact w_ups_out m nd t hG ht m0 kk n (d + 1) u ch (by omega) hI
theorem c_ups (m : AM) (nd t : Nat) (hG : GW m nd) (ht : t < 4096) (hin : inN t nd) : AC 1 kX6_ups [.inr 34, .inl (nI t)] m (UPQ m t) := by
  have hnd := hG.1
  have hc0 := GW_c hG
  refine AC_of own_X6_ups (ls := [some (.inr 34), some (.inl (nI t)), none, none, none, none]) (z := 4) (Nat.le_of_ble_eq_true rfl) rfl ?_
  have while_ : ∀ (N : Nat) (u : AM), (∀ k, k ≠ 57 → u k = m k) → (∀ b, b < nd → (u 57 b).toInt ≤ 3000 ∧ gF m b ≤ (u 57 b).toInt) → (∀ y : Nat → Int, (∀ b, b < 12 → t.testBit b = true → gF m b ≤ y b) → clo (gC m) t y → ∀ b, b < 12 → t.testBit b = true → (u 57 b).toInt ≤ y b) → sumZ (fun b => 3000 - (u 57 b).toInt) nd < N → AW 1 kX6_ups (UPQ m t) 30 [some (.inr 34), some (.inl (nI t)), some (.inl 1), none, none, none] [] u := by
    intro N
    induction N with
    | zero =>
      intro u h1 h2 h3 h4
      have := sumZ_nn (f := fun b => 3000 - (u 57 b).toInt) nd (fun i hi => by have := h2 i hi; omega)
      omega
    | succ N ih =>
      intro u h1 h2 h3 h4
      refine st_X6_ups_30 ?_; simp only [bX6_ups_30, exP, stP, p1, p2, pr, pobj, parr, sh0, sh1, sh2, sh3, sh4, sh5, sh6, sh7, sh8, sh9, sh10, sh11, sh12, sh13, sh14, sh15, sh16, sh17, sh18, sh19, sh20, sh21, sh22, sh23, sh24, sh25, sh26, sh27, sh28, sh29, sh30, sh31, sh32, sh33, sh34, sh35, sh36, sh37, sh38, sh39, sh40, sh41, sh42, sh43, sh44, sh45, sh46, sh47, sh48, sh49, sh50, sh51, sh52, sh53, sh54, sh55, sh56, sh57, sh58, sh59, brP, brN, swP, amask, apush, List.getElem?_cons_zero, List.getElem?_cons_succ, List.set_cons_zero, List.set_cons_succ, List.take_succ_cons, List.take_zero, List.drop_succ_cons, List.drop_zero, List.reverse_cons, List.reverse_nil, List.nil_append, List.cons_append, List.length_cons, List.length_nil, true_and, and_true, Nat.zero_le, Nat.reduceLeDiff, Nat.reduceAdd, Nat.reduceEqDiff, false_imp_iff, true_imp_iff, not_false_eq_true, not_true_eq_false, imp_self, forall_const]
      refine ⟨fun c => absurd c (by decide), fun _ => ?_⟩
      refine st_X6_ups_34 ?_; simp only [bX6_ups_34, exP, stP, p1, p2, pr, pobj, parr, sh0, sh1, sh2, sh3, sh4, sh5, sh6, sh7, sh8, sh9, sh10, sh11, sh12, sh13, sh14, sh15, sh16, sh17, sh18, sh19, sh20, sh21, sh22, sh23, sh24, sh25, sh26, sh27, sh28, sh29, sh30, sh31, sh32, sh33, sh34, sh35, sh36, sh37, sh38, sh39, sh40, sh41, sh42, sh43, sh44, sh45, sh46, sh47, sh48, sh49, sh50, sh51, sh52, sh53, sh54, sh55, sh56, sh57, sh58, sh59, brP, brN, swP, amask, apush, List.getElem?_cons_zero, List.getElem?_cons_succ, List.set_cons_zero, List.set_cons_succ, List.take_succ_cons, List.take_zero, List.drop_succ_cons, List.drop_zero, List.reverse_cons, List.reverse_nil, List.nil_append, List.cons_append, List.length_cons, List.length_nil, true_and, and_true, Nat.zero_le, Nat.reduceLeDiff, Nat.reduceAdd, Nat.reduceEqDiff, false_imp_iff, true_imp_iff, not_false_eq_true, not_true_eq_false, imp_self, forall_const]
      refine w_ups_out m nd t hG ht u (fun u' ch hI => ?_) nd 0 u false (by omega) ⟨h1, fun b hb => ⟨Int.le_refl _, h2 b hb⟩, h3, fun _ => ⟨fun _ _ => rfl, fun a b c _ _ q => by omega⟩, fun q => absurd q (by decide)⟩
      obtain ⟨i1, i2, i3, i4, i5⟩ := hI
      refine st_X6_ups_183 ?_; simp only [bX6_ups_183, exP, stP, p1, p2, pr, pobj, parr, sh0, sh1, sh2, sh3, sh4, sh5, sh6, sh7, sh8, sh9, sh10, sh11, sh12, sh13, sh14, sh15, sh16, sh17, sh18, sh19, sh20, sh21, sh22, sh23, sh24, sh25, sh26, sh27, sh28, sh29, sh30, sh31, sh32, sh33, sh34, sh35, sh36, sh37, sh38, sh39, sh40, sh41, sh42, sh43, sh44, sh45, sh46, sh47, sh48, sh49, sh50, sh51, sh52, sh53, sh54, sh55, sh56, sh57, sh58, sh59, brP, brN, swP, amask, apush, List.getElem?_cons_zero, List.getElem?_cons_succ, List.set_cons_zero, List.set_cons_succ, List.take_succ_cons, List.take_zero, List.drop_succ_cons, List.drop_zero, List.reverse_cons, List.reverse_nil, List.nil_append, List.cons_append, List.length_cons, List.length_nil, true_and, and_true, Nat.zero_le, Nat.reduceLeDiff, Nat.reduceAdd, Nat.reduceEqDiff, false_imp_iff, true_imp_iff, not_false_eq_true, not_true_eq_false, imp_self, forall_const]
      cases ch with
      | true =>
        obtain ⟨b, hb, hlt⟩ := i5 rfl
        refine ih u' i1 (fun b hb => (i2 b hb).2) i3 ?_
        have := sumZ_lt (f := fun b => 3000 - (u' 57 b).toInt) (g := fun b => 3000 - (u 57 b).toInt) (j := b) nd (fun i hi => by have := i2 i hi; omega) hb (by omega)
        omega
      | false =>
        refine st_X6_ups_30 ?_; simp only [bX6_ups_30, exP, stP, p1, p2, pr, pobj, parr, sh0, sh1, sh2, sh3, sh4, sh5, sh6, sh7, sh8, sh9, sh10, sh11, sh12, sh13, sh14, sh15, sh16, sh17, sh18, sh19, sh20, sh21, sh22, sh23, sh24, sh25, sh26, sh27, sh28, sh29, sh30, sh31, sh32, sh33, sh34, sh35, sh36, sh37, sh38, sh39, sh40, sh41, sh42, sh43, sh44, sh45, sh46, sh47, sh48, sh49, sh50, sh51, sh52, sh53, sh54, sh55, sh56, sh57, sh58, sh59, brP, brN, swP, amask, apush, List.getElem?_cons_zero, List.getElem?_cons_succ, List.set_cons_zero, List.set_cons_succ, List.take_succ_cons, List.take_zero, List.drop_succ_cons, List.drop_zero, List.reverse_cons, List.reverse_nil, List.nil_append, List.cons_append, List.length_cons, List.length_nil, true_and, and_true, Nat.zero_le, Nat.reduceLeDiff, Nat.reduceAdd, Nat.reduceEqDiff, false_imp_iff, true_imp_iff, not_false_eq_true, not_true_eq_false, imp_self, forall_const]
        refine ⟨fun _ => ?_, fun c => absurd rfl c⟩
        refine st_X6_ups_186 ?_; simp only [bX6_ups_186, exP, stP, p1, p2, pr, pobj, parr, sh0, sh1, sh2, sh3, sh4, sh5, sh6, sh7, sh8, sh9, sh10, sh11, sh12, sh13, sh14, sh15, sh16, sh17, sh18, sh19, sh20, sh21, sh22, sh23, sh24, sh25, sh26, sh27, sh28, sh29, sh30, sh31, sh32, sh33, sh34, sh35, sh36, sh37, sh38, sh39, sh40, sh41, sh42, sh43, sh44, sh45, sh46, sh47, sh48, sh49, sh50, sh51, sh52, sh53, sh54, sh55, sh56, sh57, sh58, sh59, brP, brN, swP, amask, apush, List.getElem?_cons_zero, List.getElem?_cons_succ, List.set_cons_zero, List.set_cons_succ, List.take_succ_cons, List.take_zero, List.drop_succ_cons, List.drop_zero, List.reverse_cons, List.reverse_nil, List.nil_append, List.cons_append, List.length_cons, List.length_nil, true_and, and_true, Nat.zero_le, Nat.reduceLeDiff, Nat.reduceAdd, Nat.reduceEqDiff, false_imp_iff, true_imp_iff, not_false_eq_true, not_true_eq_false, imp_self, forall_const]
        obtain ⟨e1, e2⟩ := i4 rfl
        refine ⟨rfl, i1, fun b hb htb => (i2 b (hin b htb)).2.2, fun a b c ha hb hta htb hc => ?_, i3⟩
        have := e2 a b c (hin a hta) (hin b htb) trivial hta htb hc
        show (u' 57 b).toInt ≤ (u' 57 a).toInt + c
        rw [e1 a (hin a hta), e1 b (hin b htb)]
        omega
  have loop1 : ∀ (n j : Nat) (u : AM), j + n = nd → (∀ k, k ≠ 57 → u k = m k) → (∀ b, b < j → u 57 b = m 53 b) → AW 1 kX6_ups (UPQ m t) 2 [some (.inr 34), some (.inl (nI t)), some (.inl (nI j)), none, none, none] [] u := by
    intro n
    induction n with
    | zero =>
      intro j u hj h1 h2
      obtain rfl : j = nd := by omega
      have hn : u 34 6 = nI j := by rw [h1 34 (by omega)]; exact hG.2.1
      refine st_X6_ups_2 ?_; simp only [bX6_ups_2, exP, stP, p1, p2, pr, pobj, parr, sh0, sh1, sh2, sh3, sh4, sh5, sh6, sh7, sh8, sh9, sh10, sh11, sh12, sh13, sh14, sh15, sh16, sh17, sh18, sh19, sh20, sh21, sh22, sh23, sh24, sh25, sh26, sh27, sh28, sh29, sh30, sh31, sh32, sh33, sh34, sh35, sh36, sh37, sh38, sh39, sh40, sh41, sh42, sh43, sh44, sh45, sh46, sh47, sh48, sh49, sh50, sh51, sh52, sh53, sh54, sh55, sh56, sh57, sh58, sh59, brP, brN, swP, amask, apush, List.getElem?_cons_zero, List.getElem?_cons_succ, List.set_cons_zero, List.set_cons_succ, List.take_succ_cons, List.take_zero, List.drop_succ_cons, List.drop_zero, List.reverse_cons, List.reverse_nil, List.nil_append, List.cons_append, List.length_cons, List.length_nil, true_and, and_true, Nat.zero_le, Nat.reduceLeDiff, Nat.reduceAdd, Nat.reduceEqDiff, false_imp_iff, true_imp_iff, not_false_eq_true, not_true_eq_false, imp_self, forall_const, hn, eq_true (nI_le (Nat.le_refl j) (show j < 2 ^ 31 by omega))]
      refine st_X6_ups_28 ?_; simp only [bX6_ups_28, exP, stP, p1, p2, pr, pobj, parr, sh0, sh1, sh2, sh3, sh4, sh5, sh6, sh7, sh8, sh9, sh10, sh11, sh12, sh13, sh14, sh15, sh16, sh17, sh18, sh19, sh20, sh21, sh22, sh23, sh24, sh25, sh26, sh27, sh28, sh29, sh30, sh31, sh32, sh33, sh34, sh35, sh36, sh37, sh38, sh39, sh40, sh41, sh42, sh43, sh44, sh45, sh46, sh47, sh48, sh49, sh50, sh51, sh52, sh53, sh54, sh55, sh56, sh57, sh58, sh59, brP, brN, swP, amask, apush, List.getElem?_cons_zero, List.getElem?_cons_succ, List.set_cons_zero, List.set_cons_succ, List.take_succ_cons, List.take_zero, List.drop_succ_cons, List.drop_zero, List.reverse_cons, List.reverse_nil, List.nil_append, List.cons_append, List.length_cons, List.length_nil, true_and, and_true, Nat.zero_le, Nat.reduceLeDiff, Nat.reduceAdd, Nat.reduceEqDiff, false_imp_iff, true_imp_iff, not_false_eq_true, not_true_eq_false, imp_self, forall_const]
      have e : ∀ b, b < j → (u 57 b).toInt = gF m b := fun b hb => by rw [h2 b hb]; rfl
      refine while_ ((sumZ (fun b => 3000 - (u 57 b).toInt) j).toNat + 1) u h1 (fun b hb => ?_) (fun y hy hyc b hb htb => ?_) (by omega)
      · have := hG.2.2.1 b hb
        rw [e b hb]; omega
      · rw [e b (hin b htb)]; exact hy b hb htb
    | succ n ih =>
      intro j u hj h1 h2
      have hn : u 34 6 = nI nd := by rw [h1 34 (by omega)]; exact hG.2.1
      have vj := eq_true (vp_in_nI (show j < 12 by omega) (show 12 < 2 ^ 31 by omega))
      have cj := nI_clamp (show j < 2 ^ 31 by omega)
      refine st_X6_ups_2 ?_; simp only [bX6_ups_2, exP, stP, p1, p2, pr, pobj, parr, sh0, sh1, sh2, sh3, sh4, sh5, sh6, sh7, sh8, sh9, sh10, sh11, sh12, sh13, sh14, sh15, sh16, sh17, sh18, sh19, sh20, sh21, sh22, sh23, sh24, sh25, sh26, sh27, sh28, sh29, sh30, sh31, sh32, sh33, sh34, sh35, sh36, sh37, sh38, sh39, sh40, sh41, sh42, sh43, sh44, sh45, sh46, sh47, sh48, sh49, sh50, sh51, sh52, sh53, sh54, sh55, sh56, sh57, sh58, sh59, brP, brN, swP, amask, apush, List.getElem?_cons_zero, List.getElem?_cons_succ, List.set_cons_zero, List.set_cons_succ, List.take_succ_cons, List.take_zero, List.drop_succ_cons, List.drop_zero, List.reverse_cons, List.reverse_nil, List.nil_append, List.cons_append, List.length_cons, List.length_nil, true_and, and_true, Nat.zero_le, Nat.reduceLeDiff, Nat.reduceAdd, Nat.reduceEqDiff, false_imp_iff, true_imp_iff, not_false_eq_true, not_true_eq_false, imp_self, forall_const, hn, eq_false (nI_ge (show j < nd by omega) (show nd < 2 ^ 31 by omega))]
      refine st_X6_ups_10 ?_; simp only [bX6_ups_10, exP, stP, p1, p2, pr, pobj, parr, sh0, sh1, sh2, sh3, sh4, sh5, sh6, sh7, sh8, sh9, sh10, sh11, sh12, sh13, sh14, sh15, sh16, sh17, sh18, sh19, sh20, sh21, sh22, sh23, sh24, sh25, sh26, sh27, sh28, sh29, sh30, sh31, sh32, sh33, sh34, sh35, sh36, sh37, sh38, sh39, sh40, sh41, sh42, sh43, sh44, sh45, sh46, sh47, sh48, sh49, sh50, sh51, sh52, sh53, sh54, sh55, sh56, sh57, sh58, sh59, brP, brN, swP, amask, apush, List.getElem?_cons_zero, List.getElem?_cons_succ, List.set_cons_zero, List.set_cons_succ, List.take_succ_cons, List.take_zero, List.drop_succ_cons, List.drop_zero, List.reverse_cons, List.reverse_nil, List.nil_append, List.cons_append, List.length_cons, List.length_nil, true_and, and_true, Nat.zero_le, Nat.reduceLeDiff, Nat.reduceAdd, Nat.reduceEqDiff, false_imp_iff, true_imp_iff, not_false_eq_true, not_true_eq_false, imp_self, forall_const, vj, cj]
      rw [nI_1]
      refine ih (j + 1) _ (by omega) (fun k hk => by rw [aup_ne hk]; exact h1 k hk) (fun b hb => ?_)
      rw [aup_eq]
      by_cases q : b = j
      · subst q; rw [upd_eq, h1 53 (by omega)]
      · rw [upd_ne q]; exact h2 b (by omega)
  refine st_X6_ups_0 ?_; simp only [bX6_ups_0, exP, stP, p1, p2, pr, pobj, parr, sh0, sh1, sh2, sh3, sh4, sh5, sh6, sh7, sh8, sh9, sh10, sh11, sh12, sh13, sh14, sh15, sh16, sh17, sh18, sh19, sh20, sh21, sh22, sh23, sh24, sh25, sh26, sh27, sh28, sh29, sh30, sh31, sh32, sh33, sh34, sh35, sh36, sh37, sh38, sh39, sh40, sh41, sh42, sh43, sh44, sh45, sh46, sh47, sh48, sh49, sh50, sh51, sh52, sh53, sh54, sh55, sh56, sh57, sh58, sh59, brP, brN, swP, amask, apush, List.getElem?_cons_zero, List.getElem?_cons_succ, List.set_cons_zero, List.set_cons_succ, List.take_succ_cons, List.take_zero, List.drop_succ_cons, List.drop_zero, List.reverse_cons, List.reverse_nil, List.nil_append, List.cons_append, List.length_cons, List.length_nil, true_and, and_true, Nat.zero_le, Nat.reduceLeDiff, Nat.reduceAdd, Nat.reduceEqDiff, false_imp_iff, true_imp_iff, not_false_eq_true, not_true_eq_false, imp_self, forall_const]
  exact loop1 nd 0 m (by omega) (fun _ _ => rfl) (fun b hb => by omega)
