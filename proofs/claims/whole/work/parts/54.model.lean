/-! ===== pairs: model ===== -/
def rl (A : Nat → Int32) (p q : Nat) : Nat → Nat
  | 0 => 0
  | n + 1 => if A p = A q then rl A (p + 1) (q + 1) n + 1 else 0
theorem rl_le (A : Nat → Int32) : ∀ (n p q : Nat), rl A p q n ≤ n
  | 0, _, _ => Nat.le_refl 0
  | n + 1, p, q => by
    have := rl_le A n (p + 1) (q + 1)
    unfold rl
    split <;> omega
theorem rl_congr {A B : Nat → Int32} : ∀ (n p q : Nat), (∀ k, k < n → A (p + k) = B (p + k) ∧ A (q + k) = B (q + k)) → rl A p q n = rl B p q n
  | 0, _, _, _ => rfl
  | n + 1, p, q, h => by
    have h0 := h 0 (by omega)
    have h1 : A p = B p := h0.1
    have h2 : A q = B q := h0.2
    unfold rl
    rw [h1, h2, rl_congr n (p + 1) (q + 1) (fun k hk => by
      have := h (k + 1) (by omega)
      rw [show p + 1 + k = p + (k + 1) by omega, show q + 1 + k = q + (k + 1) by omega]
      exact this)]
abbrev MS : Type := Nat × Int32 × Nat × Nat
def mstep (A : Nat → Int32) (L : Nat → Nat) (d e i j : Nat) (S : MS) : MS := if S.1 < rl A (d * 20 + i) (e * 20 + j) (min (L d - i) (L e - j)) then (rl A (d * 20 + i) (e * 20 + j) (min (L d - i) (L e - j)), nI e, i, j) else S
def mJ (A : Nat → Int32) (L : Nat → Nat) (d e i : Nat) (S : MS) : Nat → MS
  | 0 => S
  | n + 1 => mstep A L d e i n (mJ A L d e i S n)
def mH (A : Nat → Int32) (L : Nat → Nat) (d e nj : Nat) (S : MS) : Nat → MS
  | 0 => S
  | n + 1 => mJ A L d e n (mH A L d e nj S n) nj
def mE (A : Nat → Int32) (L : Nat → Nat) (d : Nat) (ni : Nat) (nj : Nat → Nat) (S : MS) : Nat → MS
  | 0 => S
  | n + 1 => if n = d then mE A L d ni nj S n else mH A L d n (nj n) (mE A L d ni nj S n) ni
theorem mstep_id {A : Nat → Int32} {L : Nat → Nat} {d e i j : Nat} {S : MS} (h : L d ≤ i ∨ L e ≤ j) : mstep A L d e i j S = S := by
  have : min (L d - i) (L e - j) = 0 := by omega
  unfold mstep
  rw [this]
  show (if S.1 < 0 then _ else S) = S
  rw [if_neg (by omega)]
theorem mJ_id {A : Nat → Int32} {L : Nat → Nat} {d e i : Nat} {S : MS} (h : L d ≤ i) : ∀ n, mJ A L d e i S n = S
  | 0 => rfl
  | n + 1 => by
    show mstep A L d e i n (mJ A L d e i S n) = S
    rw [mstep_id (Or.inl h), mJ_id h n]
theorem mJ_cut {A : Nat → Int32} {L : Nat → Nat} {d e i : Nat} {S : MS} : ∀ n, L e ≤ n → mJ A L d e i S n = mJ A L d e i S (L e)
  | 0, h => by rw [show L e = 0 by omega]
  | n + 1, h => by
    by_cases q : L e = n + 1
    · rw [q]
    · show mstep A L d e i n (mJ A L d e i S n) = _
      rw [mstep_id (Or.inr (by omega)), mJ_cut n (by omega)]
theorem mH_cut {A : Nat → Int32} {L : Nat → Nat} {d e nj : Nat} {S : MS} : ∀ n, L d ≤ n → mH A L d e nj S n = mH A L d e nj S (L d)
  | 0, h => by rw [show L d = 0 by omega]
  | n + 1, h => by
    by_cases q : L d = n + 1
    · rw [q]
    · show mJ A L d e n (mH A L d e nj S n) nj = _
      rw [mJ_id (by omega), mH_cut n (by omega)]
theorem mH_nj {A : Nat → Int32} {L : Nat → Nat} {d e nj : Nat} {S : MS} (h : L e ≤ nj) : ∀ n, mH A L d e nj S n = mH A L d e (L e) S n
  | 0 => rfl
  | n + 1 => by
    show mJ A L d e n (mH A L d e nj S n) nj = mJ A L d e n (mH A L d e (L e) S n) (L e)
    rw [mH_nj h n, mJ_cut nj h]
theorem mH_id {A : Nat → Int32} {L : Nat → Nat} {d e : Nat} {S : MS} : ∀ n, mH A L d e 0 S n = S
  | 0 => rfl
  | n + 1 => by
    show mJ A L d e n (mH A L d e 0 S n) 0 = S
    rw [mH_id n]
    rfl
theorem mE_nj {A : Nat → Int32} {L : Nat → Nat} {d : Nat} {S : MS} (h : ∀ e, L e ≤ 20) : ∀ n, mE A L d 20 (fun _ => 20) S n = mE A L d (L d) L S n
  | 0 => rfl
  | n + 1 => by
    show (if n = d then mE A L d 20 (fun _ => 20) S n else mH A L d n 20 (mE A L d 20 (fun _ => 20) S n) 20) = (if n = d then mE A L d (L d) L S n else mH A L d n (L n) (mE A L d (L d) L S n) (L d))
    rw [mE_nj h n, mH_nj (h n), mH_cut 20 (h d)]
theorem mE_cut {A : Nat → Int32} {L : Nat → Nat} {d : Nat} {S : MS} {nd : Nat} (hL : ∀ e, nd ≤ e → L e = 0) : ∀ n, nd ≤ n → mE A L d (L d) L S n = mE A L d (L d) L S nd
  | 0, h => by rw [show nd = 0 by omega]
  | n + 1, h => by
    by_cases q : nd = n + 1
    · rw [q]
    · show (if n = d then mE A L d (L d) L S n else mH A L d n (L n) (mE A L d (L d) L S n) (L d)) = _
      rw [hL n (by omega), mH_id, mE_cut hL n (by omega)]
      split <;> rfl
theorem mstep_congr {A B : Nat → Int32} {L : Nat → Nat} {d e i j : Nat} {S : MS} (h : ∀ x, x < 12 → ∀ k, k < L x → A (x * 20 + k) = B (x * 20 + k)) (hd : d < 12) (he : e < 12) : mstep A L d e i j S = mstep B L d e i j S := by
  unfold mstep
  rw [rl_congr (A := A) (B := B) _ _ _ (fun k hk => ?_)]
  have h1 := h d hd (i + k) (by omega)
  have h2 := h e he (j + k) (by omega)
  rw [show d * 20 + i + k = d * 20 + (i + k) by omega, show e * 20 + j + k = e * 20 + (j + k) by omega]
  exact ⟨h1, h2⟩
theorem mJ_congr {A B : Nat → Int32} {L : Nat → Nat} {d e i : Nat} {S : MS} (h : ∀ x, x < 12 → ∀ k, k < L x → A (x * 20 + k) = B (x * 20 + k)) (hd : d < 12) (he : e < 12) : ∀ n, mJ A L d e i S n = mJ B L d e i S n
  | 0 => rfl
  | n + 1 => by
    show mstep A L d e i n (mJ A L d e i S n) = mstep B L d e i n (mJ B L d e i S n)
    rw [mJ_congr h hd he n, mstep_congr h hd he]
theorem mH_congr {A B : Nat → Int32} {L : Nat → Nat} {d e nj : Nat} {S : MS} (h : ∀ x, x < 12 → ∀ k, k < L x → A (x * 20 + k) = B (x * 20 + k)) (hd : d < 12) (he : e < 12) : ∀ n, mH A L d e nj S n = mH B L d e nj S n
  | 0 => rfl
  | n + 1 => by
    show mJ A L d e n (mH A L d e nj S n) nj = mJ B L d e n (mH B L d e nj S n) nj
    rw [mH_congr h hd he n, mJ_congr h hd he]
theorem mE_congr {A B : Nat → Int32} {L : Nat → Nat} {d ni : Nat} {nj : Nat → Nat} {S : MS} (h : ∀ x, x < 12 → ∀ k, k < L x → A (x * 20 + k) = B (x * 20 + k)) (hd : d < 12) : ∀ n, n ≤ 12 → mE A L d ni nj S n = mE B L d ni nj S n
  | 0, _ => rfl
  | n + 1, hn => by
    show (if n = d then mE A L d ni nj S n else mH A L d n (nj n) (mE A L d ni nj S n) ni) = (if n = d then mE B L d ni nj S n else mH B L d n (nj n) (mE B L d ni nj S n) ni)
    rw [mE_congr h hd n (by omega), mH_congr h hd (by omega)]
theorem mstep_b {A : Nat → Int32} {L : Nat → Nat} {d e i j : Nat} {S : MS} (h : ∀ x, L x ≤ 20) (hS : S.1 ≤ 20) : (mstep A L d e i j S).1 ≤ 20 := by
  unfold mstep
  split
  · have := rl_le A (min (L d - i) (L e - j)) (d * 20 + i) (e * 20 + j)
    have := h d
    show rl A (d * 20 + i) (e * 20 + j) (min (L d - i) (L e - j)) ≤ 20
    omega
  · exact hS
theorem mJ_b {A : Nat → Int32} {L : Nat → Nat} {d e i : Nat} {S : MS} (h : ∀ x, L x ≤ 20) (hS : S.1 ≤ 20) : ∀ n, (mJ A L d e i S n).1 ≤ 20
  | 0 => hS
  | n + 1 => mstep_b h (mJ_b h hS n)
theorem mH_b {A : Nat → Int32} {L : Nat → Nat} {d e nj : Nat} {S : MS} (h : ∀ x, L x ≤ 20) (hS : S.1 ≤ 20) : ∀ n, (mH A L d e nj S n).1 ≤ 20
  | 0 => hS
  | n + 1 => mJ_b h (mH_b h hS n) nj
theorem mE_b {A : Nat → Int32} {L : Nat → Nat} {d ni : Nat} {nj : Nat → Nat} {S : MS} (h : ∀ x, L x ≤ 20) (hS : S.1 ≤ 20) : ∀ n, (mE A L d ni nj S n).1 ≤ 20
  | 0 => hS
  | n + 1 => by
    show (if n = d then mE A L d ni nj S n else mH A L d n (nj n) (mE A L d ni nj S n) ni).1 ≤ 20
    split
    · exact mE_b h hS n
    · exact mH_b h (mE_b h hS n) ni
def FM (m u : AM) : Prop := (∀ k, k ≠ 27 → u k = m k) ∧ u 27 3 = m 27 3
theorem FM.rf (m : AM) : FM m m := ⟨fun _ _ => rfl, rfl⟩
theorem INV_fm {m u : AM} {np nf ns nd tp : Nat} (h : FM m u) (hI : INVn m np nf ns nd tp) : INVn u np nf ns nd tp := by
  obtain ⟨hB, hc, hf⟩ := hI
  obtain ⟨h1, h2⟩ := h
  refine ⟨BASE_congr ⟨fun k a b => h1 k (by omega), fun k a b c => h1 k c, fun k a b => h1 k (by omega), by rw [h1 15 (by omega)], h2, fun j _ _ _ => by rw [h1 34 (by omega)]⟩ hB, ?_, ?_⟩
  · rw [h1 0 (by omega)]
    exact hc.imp id (fun q => ⟨q.1, CST_congr (fun k hk => h1 k (by omega)) q.2⟩)
  · rw [h1 34 (by omega)]
    exact hf.imp id (fun q => ⟨q.1, FRS_congr (fun k k1 k2 => h1 k (by omega)) q.2⟩)
def MEN (u : AM) (S : MS) : Prop := u 27 4 = S.2.1 ∧ u 27 5 = nI S.1 ∧ (S.2.1 ≠ -1 → u 27 6 = nI S.2.2.1 ∧ u 27 7 = nI S.2.2.2)
theorem c_alike (u : AM) (L : Nat → Nat) (hL : ∀ x, L x ≤ 20) (d e i j b : Nat) (hd : d < 12) (he : e < 12) (hi : i < 20) (hj : j < 20) (hb : b ≤ 20) (e5 : u 27 5 = nI b) (ed : u 30 d = nI (L d)) (ee : u 30 e = nI (L e)) : AC 2 kX4_alike [.inr 27, .inl (nI d), .inl (nI i), .inl (nI e), .inl (nI j)] u (fun z v => u = v ∧ ∃ x, x ≤ 20 ∧ z = some (nI x) ∧ (b < x ↔ b < rl (u 29) (d * 20 + i) (e * 20 + j) (min (L d - i) (L e - j))) ∧ (b < x → x = rl (u 29) (d * 20 + i) (e * 20 + j) (min (L d - i) (L e - j)))) := by
  have vd := eq_true (vp_in_nI hd (show 12 < 2 ^ 31 by omega))
  have cd := nI_clamp (show d < 2 ^ 31 by omega)
  have ve := eq_true (vp_in_nI he (show 12 < 2 ^ 31 by omega))
  have ce := nI_clamp (show e < 2 ^ 31 by omega)
  have hLd := hL d
  have hLe := hL e
  have z0 : (0 : Int32) = nI 0 := rfl
  refine AC_of own_X4_alike (ls := [some (.inr 27), some (.inl (nI d)), some (.inl (nI i)), some (.inl (nI e)), some (.inl (nI j)), none, none]) (z := 2) (Nat.le_of_ble_eq_true rfl) rfl ?_
  have sub1 : (nI (L d) - nI i).toInt = (L d : Int) - i := by rw [i32_sub (by rw [nI_toInt (by omega), nI_toInt (by omega)]; omega) (by rw [nI_toInt (by omega), nI_toInt (by omega)]; omega), nI_toInt (by omega), nI_toInt (by omega)]
  have sub2 : (nI (L e) - nI j).toInt = (L e : Int) - j := by rw [i32_sub (by rw [nI_toInt (by omega), nI_toInt (by omega)]; omega) (by rw [nI_toInt (by omega), nI_toInt (by omega)]; omega), nI_toInt (by omega), nI_toInt (by omega)]
  have hmin : (if nI (L e) - nI j < nI (L d) - nI i then nI (L e) - nI j else nI (L d) - nI i).toInt = min ((L d : Int) - i) ((L e : Int) - j) := by
    split
    · rename_i q
      rw [Int32.lt_iff_toInt_lt, sub1, sub2] at q
      rw [sub2]
      omega
    · rename_i q
      rw [Int32.lt_iff_toInt_lt, sub1, sub2] at q
      rw [sub1]
      omega
  have tb : (nI b).toInt = b := nI_toInt (by omega)
  refine st_X4_alike_0 ?_; simp only [bX4_alike_0, exP, stP, p1, p2, pr, pobj, parr, sh0, sh1, sh2, sh3, sh4, sh5, sh6, sh7, sh8, sh9, sh10, sh11, sh12, sh13, sh14, sh15, sh16, sh17, sh18, sh19, sh20, sh21, sh22, sh23, sh24, sh25, sh26, sh27, sh28, sh29, sh30, sh31, sh32, sh33, sh34, sh35, sh36, sh37, sh38, sh39, sh40, sh41, sh42, sh43, sh44, sh45, sh46, sh47, sh48, sh49, sh50, sh51, sh52, sh53, sh54, sh55, sh56, sh57, sh58, sh59, brP, brN, swP, amask, apush, List.getElem?_cons_zero, List.getElem?_cons_succ, List.set_cons_zero, List.set_cons_succ, List.take_succ_cons, List.take_zero, List.drop_succ_cons, List.drop_zero, List.reverse_cons, List.reverse_nil, List.nil_append, List.cons_append, List.length_cons, List.length_nil, true_and, and_true, Nat.zero_le, Nat.reduceLeDiff, Nat.reduceAdd, Nat.reduceEqDiff, false_imp_iff, true_imp_iff, not_false_eq_true, not_true_eq_false, imp_self, forall_const, nI_lt0 (show d < 2147483648 by omega)]
  refine st_X4_alike_4 ?_; simp only [bX4_alike_4, exP, stP, p1, p2, pr, pobj, parr, sh0, sh1, sh2, sh3, sh4, sh5, sh6, sh7, sh8, sh9, sh10, sh11, sh12, sh13, sh14, sh15, sh16, sh17, sh18, sh19, sh20, sh21, sh22, sh23, sh24, sh25, sh26, sh27, sh28, sh29, sh30, sh31, sh32, sh33, sh34, sh35, sh36, sh37, sh38, sh39, sh40, sh41, sh42, sh43, sh44, sh45, sh46, sh47, sh48, sh49, sh50, sh51, sh52, sh53, sh54, sh55, sh56, sh57, sh58, sh59, brP, brN, swP, amask, apush, List.getElem?_cons_zero, List.getElem?_cons_succ, List.set_cons_zero, List.set_cons_succ, List.take_succ_cons, List.take_zero, List.drop_succ_cons, List.drop_zero, List.reverse_cons, List.reverse_nil, List.nil_append, List.cons_append, List.length_cons, List.length_nil, true_and, and_true, Nat.zero_le, Nat.reduceLeDiff, Nat.reduceAdd, Nat.reduceEqDiff, false_imp_iff, true_imp_iff, not_false_eq_true, not_true_eq_false, imp_self, forall_const, lit_nle (k := 12) (n := d) (by omega) (by omega)]
  refine st_X4_alike_10 ?_; simp only [bX4_alike_10, exP, stP, p1, p2, pr, pobj, parr, sh0, sh1, sh2, sh3, sh4, sh5, sh6, sh7, sh8, sh9, sh10, sh11, sh12, sh13, sh14, sh15, sh16, sh17, sh18, sh19, sh20, sh21, sh22, sh23, sh24, sh25, sh26, sh27, sh28, sh29, sh30, sh31, sh32, sh33, sh34, sh35, sh36, sh37, sh38, sh39, sh40, sh41, sh42, sh43, sh44, sh45, sh46, sh47, sh48, sh49, sh50, sh51, sh52, sh53, sh54, sh55, sh56, sh57, sh58, sh59, brP, brN, swP, amask, apush, List.getElem?_cons_zero, List.getElem?_cons_succ, List.set_cons_zero, List.set_cons_succ, List.take_succ_cons, List.take_zero, List.drop_succ_cons, List.drop_zero, List.reverse_cons, List.reverse_nil, List.nil_append, List.cons_append, List.length_cons, List.length_nil, true_and, and_true, Nat.zero_le, Nat.reduceLeDiff, Nat.reduceAdd, Nat.reduceEqDiff, false_imp_iff, true_imp_iff, not_false_eq_true, not_true_eq_false, imp_self, forall_const, nI_lt0 (show e < 2147483648 by omega)]
  refine st_X4_alike_14 ?_; simp only [bX4_alike_14, exP, stP, p1, p2, pr, pobj, parr, sh0, sh1, sh2, sh3, sh4, sh5, sh6, sh7, sh8, sh9, sh10, sh11, sh12, sh13, sh14, sh15, sh16, sh17, sh18, sh19, sh20, sh21, sh22, sh23, sh24, sh25, sh26, sh27, sh28, sh29, sh30, sh31, sh32, sh33, sh34, sh35, sh36, sh37, sh38, sh39, sh40, sh41, sh42, sh43, sh44, sh45, sh46, sh47, sh48, sh49, sh50, sh51, sh52, sh53, sh54, sh55, sh56, sh57, sh58, sh59, brP, brN, swP, amask, apush, List.getElem?_cons_zero, List.getElem?_cons_succ, List.set_cons_zero, List.set_cons_succ, List.take_succ_cons, List.take_zero, List.drop_succ_cons, List.drop_zero, List.reverse_cons, List.reverse_nil, List.nil_append, List.cons_append, List.length_cons, List.length_nil, true_and, and_true, Nat.zero_le, Nat.reduceLeDiff, Nat.reduceAdd, Nat.reduceEqDiff, false_imp_iff, true_imp_iff, not_false_eq_true, not_true_eq_false, imp_self, forall_const, show (nI e < (12 : Int32)) = True from eq_true (nI_lt (a := e) (b := 12) he (by omega))]
  refine st_X4_alike_22 ?_; simp only [bX4_alike_22, exP, stP, p1, p2, pr, pobj, parr, sh0, sh1, sh2, sh3, sh4, sh5, sh6, sh7, sh8, sh9, sh10, sh11, sh12, sh13, sh14, sh15, sh16, sh17, sh18, sh19, sh20, sh21, sh22, sh23, sh24, sh25, sh26, sh27, sh28, sh29, sh30, sh31, sh32, sh33, sh34, sh35, sh36, sh37, sh38, sh39, sh40, sh41, sh42, sh43, sh44, sh45, sh46, sh47, sh48, sh49, sh50, sh51, sh52, sh53, sh54, sh55, sh56, sh57, sh58, sh59, brP, brN, swP, amask, apush, List.getElem?_cons_zero, List.getElem?_cons_succ, List.set_cons_zero, List.set_cons_succ, List.take_succ_cons, List.take_zero, List.drop_succ_cons, List.drop_zero, List.reverse_cons, List.reverse_nil, List.nil_append, List.cons_append, List.length_cons, List.length_nil, true_and, and_true, Nat.zero_le, Nat.reduceLeDiff, Nat.reduceAdd, Nat.reduceEqDiff, false_imp_iff, true_imp_iff, not_false_eq_true, not_true_eq_false, imp_self, forall_const, vd, cd, ve, ce, ed, ee, e5]
  generalize (if nI (L e) - nI j < nI (L d) - nI i then nI (L e) - nI j else nI (L d) - nI i) = M at hmin ⊢
  refine ⟨fun c => ?_, fun c => ?_⟩
  · rw [Int32.lt_iff_toInt_lt, tb, hmin] at c
    have eM : M = nI (min (L d - i) (L e - j)) := nI_nat M _ (by omega) (by rw [hmin]; omega)
    rw [eM]
    have hN : min (L d - i) (L e - j) ≤ 20 := by omega
    have bd : ∀ k, k < min (L d - i) (L e - j) → d * 20 + i + k < 240 ∧ e * 20 + j + k < 240 := fun k hk => by omega
    generalize min (L d - i) (L e - j) = N at hN bd ⊢
    have loop : ∀ (r n : Nat), n + r = N → n + rl (u 29) (d * 20 + i + n) (e * 20 + j + n) r = rl (u 29) (d * 20 + i) (e * 20 + j) N → AW 2 kX4_alike (fun z v => u = v ∧ ∃ x, x ≤ 20 ∧ z = some (nI x) ∧ (b < x ↔ b < rl (u 29) (d * 20 + i) (e * 20 + j) N) ∧ (b < x → x = rl (u 29) (d * 20 + i) (e * 20 + j) N)) 58 [some (.inr 27), some (.inl (nI d)), some (.inl (nI i)), some (.inl (nI e)), some (.inl (nI j)), some (.inl (nI N)), some (.inl (nI n))] [] u := by
      intro r
      have done : ∀ n, n ≤ N → n = rl (u 29) (d * 20 + i) (e * 20 + j) N → AW 2 kX4_alike (fun z v => u = v ∧ ∃ x, x ≤ 20 ∧ z = some (nI x) ∧ (b < x ↔ b < rl (u 29) (d * 20 + i) (e * 20 + j) N) ∧ (b < x → x = rl (u 29) (d * 20 + i) (e * 20 + j) N)) 103 [none, none, none, none, none, none, some (.inl (nI n))] [] u := by
        intro n hn q
        refine st_X4_alike_103 ?_; simp only [bX4_alike_103, exP, stP, p1, p2, pr, pobj, parr, sh0, sh1, sh2, sh3, sh4, sh5, sh6, sh7, sh8, sh9, sh10, sh11, sh12, sh13, sh14, sh15, sh16, sh17, sh18, sh19, sh20, sh21, sh22, sh23, sh24, sh25, sh26, sh27, sh28, sh29, sh30, sh31, sh32, sh33, sh34, sh35, sh36, sh37, sh38, sh39, sh40, sh41, sh42, sh43, sh44, sh45, sh46, sh47, sh48, sh49, sh50, sh51, sh52, sh53, sh54, sh55, sh56, sh57, sh58, sh59, brP, brN, swP, amask, apush, List.getElem?_cons_zero, List.getElem?_cons_succ, List.set_cons_zero, List.set_cons_succ, List.take_succ_cons, List.take_zero, List.drop_succ_cons, List.drop_zero, List.reverse_cons, List.reverse_nil, List.nil_append, List.cons_append, List.length_cons, List.length_nil, true_and, and_true, Nat.zero_le, Nat.reduceLeDiff, Nat.reduceAdd, Nat.reduceEqDiff, false_imp_iff, true_imp_iff, not_false_eq_true, not_true_eq_false, imp_self, forall_const]
        exact ⟨Or.inl trivial, n, by omega, rfl, by rw [← q], fun _ => q⟩
      induction r with
      | zero =>
        intro n hn hr
        obtain rfl : n = N := by omega
        refine st_X4_alike_58 ?_; simp only [bX4_alike_58, exP, stP, p1, p2, pr, pobj, parr, sh0, sh1, sh2, sh3, sh4, sh5, sh6, sh7, sh8, sh9, sh10, sh11, sh12, sh13, sh14, sh15, sh16, sh17, sh18, sh19, sh20, sh21, sh22, sh23, sh24, sh25, sh26, sh27, sh28, sh29, sh30, sh31, sh32, sh33, sh34, sh35, sh36, sh37, sh38, sh39, sh40, sh41, sh42, sh43, sh44, sh45, sh46, sh47, sh48, sh49, sh50, sh51, sh52, sh53, sh54, sh55, sh56, sh57, sh58, sh59, brP, brN, swP, amask, apush, List.getElem?_cons_zero, List.getElem?_cons_succ, List.set_cons_zero, List.set_cons_succ, List.take_succ_cons, List.take_zero, List.drop_succ_cons, List.drop_zero, List.reverse_cons, List.reverse_nil, List.nil_append, List.cons_append, List.length_cons, List.length_nil, true_and, and_true, Nat.zero_le, Nat.reduceLeDiff, Nat.reduceAdd, Nat.reduceEqDiff, false_imp_iff, true_imp_iff, not_false_eq_true, not_true_eq_false, imp_self, forall_const, eq_true (nI_le (Nat.le_refl n) (show n < 2 ^ 31 by omega))]
        exact done n (Nat.le_refl _) hr
      | succ r ih =>
        intro n hn hr
        obtain ⟨b1, b2⟩ := bd n (by omega)
        have v1 := eq_true (vp_in_nI b1 (show 240 < 2 ^ 31 by omega))
        have c1 := nI_clamp (show d * 20 + i + n < 2 ^ 31 by omega)
        have v2 := eq_true (vp_in_nI b2 (show 240 < 2 ^ 31 by omega))
        have c2 := nI_clamp (show e * 20 + j + n < 2 ^ 31 by omega)
        refine st_X4_alike_58 ?_; simp only [bX4_alike_58, exP, stP, p1, p2, pr, pobj, parr, sh0, sh1, sh2, sh3, sh4, sh5, sh6, sh7, sh8, sh9, sh10, sh11, sh12, sh13, sh14, sh15, sh16, sh17, sh18, sh19, sh20, sh21, sh22, sh23, sh24, sh25, sh26, sh27, sh28, sh29, sh30, sh31, sh32, sh33, sh34, sh35, sh36, sh37, sh38, sh39, sh40, sh41, sh42, sh43, sh44, sh45, sh46, sh47, sh48, sh49, sh50, sh51, sh52, sh53, sh54, sh55, sh56, sh57, sh58, sh59, brP, brN, swP, amask, apush, List.getElem?_cons_zero, List.getElem?_cons_succ, List.set_cons_zero, List.set_cons_succ, List.take_succ_cons, List.take_zero, List.drop_succ_cons, List.drop_zero, List.reverse_cons, List.reverse_nil, List.nil_append, List.cons_append, List.length_cons, List.length_nil, true_and, and_true, Nat.zero_le, Nat.reduceLeDiff, Nat.reduceAdd, Nat.reduceEqDiff, false_imp_iff, true_imp_iff, not_false_eq_true, not_true_eq_false, imp_self, forall_const, eq_false (nI_ge (show n < N by omega) (show N < 2 ^ 31 by omega))]
        refine st_X4_alike_65 ?_; simp only [bX4_alike_65, exP, stP, p1, p2, pr, pobj, parr, sh0, sh1, sh2, sh3, sh4, sh5, sh6, sh7, sh8, sh9, sh10, sh11, sh12, sh13, sh14, sh15, sh16, sh17, sh18, sh19, sh20, sh21, sh22, sh23, sh24, sh25, sh26, sh27, sh28, sh29, sh30, sh31, sh32, sh33, sh34, sh35, sh36, sh37, sh38, sh39, sh40, sh41, sh42, sh43, sh44, sh45, sh46, sh47, sh48, sh49, sh50, sh51, sh52, sh53, sh54, sh55, sh56, sh57, sh58, sh59, brP, brN, swP, amask, apush, List.getElem?_cons_zero, List.getElem?_cons_succ, List.set_cons_zero, List.set_cons_succ, List.take_succ_cons, List.take_zero, List.drop_succ_cons, List.drop_zero, List.reverse_cons, List.reverse_nil, List.nil_append, List.cons_append, List.length_cons, List.length_nil, true_and, and_true, Nat.zero_le, Nat.reduceLeDiff, Nat.reduceAdd, Nat.reduceEqDiff, false_imp_iff, true_imp_iff, not_false_eq_true, not_true_eq_false, imp_self, forall_const, nI_muladd _ _ 20, nI_add, v1, c1, v2, c2]
        refine ⟨fun c => done n (by omega) ?_, fun c => ?_⟩
        · rw [← hr]
          unfold rl
          rw [if_neg c]
          rfl
        · refine st_X4_alike_97 ?_; simp only [bX4_alike_97, exP, stP, p1, p2, pr, pobj, parr, sh0, sh1, sh2, sh3, sh4, sh5, sh6, sh7, sh8, sh9, sh10, sh11, sh12, sh13, sh14, sh15, sh16, sh17, sh18, sh19, sh20, sh21, sh22, sh23, sh24, sh25, sh26, sh27, sh28, sh29, sh30, sh31, sh32, sh33, sh34, sh35, sh36, sh37, sh38, sh39, sh40, sh41, sh42, sh43, sh44, sh45, sh46, sh47, sh48, sh49, sh50, sh51, sh52, sh53, sh54, sh55, sh56, sh57, sh58, sh59, brP, brN, swP, amask, apush, List.getElem?_cons_zero, List.getElem?_cons_succ, List.set_cons_zero, List.set_cons_succ, List.take_succ_cons, List.take_zero, List.drop_succ_cons, List.drop_zero, List.reverse_cons, List.reverse_nil, List.nil_append, List.cons_append, List.length_cons, List.length_nil, true_and, and_true, Nat.zero_le, Nat.reduceLeDiff, Nat.reduceAdd, Nat.reduceEqDiff, false_imp_iff, true_imp_iff, not_false_eq_true, not_true_eq_false, imp_self, forall_const]
          rw [nI_1]
          refine ih (n + 1) (by omega) ?_
          rw [← hr]
          show _ = n + (if u 29 (d * 20 + i + n) = u 29 (e * 20 + j + n) then rl (u 29) (d * 20 + i + n + 1) (e * 20 + j + n + 1) r + 1 else 0)
          rw [if_pos c]
          show n + 1 + rl (u 29) (d * 20 + i + n + 1) (e * 20 + j + n + 1) r = _
          omega
    refine st_X4_alike_55 ?_; simp only [bX4_alike_55, exP, stP, p1, p2, pr, pobj, parr, sh0, sh1, sh2, sh3, sh4, sh5, sh6, sh7, sh8, sh9, sh10, sh11, sh12, sh13, sh14, sh15, sh16, sh17, sh18, sh19, sh20, sh21, sh22, sh23, sh24, sh25, sh26, sh27, sh28, sh29, sh30, sh31, sh32, sh33, sh34, sh35, sh36, sh37, sh38, sh39, sh40, sh41, sh42, sh43, sh44, sh45, sh46, sh47, sh48, sh49, sh50, sh51, sh52, sh53, sh54, sh55, sh56, sh57, sh58, sh59, brP, brN, swP, amask, apush, List.getElem?_cons_zero, List.getElem?_cons_succ, List.set_cons_zero, List.set_cons_succ, List.take_succ_cons, List.take_zero, List.drop_succ_cons, List.drop_zero, List.reverse_cons, List.reverse_nil, List.nil_append, List.cons_append, List.length_cons, List.length_nil, true_and, and_true, Nat.zero_le, Nat.reduceLeDiff, Nat.reduceAdd, Nat.reduceEqDiff, false_imp_iff, true_imp_iff, not_false_eq_true, not_true_eq_false, imp_self, forall_const]
    exact loop N 0 (by omega) (Nat.zero_add _)
  · rw [Int32.lt_iff_toInt_lt, tb, hmin] at c
    have h1 := rl_le (u 29) (min (L d - i) (L e - j)) (d * 20 + i) (e * 20 + j)
    refine st_X4_alike_53 ?_; simp only [bX4_alike_53, exP, stP, p1, p2, pr, pobj, parr, sh0, sh1, sh2, sh3, sh4, sh5, sh6, sh7, sh8, sh9, sh10, sh11, sh12, sh13, sh14, sh15, sh16, sh17, sh18, sh19, sh20, sh21, sh22, sh23, sh24, sh25, sh26, sh27, sh28, sh29, sh30, sh31, sh32, sh33, sh34, sh35, sh36, sh37, sh38, sh39, sh40, sh41, sh42, sh43, sh44, sh45, sh46, sh47, sh48, sh49, sh50, sh51, sh52, sh53, sh54, sh55, sh56, sh57, sh58, sh59, brP, brN, swP, amask, apush, List.getElem?_cons_zero, List.getElem?_cons_succ, List.set_cons_zero, List.set_cons_succ, List.take_succ_cons, List.take_zero, List.drop_succ_cons, List.drop_zero, List.reverse_cons, List.reverse_nil, List.nil_append, List.cons_append, List.length_cons, List.length_nil, true_and, and_true, Nat.zero_le, Nat.reduceLeDiff, Nat.reduceAdd, Nat.reduceEqDiff, false_imp_iff, true_imp_iff, not_false_eq_true, not_true_eq_false, imp_self, forall_const]
    refine ⟨Or.inl trivial, 0, by omega, rfl, ⟨fun q => by omega, fun q => by omega⟩, fun q => by omega⟩
theorem c_compareWith (m : AM) (L : Nat → Nat) (hL : ∀ x, L x ≤ 20) (d e : Nat) (hd : d < 12) (he : e < 12) (ed : m 30 d = nI (L d)) (ee : m 30 e = nI (L e)) (u0 : AM) (hF0 : FM m u0) (S : MS) (hS : S.1 ≤ 20) (hM0 : MEN u0 S) : AC 3 kX4_compareWith [.inr 27, .inl (nI d), .inl (nI e)] u0 (fun z v => z = none ∧ FM m v ∧ MEN v (mH (m 29) L d e 20 S 20)) := by
  refine AC_of own_X4_compareWith (ls := [some (.inr 27), some (.inl (nI d)), some (.inl (nI e)), none, none, none]) (z := 3) (Nat.le_of_ble_eq_true rfl) rfl ?_
  have outer : ∀ (n i : Nat) (u : AM), i + n = 20 → FM m u → MEN u (mH (m 29) L d e 20 S i) → AW 3 kX4_compareWith (fun z v => z = none ∧ FM m v ∧ MEN v (mH (m 29) L d e 20 S 20)) 2 [some (.inr 27), some (.inl (nI d)), some (.inl (nI e)), some (.inl (nI i)), none, none] [] u := by
    intro n
    induction n with
    | zero =>
      intro i u hi hF hM
      obtain rfl : i = 20 := by omega
      refine st_X4_compareWith_2 ?_; simp only [bX4_compareWith_2, exP, stP, p1, p2, pr, pobj, parr, sh0, sh1, sh2, sh3, sh4, sh5, sh6, sh7, sh8, sh9, sh10, sh11, sh12, sh13, sh14, sh15, sh16, sh17, sh18, sh19, sh20, sh21, sh22, sh23, sh24, sh25, sh26, sh27, sh28, sh29, sh30, sh31, sh32, sh33, sh34, sh35, sh36, sh37, sh38, sh39, sh40, sh41, sh42, sh43, sh44, sh45, sh46, sh47, sh48, sh49, sh50, sh51, sh52, sh53, sh54, sh55, sh56, sh57, sh58, sh59, brP, brN, swP, amask, apush, List.getElem?_cons_zero, List.getElem?_cons_succ, List.set_cons_zero, List.set_cons_succ, List.take_succ_cons, List.take_zero, List.drop_succ_cons, List.drop_zero, List.reverse_cons, List.reverse_nil, List.nil_append, List.cons_append, List.length_cons, List.length_nil, true_and, and_true, Nat.zero_le, Nat.reduceLeDiff, Nat.reduceAdd, Nat.reduceEqDiff, false_imp_iff, true_imp_iff, not_false_eq_true, not_true_eq_false, imp_self, forall_const, lit_le (k := 20) (n := 20) (by omega) (by omega)]
      refine st_X4_compareWith_72 ?_; simp only [bX4_compareWith_72, exP, stP, p1, p2, pr, pobj, parr, sh0, sh1, sh2, sh3, sh4, sh5, sh6, sh7, sh8, sh9, sh10, sh11, sh12, sh13, sh14, sh15, sh16, sh17, sh18, sh19, sh20, sh21, sh22, sh23, sh24, sh25, sh26, sh27, sh28, sh29, sh30, sh31, sh32, sh33, sh34, sh35, sh36, sh37, sh38, sh39, sh40, sh41, sh42, sh43, sh44, sh45, sh46, sh47, sh48, sh49, sh50, sh51, sh52, sh53, sh54, sh55, sh56, sh57, sh58, sh59, brP, brN, swP, amask, apush, List.getElem?_cons_zero, List.getElem?_cons_succ, List.set_cons_zero, List.set_cons_succ, List.take_succ_cons, List.take_zero, List.drop_succ_cons, List.drop_zero, List.reverse_cons, List.reverse_nil, List.nil_append, List.cons_append, List.length_cons, List.length_nil, true_and, and_true, Nat.zero_le, Nat.reduceLeDiff, Nat.reduceAdd, Nat.reduceEqDiff, false_imp_iff, true_imp_iff, not_false_eq_true, not_true_eq_false, imp_self, forall_const]
      exact ⟨hF, hM⟩
    | succ n ih =>
      intro i u hi hF hM
      have inner : ∀ (n' j : Nat) (u : AM), j + n' = 20 → FM m u → MEN u (mJ (m 29) L d e i (mH (m 29) L d e 20 S i) j) → AW 3 kX4_compareWith (fun z v => z = none ∧ FM m v ∧ MEN v (mH (m 29) L d e 20 S 20)) 11 [some (.inr 27), some (.inl (nI d)), some (.inl (nI e)), some (.inl (nI i)), some (.inl (nI j)), none] [] u := by
        intro n'
        induction n' with
        | zero =>
          intro j u hj hF hM
          obtain rfl : j = 20 := by omega
          refine st_X4_compareWith_11 ?_; simp only [bX4_compareWith_11, exP, stP, p1, p2, pr, pobj, parr, sh0, sh1, sh2, sh3, sh4, sh5, sh6, sh7, sh8, sh9, sh10, sh11, sh12, sh13, sh14, sh15, sh16, sh17, sh18, sh19, sh20, sh21, sh22, sh23, sh24, sh25, sh26, sh27, sh28, sh29, sh30, sh31, sh32, sh33, sh34, sh35, sh36, sh37, sh38, sh39, sh40, sh41, sh42, sh43, sh44, sh45, sh46, sh47, sh48, sh49, sh50, sh51, sh52, sh53, sh54, sh55, sh56, sh57, sh58, sh59, brP, brN, swP, amask, apush, List.getElem?_cons_zero, List.getElem?_cons_succ, List.set_cons_zero, List.set_cons_succ, List.take_succ_cons, List.take_zero, List.drop_succ_cons, List.drop_zero, List.reverse_cons, List.reverse_nil, List.nil_append, List.cons_append, List.length_cons, List.length_nil, true_and, and_true, Nat.zero_le, Nat.reduceLeDiff, Nat.reduceAdd, Nat.reduceEqDiff, false_imp_iff, true_imp_iff, not_false_eq_true, not_true_eq_false, imp_self, forall_const, lit_le (k := 20) (n := 20) (by omega) (by omega)]
          refine st_X4_compareWith_66 ?_; simp only [bX4_compareWith_66, exP, stP, p1, p2, pr, pobj, parr, sh0, sh1, sh2, sh3, sh4, sh5, sh6, sh7, sh8, sh9, sh10, sh11, sh12, sh13, sh14, sh15, sh16, sh17, sh18, sh19, sh20, sh21, sh22, sh23, sh24, sh25, sh26, sh27, sh28, sh29, sh30, sh31, sh32, sh33, sh34, sh35, sh36, sh37, sh38, sh39, sh40, sh41, sh42, sh43, sh44, sh45, sh46, sh47, sh48, sh49, sh50, sh51, sh52, sh53, sh54, sh55, sh56, sh57, sh58, sh59, brP, brN, swP, amask, apush, List.getElem?_cons_zero, List.getElem?_cons_succ, List.set_cons_zero, List.set_cons_succ, List.take_succ_cons, List.take_zero, List.drop_succ_cons, List.drop_zero, List.reverse_cons, List.reverse_nil, List.nil_append, List.cons_append, List.length_cons, List.length_nil, true_and, and_true, Nat.zero_le, Nat.reduceLeDiff, Nat.reduceAdd, Nat.reduceEqDiff, false_imp_iff, true_imp_iff, not_false_eq_true, not_true_eq_false, imp_self, forall_const]
          rw [nI_1]
          exact ih (i + 1) u (by omega) hF hM
        | succ n' ih' =>
          intro j u hj hF hM
          have hT : (mJ (m 29) L d e i (mH (m 29) L d e 20 S i) j).1 ≤ 20 := mJ_b hL (mH_b hL hS i) j
          have hn : mJ (m 29) L d e i (mH (m 29) L d e 20 S i) (j + 1) = mstep (m 29) L d e i j (mJ (m 29) L d e i (mH (m 29) L d e 20 S i) j) := rfl
          generalize mJ (m 29) L d e i (mH (m 29) L d e 20 S i) j = T at hM hT hn
          obtain ⟨m1, m2, m3⟩ := hM
          have ca := c_alike u L hL d e i j T.1 hd he (by omega) (by omega) hT m2 (by rw [hF.1 30 (by omega)]; exact ed) (by rw [hF.1 30 (by omega)]; exact ee)
          rw [hF.1 29 (by omega)] at ca
          refine st_X4_compareWith_11 ?_; simp only [bX4_compareWith_11, exP, stP, p1, p2, pr, pobj, parr, sh0, sh1, sh2, sh3, sh4, sh5, sh6, sh7, sh8, sh9, sh10, sh11, sh12, sh13, sh14, sh15, sh16, sh17, sh18, sh19, sh20, sh21, sh22, sh23, sh24, sh25, sh26, sh27, sh28, sh29, sh30, sh31, sh32, sh33, sh34, sh35, sh36, sh37, sh38, sh39, sh40, sh41, sh42, sh43, sh44, sh45, sh46, sh47, sh48, sh49, sh50, sh51, sh52, sh53, sh54, sh55, sh56, sh57, sh58, sh59, brP, brN, swP, amask, apush, List.getElem?_cons_zero, List.getElem?_cons_succ, List.set_cons_zero, List.set_cons_succ, List.take_succ_cons, List.take_zero, List.drop_succ_cons, List.drop_zero, List.reverse_cons, List.reverse_nil, List.nil_append, List.cons_append, List.length_cons, List.length_nil, true_and, and_true, Nat.zero_le, Nat.reduceLeDiff, Nat.reduceAdd, Nat.reduceEqDiff, false_imp_iff, true_imp_iff, not_false_eq_true, not_true_eq_false, imp_self, forall_const, lit_nle (k := 20) (n := j) (by omega) (by omega)]
          refine st_X4_compareWith_18 ?_; simp only [bX4_compareWith_18, exP, stP, p1, p2, pr, pobj, parr, sh0, sh1, sh2, sh3, sh4, sh5, sh6, sh7, sh8, sh9, sh10, sh11, sh12, sh13, sh14, sh15, sh16, sh17, sh18, sh19, sh20, sh21, sh22, sh23, sh24, sh25, sh26, sh27, sh28, sh29, sh30, sh31, sh32, sh33, sh34, sh35, sh36, sh37, sh38, sh39, sh40, sh41, sh42, sh43, sh44, sh45, sh46, sh47, sh48, sh49, sh50, sh51, sh52, sh53, sh54, sh55, sh56, sh57, sh58, sh59, brP, brN, swP, amask, apush, List.getElem?_cons_zero, List.getElem?_cons_succ, List.set_cons_zero, List.set_cons_succ, List.take_succ_cons, List.take_zero, List.drop_succ_cons, List.drop_zero, List.reverse_cons, List.reverse_nil, List.nil_append, List.cons_append, List.length_cons, List.length_nil, true_and, and_true, Nat.zero_le, Nat.reduceLeDiff, Nat.reduceAdd, Nat.reduceEqDiff, false_imp_iff, true_imp_iff, not_false_eq_true, not_true_eq_false, imp_self, forall_const]
          refine ⟨_, ⟨2, by decide, ca⟩, ?_⟩
          rintro z v ⟨rfl, x, hx, rfl, x1, x2⟩
          simp only [exP, stP, p1, p2, pr, pobj, parr, sh0, sh1, sh2, sh3, sh4, sh5, sh6, sh7, sh8, sh9, sh10, sh11, sh12, sh13, sh14, sh15, sh16, sh17, sh18, sh19, sh20, sh21, sh22, sh23, sh24, sh25, sh26, sh27, sh28, sh29, sh30, sh31, sh32, sh33, sh34, sh35, sh36, sh37, sh38, sh39, sh40, sh41, sh42, sh43, sh44, sh45, sh46, sh47, sh48, sh49, sh50, sh51, sh52, sh53, sh54, sh55, sh56, sh57, sh58, sh59, brP, brN, swP, amask, apush, List.getElem?_cons_zero, List.getElem?_cons_succ, List.set_cons_zero, List.set_cons_succ, List.take_succ_cons, List.take_zero, List.drop_succ_cons, List.drop_zero, List.reverse_cons, List.reverse_nil, List.nil_append, List.cons_append, List.length_cons, List.length_nil, true_and, and_true, Nat.zero_le, Nat.reduceLeDiff, Nat.reduceAdd, Nat.reduceEqDiff, false_imp_iff, true_imp_iff, not_false_eq_true, not_true_eq_false, imp_self, forall_const, m2]
          refine ⟨fun c => ?_, fun c => ?_⟩
          · have c' : ¬ T.1 < x := fun q => nI_ge q (by omega) c
            have eT : mstep (m 29) L d e i j T = T := by
              unfold mstep
              rw [if_neg (fun q => c' (x1.mpr q))]
            refine st_X4_compareWith_60 ?_; simp only [bX4_compareWith_60, exP, stP, p1, p2, pr, pobj, parr, sh0, sh1, sh2, sh3, sh4, sh5, sh6, sh7, sh8, sh9, sh10, sh11, sh12, sh13, sh14, sh15, sh16, sh17, sh18, sh19, sh20, sh21, sh22, sh23, sh24, sh25, sh26, sh27, sh28, sh29, sh30, sh31, sh32, sh33, sh34, sh35, sh36, sh37, sh38, sh39, sh40, sh41, sh42, sh43, sh44, sh45, sh46, sh47, sh48, sh49, sh50, sh51, sh52, sh53, sh54, sh55, sh56, sh57, sh58, sh59, brP, brN, swP, amask, apush, List.getElem?_cons_zero, List.getElem?_cons_succ, List.set_cons_zero, List.set_cons_succ, List.take_succ_cons, List.take_zero, List.drop_succ_cons, List.drop_zero, List.reverse_cons, List.reverse_nil, List.nil_append, List.cons_append, List.length_cons, List.length_nil, true_and, and_true, Nat.zero_le, Nat.reduceLeDiff, Nat.reduceAdd, Nat.reduceEqDiff, false_imp_iff, true_imp_iff, not_false_eq_true, not_true_eq_false, imp_self, forall_const]
            rw [nI_1]
            refine ih' (j + 1) u (by omega) hF ?_
            rw [hn, eT]
            exact ⟨m1, m2, m3⟩
          · have c' : T.1 < x := by
              rcases Nat.lt_or_ge T.1 x with q | q
              · exact q
              · exact absurd (nI_le q (by omega)) c
            have eT : mstep (m 29) L d e i j T = (x, nI e, i, j) := by
              unfold mstep
              rw [if_pos (x1.mp c'), ← x2 c']
            refine st_X4_compareWith_38 ?_; simp only [bX4_compareWith_38, exP, stP, p1, p2, pr, pobj, parr, sh0, sh1, sh2, sh3, sh4, sh5, sh6, sh7, sh8, sh9, sh10, sh11, sh12, sh13, sh14, sh15, sh16, sh17, sh18, sh19, sh20, sh21, sh22, sh23, sh24, sh25, sh26, sh27, sh28, sh29, sh30, sh31, sh32, sh33, sh34, sh35, sh36, sh37, sh38, sh39, sh40, sh41, sh42, sh43, sh44, sh45, sh46, sh47, sh48, sh49, sh50, sh51, sh52, sh53, sh54, sh55, sh56, sh57, sh58, sh59, brP, brN, swP, amask, apush, List.getElem?_cons_zero, List.getElem?_cons_succ, List.set_cons_zero, List.set_cons_succ, List.take_succ_cons, List.take_zero, List.drop_succ_cons, List.drop_zero, List.reverse_cons, List.reverse_nil, List.nil_append, List.cons_append, List.length_cons, List.length_nil, true_and, and_true, Nat.zero_le, Nat.reduceLeDiff, Nat.reduceAdd, Nat.reduceEqDiff, false_imp_iff, true_imp_iff, not_false_eq_true, not_true_eq_false, imp_self, forall_const, true_or, or_true]
            refine st_X4_compareWith_60 ?_; simp only [bX4_compareWith_60, exP, stP, p1, p2, pr, pobj, parr, sh0, sh1, sh2, sh3, sh4, sh5, sh6, sh7, sh8, sh9, sh10, sh11, sh12, sh13, sh14, sh15, sh16, sh17, sh18, sh19, sh20, sh21, sh22, sh23, sh24, sh25, sh26, sh27, sh28, sh29, sh30, sh31, sh32, sh33, sh34, sh35, sh36, sh37, sh38, sh39, sh40, sh41, sh42, sh43, sh44, sh45, sh46, sh47, sh48, sh49, sh50, sh51, sh52, sh53, sh54, sh55, sh56, sh57, sh58, sh59, brP, brN, swP, amask, apush, List.getElem?_cons_zero, List.getElem?_cons_succ, List.set_cons_zero, List.set_cons_succ, List.take_succ_cons, List.take_zero, List.drop_succ_cons, List.drop_zero, List.reverse_cons, List.reverse_nil, List.nil_append, List.cons_append, List.length_cons, List.length_nil, true_and, and_true, Nat.zero_le, Nat.reduceLeDiff, Nat.reduceAdd, Nat.reduceEqDiff, false_imp_iff, true_imp_iff, not_false_eq_true, not_true_eq_false, imp_self, forall_const]
            rw [nI_1]
            refine ih' (j + 1) _ (by omega) ⟨fun k hk => by rw [aup_ne hk, aup_ne hk, aup_ne hk, aup_ne hk]; exact hF.1 k hk, by rw [aup_eq, upd_ne (by omega), aup_eq, upd_ne (by omega), aup_eq, upd_ne (by omega), aup_eq, upd_ne (by omega)]; exact hF.2⟩ ?_
            rw [hn, eT]
            refine ⟨?_, ?_, fun _ => ⟨?_, ?_⟩⟩
            · rw [aup_eq, upd_ne (by omega), aup_eq, upd_ne (by omega), aup_eq, upd_ne (by omega), aup_eq, upd_eq]
            · rw [aup_eq, upd_ne (by omega), aup_eq, upd_ne (by omega), aup_eq, upd_eq]
            · rw [aup_eq, upd_ne (by omega), aup_eq, upd_eq]
            · rw [aup_eq, upd_eq]
      refine st_X4_compareWith_2 ?_; simp only [bX4_compareWith_2, exP, stP, p1, p2, pr, pobj, parr, sh0, sh1, sh2, sh3, sh4, sh5, sh6, sh7, sh8, sh9, sh10, sh11, sh12, sh13, sh14, sh15, sh16, sh17, sh18, sh19, sh20, sh21, sh22, sh23, sh24, sh25, sh26, sh27, sh28, sh29, sh30, sh31, sh32, sh33, sh34, sh35, sh36, sh37, sh38, sh39, sh40, sh41, sh42, sh43, sh44, sh45, sh46, sh47, sh48, sh49, sh50, sh51, sh52, sh53, sh54, sh55, sh56, sh57, sh58, sh59, brP, brN, swP, amask, apush, List.getElem?_cons_zero, List.getElem?_cons_succ, List.set_cons_zero, List.set_cons_succ, List.take_succ_cons, List.take_zero, List.drop_succ_cons, List.drop_zero, List.reverse_cons, List.reverse_nil, List.nil_append, List.cons_append, List.length_cons, List.length_nil, true_and, and_true, Nat.zero_le, Nat.reduceLeDiff, Nat.reduceAdd, Nat.reduceEqDiff, false_imp_iff, true_imp_iff, not_false_eq_true, not_true_eq_false, imp_self, forall_const, lit_nle (k := 20) (n := i) (by omega) (by omega)]
      refine st_X4_compareWith_8 ?_; simp only [bX4_compareWith_8, exP, stP, p1, p2, pr, pobj, parr, sh0, sh1, sh2, sh3, sh4, sh5, sh6, sh7, sh8, sh9, sh10, sh11, sh12, sh13, sh14, sh15, sh16, sh17, sh18, sh19, sh20, sh21, sh22, sh23, sh24, sh25, sh26, sh27, sh28, sh29, sh30, sh31, sh32, sh33, sh34, sh35, sh36, sh37, sh38, sh39, sh40, sh41, sh42, sh43, sh44, sh45, sh46, sh47, sh48, sh49, sh50, sh51, sh52, sh53, sh54, sh55, sh56, sh57, sh58, sh59, brP, brN, swP, amask, apush, List.getElem?_cons_zero, List.getElem?_cons_succ, List.set_cons_zero, List.set_cons_succ, List.take_succ_cons, List.take_zero, List.drop_succ_cons, List.drop_zero, List.reverse_cons, List.reverse_nil, List.nil_append, List.cons_append, List.length_cons, List.length_nil, true_and, and_true, Nat.zero_le, Nat.reduceLeDiff, Nat.reduceAdd, Nat.reduceEqDiff, false_imp_iff, true_imp_iff, not_false_eq_true, not_true_eq_false, imp_self, forall_const]
      exact inner 20 0 u rfl hF hM
  refine st_X4_compareWith_0 ?_; simp only [bX4_compareWith_0, exP, stP, p1, p2, pr, pobj, parr, sh0, sh1, sh2, sh3, sh4, sh5, sh6, sh7, sh8, sh9, sh10, sh11, sh12, sh13, sh14, sh15, sh16, sh17, sh18, sh19, sh20, sh21, sh22, sh23, sh24, sh25, sh26, sh27, sh28, sh29, sh30, sh31, sh32, sh33, sh34, sh35, sh36, sh37, sh38, sh39, sh40, sh41, sh42, sh43, sh44, sh45, sh46, sh47, sh48, sh49, sh50, sh51, sh52, sh53, sh54, sh55, sh56, sh57, sh58, sh59, brP, brN, swP, amask, apush, List.getElem?_cons_zero, List.getElem?_cons_succ, List.set_cons_zero, List.set_cons_succ, List.take_succ_cons, List.take_zero, List.drop_succ_cons, List.drop_zero, List.reverse_cons, List.reverse_nil, List.nil_append, List.cons_append, List.length_cons, List.length_nil, true_and, and_true, Nat.zero_le, Nat.reduceLeDiff, Nat.reduceAdd, Nat.reduceEqDiff, false_imp_iff, true_imp_iff, not_false_eq_true, not_true_eq_false, imp_self, forall_const]
  exact outer 20 0 u0 rfl hF0 hM0
theorem c_findModel (m : AM) (L : Nat → Nat) (hL : ∀ x, L x ≤ 20) (d : Nat) (hd : d < 12) (hs : ∀ x, x < 12 → m 30 x = nI (L x)) : AC 4 kX4_findModel [.inr 27, .inl (nI d)] m (fun z v => z = none ∧ FM m v ∧ MEN v (mE (m 29) L d 20 (fun _ => 20) (3, -1, 0, 0) 12)) := by
  refine AC_of own_X4_findModel (ls := [some (.inr 27), some (.inl (nI d)), none]) (z := 1) (Nat.le_of_ble_eq_true rfl) rfl ?_
  have loop : ∀ (n e : Nat) (u : AM), e + n = 12 → FM m u → MEN u (mE (m 29) L d 20 (fun _ => 20) (3, -1, 0, 0) e) → AW 4 kX4_findModel (fun z v => z = none ∧ FM m v ∧ MEN v (mE (m 29) L d 20 (fun _ => 20) (3, -1, 0, 0) 12)) 12 [some (.inr 27), some (.inl (nI d)), some (.inl (nI e))] [] u := by
    intro n
    induction n with
    | zero =>
      intro e u he hF hM
      obtain rfl : e = 12 := by omega
      refine st_X4_findModel_12 ?_; simp only [bX4_findModel_12, exP, stP, p1, p2, pr, pobj, parr, sh0, sh1, sh2, sh3, sh4, sh5, sh6, sh7, sh8, sh9, sh10, sh11, sh12, sh13, sh14, sh15, sh16, sh17, sh18, sh19, sh20, sh21, sh22, sh23, sh24, sh25, sh26, sh27, sh28, sh29, sh30, sh31, sh32, sh33, sh34, sh35, sh36, sh37, sh38, sh39, sh40, sh41, sh42, sh43, sh44, sh45, sh46, sh47, sh48, sh49, sh50, sh51, sh52, sh53, sh54, sh55, sh56, sh57, sh58, sh59, brP, brN, swP, amask, apush, List.getElem?_cons_zero, List.getElem?_cons_succ, List.set_cons_zero, List.set_cons_succ, List.take_succ_cons, List.take_zero, List.drop_succ_cons, List.drop_zero, List.reverse_cons, List.reverse_nil, List.nil_append, List.cons_append, List.length_cons, List.length_nil, true_and, and_true, Nat.zero_le, Nat.reduceLeDiff, Nat.reduceAdd, Nat.reduceEqDiff, false_imp_iff, true_imp_iff, not_false_eq_true, not_true_eq_false, imp_self, forall_const, lit_le (k := 12) (n := 12) (by omega) (by omega)]
      refine st_X4_findModel_35 ?_; simp only [bX4_findModel_35, exP, stP, p1, p2, pr, pobj, parr, sh0, sh1, sh2, sh3, sh4, sh5, sh6, sh7, sh8, sh9, sh10, sh11, sh12, sh13, sh14, sh15, sh16, sh17, sh18, sh19, sh20, sh21, sh22, sh23, sh24, sh25, sh26, sh27, sh28, sh29, sh30, sh31, sh32, sh33, sh34, sh35, sh36, sh37, sh38, sh39, sh40, sh41, sh42, sh43, sh44, sh45, sh46, sh47, sh48, sh49, sh50, sh51, sh52, sh53, sh54, sh55, sh56, sh57, sh58, sh59, brP, brN, swP, amask, apush, List.getElem?_cons_zero, List.getElem?_cons_succ, List.set_cons_zero, List.set_cons_succ, List.take_succ_cons, List.take_zero, List.drop_succ_cons, List.drop_zero, List.reverse_cons, List.reverse_nil, List.nil_append, List.cons_append, List.length_cons, List.length_nil, true_and, and_true, Nat.zero_le, Nat.reduceLeDiff, Nat.reduceAdd, Nat.reduceEqDiff, false_imp_iff, true_imp_iff, not_false_eq_true, not_true_eq_false, imp_self, forall_const]
      exact ⟨hF, hM⟩
    | succ n ih =>
      intro e u he hF hM
      have hn : mE (m 29) L d 20 (fun _ => 20) (3, -1, 0, 0) (e + 1) = if e = d then mE (m 29) L d 20 (fun _ => 20) (3, -1, 0, 0) e else mH (m 29) L d e 20 (mE (m 29) L d 20 (fun _ => 20) (3, -1, 0, 0) e) 20 := rfl
      refine st_X4_findModel_12 ?_; simp only [bX4_findModel_12, exP, stP, p1, p2, pr, pobj, parr, sh0, sh1, sh2, sh3, sh4, sh5, sh6, sh7, sh8, sh9, sh10, sh11, sh12, sh13, sh14, sh15, sh16, sh17, sh18, sh19, sh20, sh21, sh22, sh23, sh24, sh25, sh26, sh27, sh28, sh29, sh30, sh31, sh32, sh33, sh34, sh35, sh36, sh37, sh38, sh39, sh40, sh41, sh42, sh43, sh44, sh45, sh46, sh47, sh48, sh49, sh50, sh51, sh52, sh53, sh54, sh55, sh56, sh57, sh58, sh59, brP, brN, swP, amask, apush, List.getElem?_cons_zero, List.getElem?_cons_succ, List.set_cons_zero, List.set_cons_succ, List.take_succ_cons, List.take_zero, List.drop_succ_cons, List.drop_zero, List.reverse_cons, List.reverse_nil, List.nil_append, List.cons_append, List.length_cons, List.length_nil, true_and, and_true, Nat.zero_le, Nat.reduceLeDiff, Nat.reduceAdd, Nat.reduceEqDiff, false_imp_iff, true_imp_iff, not_false_eq_true, not_true_eq_false, imp_self, forall_const, lit_nle (k := 12) (n := e) (by omega) (by omega)]
      refine st_X4_findModel_18 ?_; simp only [bX4_findModel_18, exP, stP, p1, p2, pr, pobj, parr, sh0, sh1, sh2, sh3, sh4, sh5, sh6, sh7, sh8, sh9, sh10, sh11, sh12, sh13, sh14, sh15, sh16, sh17, sh18, sh19, sh20, sh21, sh22, sh23, sh24, sh25, sh26, sh27, sh28, sh29, sh30, sh31, sh32, sh33, sh34, sh35, sh36, sh37, sh38, sh39, sh40, sh41, sh42, sh43, sh44, sh45, sh46, sh47, sh48, sh49, sh50, sh51, sh52, sh53, sh54, sh55, sh56, sh57, sh58, sh59, brP, brN, swP, amask, apush, List.getElem?_cons_zero, List.getElem?_cons_succ, List.set_cons_zero, List.set_cons_succ, List.take_succ_cons, List.take_zero, List.drop_succ_cons, List.drop_zero, List.reverse_cons, List.reverse_nil, List.nil_append, List.cons_append, List.length_cons, List.length_nil, true_and, and_true, Nat.zero_le, Nat.reduceLeDiff, Nat.reduceAdd, Nat.reduceEqDiff, false_imp_iff, true_imp_iff, not_false_eq_true, not_true_eq_false, imp_self, forall_const, nI_inj (show e < 2147483648 by omega) (show d < 2147483648 by omega)]
      refine ⟨fun c => ?_, fun c => ?_⟩
      · refine st_X4_findModel_29 ?_; simp only [bX4_findModel_29, exP, stP, p1, p2, pr, pobj, parr, sh0, sh1, sh2, sh3, sh4, sh5, sh6, sh7, sh8, sh9, sh10, sh11, sh12, sh13, sh14, sh15, sh16, sh17, sh18, sh19, sh20, sh21, sh22, sh23, sh24, sh25, sh26, sh27, sh28, sh29, sh30, sh31, sh32, sh33, sh34, sh35, sh36, sh37, sh38, sh39, sh40, sh41, sh42, sh43, sh44, sh45, sh46, sh47, sh48, sh49, sh50, sh51, sh52, sh53, sh54, sh55, sh56, sh57, sh58, sh59, brP, brN, swP, amask, apush, List.getElem?_cons_zero, List.getElem?_cons_succ, List.set_cons_zero, List.set_cons_succ, List.take_succ_cons, List.take_zero, List.drop_succ_cons, List.drop_zero, List.reverse_cons, List.reverse_nil, List.nil_append, List.cons_append, List.length_cons, List.length_nil, true_and, and_true, Nat.zero_le, Nat.reduceLeDiff, Nat.reduceAdd, Nat.reduceEqDiff, false_imp_iff, true_imp_iff, not_false_eq_true, not_true_eq_false, imp_self, forall_const]
        rw [nI_1]
        refine ih (e + 1) u (by omega) hF ?_
        rw [hn, if_pos c]
        exact hM
      · refine st_X4_findModel_23 ?_; simp only [bX4_findModel_23, exP, stP, p1, p2, pr, pobj, parr, sh0, sh1, sh2, sh3, sh4, sh5, sh6, sh7, sh8, sh9, sh10, sh11, sh12, sh13, sh14, sh15, sh16, sh17, sh18, sh19, sh20, sh21, sh22, sh23, sh24, sh25, sh26, sh27, sh28, sh29, sh30, sh31, sh32, sh33, sh34, sh35, sh36, sh37, sh38, sh39, sh40, sh41, sh42, sh43, sh44, sh45, sh46, sh47, sh48, sh49, sh50, sh51, sh52, sh53, sh54, sh55, sh56, sh57, sh58, sh59, brP, brN, swP, amask, apush, List.getElem?_cons_zero, List.getElem?_cons_succ, List.set_cons_zero, List.set_cons_succ, List.take_succ_cons, List.take_zero, List.drop_succ_cons, List.drop_zero, List.reverse_cons, List.reverse_nil, List.nil_append, List.cons_append, List.length_cons, List.length_nil, true_and, and_true, Nat.zero_le, Nat.reduceLeDiff, Nat.reduceAdd, Nat.reduceEqDiff, false_imp_iff, true_imp_iff, not_false_eq_true, not_true_eq_false, imp_self, forall_const]
        refine ⟨_, ⟨3, by decide, c_compareWith m L hL d e hd (by omega) (hs d hd) (hs e (by omega)) u hF _ (mE_b hL (show ((3, -1, 0, 0) : MS).1 ≤ 20 from Nat.le_of_ble_eq_true rfl) e) hM⟩, ?_⟩
        rintro z v ⟨rfl, k1, k2⟩
        simp only [exP, stP, p1, p2, pr, pobj, parr, sh0, sh1, sh2, sh3, sh4, sh5, sh6, sh7, sh8, sh9, sh10, sh11, sh12, sh13, sh14, sh15, sh16, sh17, sh18, sh19, sh20, sh21, sh22, sh23, sh24, sh25, sh26, sh27, sh28, sh29, sh30, sh31, sh32, sh33, sh34, sh35, sh36, sh37, sh38, sh39, sh40, sh41, sh42, sh43, sh44, sh45, sh46, sh47, sh48, sh49, sh50, sh51, sh52, sh53, sh54, sh55, sh56, sh57, sh58, sh59, brP, brN, swP, amask, apush, List.getElem?_cons_zero, List.getElem?_cons_succ, List.set_cons_zero, List.set_cons_succ, List.take_succ_cons, List.take_zero, List.drop_succ_cons, List.drop_zero, List.reverse_cons, List.reverse_nil, List.nil_append, List.cons_append, List.length_cons, List.length_nil, true_and, and_true, Nat.zero_le, Nat.reduceLeDiff, Nat.reduceAdd, Nat.reduceEqDiff, false_imp_iff, true_imp_iff, not_false_eq_true, not_true_eq_false, imp_self, forall_const]
        refine st_X4_findModel_29 ?_; simp only [bX4_findModel_29, exP, stP, p1, p2, pr, pobj, parr, sh0, sh1, sh2, sh3, sh4, sh5, sh6, sh7, sh8, sh9, sh10, sh11, sh12, sh13, sh14, sh15, sh16, sh17, sh18, sh19, sh20, sh21, sh22, sh23, sh24, sh25, sh26, sh27, sh28, sh29, sh30, sh31, sh32, sh33, sh34, sh35, sh36, sh37, sh38, sh39, sh40, sh41, sh42, sh43, sh44, sh45, sh46, sh47, sh48, sh49, sh50, sh51, sh52, sh53, sh54, sh55, sh56, sh57, sh58, sh59, brP, brN, swP, amask, apush, List.getElem?_cons_zero, List.getElem?_cons_succ, List.set_cons_zero, List.set_cons_succ, List.take_succ_cons, List.take_zero, List.drop_succ_cons, List.drop_zero, List.reverse_cons, List.reverse_nil, List.nil_append, List.cons_append, List.length_cons, List.length_nil, true_and, and_true, Nat.zero_le, Nat.reduceLeDiff, Nat.reduceAdd, Nat.reduceEqDiff, false_imp_iff, true_imp_iff, not_false_eq_true, not_true_eq_false, imp_self, forall_const]
        rw [nI_1]
        refine ih (e + 1) v (by omega) k1 ?_
        rw [hn, if_neg c]
        exact k2
  refine st_X4_findModel_0 ?_; simp only [bX4_findModel_0, exP, stP, p1, p2, pr, pobj, parr, sh0, sh1, sh2, sh3, sh4, sh5, sh6, sh7, sh8, sh9, sh10, sh11, sh12, sh13, sh14, sh15, sh16, sh17, sh18, sh19, sh20, sh21, sh22, sh23, sh24, sh25, sh26, sh27, sh28, sh29, sh30, sh31, sh32, sh33, sh34, sh35, sh36, sh37, sh38, sh39, sh40, sh41, sh42, sh43, sh44, sh45, sh46, sh47, sh48, sh49, sh50, sh51, sh52, sh53, sh54, sh55, sh56, sh57, sh58, sh59, brP, brN, swP, amask, apush, List.getElem?_cons_zero, List.getElem?_cons_succ, List.set_cons_zero, List.set_cons_succ, List.take_succ_cons, List.take_zero, List.drop_succ_cons, List.drop_zero, List.reverse_cons, List.reverse_nil, List.nil_append, List.cons_append, List.length_cons, List.length_nil, true_and, and_true, Nat.zero_le, Nat.reduceLeDiff, Nat.reduceAdd, Nat.reduceEqDiff, false_imp_iff, true_imp_iff, not_false_eq_true, not_true_eq_false, imp_self, forall_const, true_or, or_true]
  refine loop 12 0 _ rfl ⟨fun k hk => by rw [aup_ne hk, aup_ne hk], by rw [aup_eq, upd_ne (by omega), aup_eq, upd_ne (by omega)]⟩ ⟨?_, ?_, fun q => absurd rfl q⟩
  · rw [aup_eq, upd_ne (by omega), aup_eq, upd_eq]; rfl
  · rw [aup_eq, upd_eq]; rfl
def mAns (S : MS) (y : Int32) : Int32 := if S.2.1 = -1 then -1 else if y = 0 then S.2.1 else if y = 1 then nI S.1 else if y = 2 then nI S.2.2.1 else nI S.2.2.2
