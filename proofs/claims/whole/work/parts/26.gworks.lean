/-! ===== the reference: works ===== -/
def rng (x : Int32) : Prop := 0 ≤ x.toInt ∧ x.toInt ≤ 3000
def YOK (m : AM) : Prop := (∀ i, i < 20 → rng (m 36 i) ∧ rng (m 37 i)) ∧ (∀ i, i < 10 → rng (m 38 i) ∧ rng (m 39 i)) ∧ (∀ i, i < 8 → rng (m 40 i) ∧ rng (m 41 i)) ∧ ∀ i, i < 12 → rng (m 42 i) ∧ rng (m 43 i)
theorem YOK_congr {m u : AM} (h : ∀ k, 36 ≤ k → k ≤ 43 → u k = m k) (hY : YOK m) : YOK u := by
  unfold YOK at hY ⊢
  rw [h 36 (by omega) (by omega), h 37 (by omega) (by omega), h 38 (by omega) (by omega), h 39 (by omega) (by omega), h 40 (by omega) (by omega), h 41 (by omega) (by omega), h 42 (by omega) (by omega), h 43 (by omega) (by omega)]
  exact hY
def PRE (m : AM) (nd : Nat) : Prop := MOK m nd ∧ YOK m ∧ (0 ≤ (m 34 2).toInt ∧ (m 34 2).toInt ≤ 200) ∧ ∀ i, i < nd → 1 ≤ wtg m i ∧ wtg m i ≤ 99
/-- what is worked out is right -/
def FRS (u : AM) (nd : Nat) : Prop := (∀ d, d < nd → OWN u u nd d) ∧ GW u nd ∧ (∀ t, t ≤ fullN nd → ∃ g, u 59 t = b01 g ∧ (g = true ↔ agr (gF u) (gL u) (gC u) t)) ∧
  (∃ f, u 34 32 = nI f ∧ isF (gF u) (gL u) (gC u) (wtg u) (fullN nd) f ∧ isM (gF u) (gC u) (dif (fullN nd) f) (fun b => (u 57 b).toInt) ∧ isG (gL u) (gC u) (dif (fullN nd) f) (fun b => (u 58 b).toInt)) ∧
  ∃ q, u 34 33 = nI q ∧ ((q = 0 ∧ agr (gF u) (gL u) (gC u) (fullN nd)) ∨ isQ (gF u) (gL u) (gC u) (fullN nd) q)
def WFR (m u : AM) : Prop := (∀ k, k ≠ 34 → (k < 53 ∨ 59 < k) → u k = m k) ∧ ∀ j, j ≠ 30 → j ≠ 32 → j ≠ 33 → u 34 j = m 34 j
/-- the same but for 57, 58, 59 and the fields 32, 33 -/
def SG (b v : AM) : Prop := (∀ k, k ≠ 34 → k ≠ 57 → k ≠ 58 → k ≠ 59 → v k = b k) ∧ ∀ j, j ≠ 32 → j ≠ 33 → v 34 j = b 34 j
theorem SG.rf (b : AM) : SG b b := ⟨fun _ _ _ _ _ => rfl, fun _ _ _ => rfl⟩
theorem SG.tr {a b c : AM} (h1 : SG a b) (h2 : SG b c) : SG a c := ⟨fun k k1 k2 k3 k4 => (h2.1 k k1 k2 k3 k4).trans (h1.1 k k1 k2 k3 k4), fun j j1 j2 => (h2.2 j j1 j2).trans (h1.2 j j1 j2)⟩
theorem SG_F {b v : AM} (h : SG b v) : gF v = gF b := by funext d; show (v 53 d).toInt = (b 53 d).toInt; rw [h.1 53 (by omega) (by omega) (by omega) (by omega)]
theorem SG_L {b v : AM} (h : SG b v) : gL v = gL b := by funext d; show (v 54 d).toInt = (b 54 d).toInt; rw [h.1 54 (by omega) (by omega) (by omega) (by omega)]
theorem SG_C {b v : AM} (h : SG b v) : gC v = gC b := by
  funext x y
  have e1 := h.1 55 (by omega) (by omega) (by omega) (by omega)
  have e2 := h.1 56 (by omega) (by omega) (by omega) (by omega)
  have e3 := h.2 2 (by omega) (by omega)
  unfold gC
  rw [e1, e2, e3]
theorem SG_W {b v : AM} (h : SG b v) : wtg v = wtg b := by funext d; show (v 44 d).toInt = (b 44 d).toInt; rw [h.1 44 (by omega) (by omega) (by omega) (by omega)]
theorem SG_GW {b v : AM} (h : SG b v) {nd : Nat} (hG : GW b nd) : GW v nd := by
  have e1 := h.1 55 (by omega) (by omega) (by omega) (by omega)
  unfold GW at hG ⊢
  rw [SG_F h, SG_L h, h.2 6 (by omega) (by omega), h.2 2 (by omega) (by omega), e1]
  exact hG
def W1 (b : AM) (nd s : Nat) (v : AM) : Prop := SG b v ∧ (∀ x, x < s → ∃ g, v 59 x = b01 g ∧ (g = true ↔ agr (gF b) (gL b) (gC b) x)) ∧ ∃ q, v 34 33 = nI q ∧ q < 4096 ∧ ((q = 0 ∧ ∀ x, x < s → agr (gF b) (gL b) (gC b) x) ∨ (q < s ∧ ¬ agr (gF b) (gL b) (gC b) q ∧ ∀ x, x < s → ¬ agr (gF b) (gL b) (gC b) x → sz q < sz x ∨ (sz q = sz x ∧ q ≤ x)))
theorem w_works1 (Qp : APost) (b : AM) (nd : Nat) (hG : GW b nd)
    (kk : ∀ v, W1 b nd (fullN nd + 1) v → AW 3 kX6_works Qp 90 [some (.inr 34), some (.inl (nI (fullN nd))), none, none] [] v) :
    ∀ (n s : Nat) (v : AM), s + n = fullN nd + 1 → W1 b nd s v → AW 3 kX6_works Qp 33 [some (.inr 34), some (.inl (nI (fullN nd))), some (.inl (nI s)), none] [] v := by
  have hnd := hG.1
  have hA := fullN_lt hnd
  intro n
  induction n with
  | zero =>
    intro s v hs hW
    obtain rfl : s = fullN nd + 1 := by omega
    refine st_X6_works_33 ?_; simp only [bX6_works_33, exP, stP, p1, p2, pr, pobj, parr, sh0, sh1, sh2, sh3, sh4, sh5, sh6, sh7, sh8, sh9, sh10, sh11, sh12, sh13, sh14, sh15, sh16, sh17, sh18, sh19, sh20, sh21, sh22, sh23, sh24, sh25, sh26, sh27, sh28, sh29, sh30, sh31, sh32, sh33, sh34, sh35, sh36, sh37, sh38, sh39, sh40, sh41, sh42, sh43, sh44, sh45, sh46, sh47, sh48, sh49, sh50, sh51, sh52, sh53, sh54, sh55, sh56, sh57, sh58, sh59, brP, brN, swP, amask, apush, List.getElem?_cons_zero, List.getElem?_cons_succ, List.set_cons_zero, List.set_cons_succ, List.take_succ_cons, List.take_zero, List.drop_succ_cons, List.drop_zero, List.reverse_cons, List.reverse_nil, List.nil_append, List.cons_append, List.length_cons, List.length_nil, true_and, and_true, Nat.zero_le, Nat.reduceLeDiff, Nat.reduceAdd, Nat.reduceEqDiff, false_imp_iff, true_imp_iff, not_false_eq_true, not_true_eq_false, imp_self, forall_const, eq_true (nI_lt (show fullN nd < fullN nd + 1 by omega) (show fullN nd + 1 < 2 ^ 31 by omega))]
    exact kk v hW
  | succ n ih =>
    intro s v hs hW
    obtain ⟨hS, hg, q, hq, hq2, hq3⟩ := hW
    have hs2 : s < 4096 := by omega
    have vs := eq_true (vp_in_nI (show s < 4096 by omega) (show 4096 < 2 ^ 31 by omega))
    have cs := nI_clamp (show s < 2 ^ 31 by omega)
    have next : ∀ v', W1 b nd (s + 1) v' → AW 3 kX6_works Qp 84 [some (.inr 34), some (.inl (nI (fullN nd))), some (.inl (nI s)), none] [] v' := by
      intro v' hW'
      refine st_X6_works_84 ?_; simp only [bX6_works_84, exP, stP, p1, p2, pr, pobj, parr, sh0, sh1, sh2, sh3, sh4, sh5, sh6, sh7, sh8, sh9, sh10, sh11, sh12, sh13, sh14, sh15, sh16, sh17, sh18, sh19, sh20, sh21, sh22, sh23, sh24, sh25, sh26, sh27, sh28, sh29, sh30, sh31, sh32, sh33, sh34, sh35, sh36, sh37, sh38, sh39, sh40, sh41, sh42, sh43, sh44, sh45, sh46, sh47, sh48, sh49, sh50, sh51, sh52, sh53, sh54, sh55, sh56, sh57, sh58, sh59, brP, brN, swP, amask, apush, List.getElem?_cons_zero, List.getElem?_cons_succ, List.set_cons_zero, List.set_cons_succ, List.take_succ_cons, List.take_zero, List.drop_succ_cons, List.drop_zero, List.reverse_cons, List.reverse_nil, List.nil_append, List.cons_append, List.length_cons, List.length_nil, true_and, and_true, Nat.zero_le, Nat.reduceLeDiff, Nat.reduceAdd, Nat.reduceEqDiff, false_imp_iff, true_imp_iff, not_false_eq_true, not_true_eq_false, imp_self, forall_const]
      rw [nI_1]
      exact ih (s + 1) v' (by omega) hW'
    refine st_X6_works_33 ?_; simp only [bX6_works_33, exP, stP, p1, p2, pr, pobj, parr, sh0, sh1, sh2, sh3, sh4, sh5, sh6, sh7, sh8, sh9, sh10, sh11, sh12, sh13, sh14, sh15, sh16, sh17, sh18, sh19, sh20, sh21, sh22, sh23, sh24, sh25, sh26, sh27, sh28, sh29, sh30, sh31, sh32, sh33, sh34, sh35, sh36, sh37, sh38, sh39, sh40, sh41, sh42, sh43, sh44, sh45, sh46, sh47, sh48, sh49, sh50, sh51, sh52, sh53, sh54, sh55, sh56, sh57, sh58, sh59, brP, brN, swP, amask, apush, List.getElem?_cons_zero, List.getElem?_cons_succ, List.set_cons_zero, List.set_cons_succ, List.take_succ_cons, List.take_zero, List.drop_succ_cons, List.drop_zero, List.reverse_cons, List.reverse_nil, List.nil_append, List.cons_append, List.length_cons, List.length_nil, true_and, and_true, Nat.zero_le, Nat.reduceLeDiff, Nat.reduceAdd, Nat.reduceEqDiff, false_imp_iff, true_imp_iff, not_false_eq_true, not_true_eq_false, imp_self, forall_const, eq_false (nI_nlt (show s ≤ fullN nd by omega) (show fullN nd < 2 ^ 31 by omega))]
    refine st_X6_works_38 ?_; simp only [bX6_works_38, exP, stP, p1, p2, pr, pobj, parr, sh0, sh1, sh2, sh3, sh4, sh5, sh6, sh7, sh8, sh9, sh10, sh11, sh12, sh13, sh14, sh15, sh16, sh17, sh18, sh19, sh20, sh21, sh22, sh23, sh24, sh25, sh26, sh27, sh28, sh29, sh30, sh31, sh32, sh33, sh34, sh35, sh36, sh37, sh38, sh39, sh40, sh41, sh42, sh43, sh44, sh45, sh46, sh47, sh48, sh49, sh50, sh51, sh52, sh53, sh54, sh55, sh56, sh57, sh58, sh59, brP, brN, swP, amask, apush, List.getElem?_cons_zero, List.getElem?_cons_succ, List.set_cons_zero, List.set_cons_succ, List.take_succ_cons, List.take_zero, List.drop_succ_cons, List.drop_zero, List.reverse_cons, List.reverse_nil, List.nil_append, List.cons_append, List.length_cons, List.length_nil, true_and, and_true, Nat.zero_le, Nat.reduceLeDiff, Nat.reduceAdd, Nat.reduceEqDiff, false_imp_iff, true_imp_iff, not_false_eq_true, not_true_eq_false, imp_self, forall_const]
    refine ⟨_, ⟨2, by decide, c_agrees v nd s (SG_GW hS hG) hs2 (le_fullN.mp (by omega))⟩, ?_⟩
    rintro z u ⟨h1, ag, rfl, hag⟩
    rw [SG_F hS, SG_L hS, SG_C hS] at hag
    simp only [exP, stP, p1, p2, pr, pobj, parr, sh0, sh1, sh2, sh3, sh4, sh5, sh6, sh7, sh8, sh9, sh10, sh11, sh12, sh13, sh14, sh15, sh16, sh17, sh18, sh19, sh20, sh21, sh22, sh23, sh24, sh25, sh26, sh27, sh28, sh29, sh30, sh31, sh32, sh33, sh34, sh35, sh36, sh37, sh38, sh39, sh40, sh41, sh42, sh43, sh44, sh45, sh46, sh47, sh48, sh49, sh50, sh51, sh52, sh53, sh54, sh55, sh56, sh57, sh58, sh59, brP, brN, swP, amask, apush, List.getElem?_cons_zero, List.getElem?_cons_succ, List.set_cons_zero, List.set_cons_succ, List.take_succ_cons, List.take_zero, List.drop_succ_cons, List.drop_zero, List.reverse_cons, List.reverse_nil, List.nil_append, List.cons_append, List.length_cons, List.length_nil, true_and, and_true, Nat.zero_le, Nat.reduceLeDiff, Nat.reduceAdd, Nat.reduceEqDiff, false_imp_iff, true_imp_iff, not_false_eq_true, not_true_eq_false, imp_self, forall_const, vs, cs, nar_b01, true_or, or_true, aup_eq, upd_eq, b01_0]
    have hSu : SG b (aup u 59 (upd (u 59) s (b01 ag))) := ⟨fun k k1 k2 k3 k4 => by rw [aup_ne k4, h1 k k2]; exact hS.1 k k1 k2 k3 k4, fun j j1 j2 => by rw [aup_ne (by omega), h1 34 (by omega)]; exact hS.2 j j1 j2⟩
    have e59 : aup u 59 (upd (u 59) s (b01 ag)) 59 = upd (v 59) s (b01 ag) := by rw [aup_eq, h1 59 (by omega)]
    have e34 : aup u 59 (upd (u 59) s (b01 ag)) 34 = v 34 := by rw [aup_ne (by omega), h1 34 (by omega)]
    generalize aup u 59 (upd (u 59) s (b01 ag)) = w at hSu e59 e34 ⊢
    have hg' : ∀ x, x < s + 1 → ∃ g, w 59 x = b01 g ∧ (g = true ↔ agr (gF b) (gL b) (gC b) x) := by
      intro x hx
      rw [e59]
      by_cases r : x = s
      · subst r; rw [upd_eq]; exact ⟨ag, rfl, hag⟩
      · rw [upd_ne r]; exact hg x (by omega)
    refine ⟨fun c => ?_, fun c => ?_⟩
    · have c' : ag = true := by simpa using c
      refine next w ⟨hSu, hg', q, by rw [e34]; exact hq, hq2, ?_⟩
      rcases hq3 with ⟨r1, r2⟩ | ⟨r1, r2, r3⟩
      · refine Or.inl ⟨r1, fun x hx => ?_⟩
        by_cases r : x = s
        · subst r; exact hag.mp c'
        · exact r2 x (by omega)
      · refine Or.inr ⟨by omega, r2, fun x hx hn => ?_⟩
        by_cases r : x = s
        · subst r; exact absurd (hag.mp c') hn
        · exact r3 x (by omega) hn
    · have hns : ¬ agr (gF b) (gL b) (gC b) s := fun h => by rw [hag.mpr h] at c; cases c
      have hs0 : s ≠ 0 := fun h => hns (by rw [h]; exact agr_zero)
      have take : (∀ x, x < s → ¬ agr (gF b) (gL b) (gC b) x → sz s < sz x ∨ (sz s = sz x ∧ s ≤ x)) → AW 3 kX6_works Qp 79 [some (.inr 34), some (.inl (nI (fullN nd))), some (.inl (nI s)), none] [] w := by
        intro hmin
        refine st_X6_works_79 ?_; simp only [bX6_works_79, exP, stP, p1, p2, pr, pobj, parr, sh0, sh1, sh2, sh3, sh4, sh5, sh6, sh7, sh8, sh9, sh10, sh11, sh12, sh13, sh14, sh15, sh16, sh17, sh18, sh19, sh20, sh21, sh22, sh23, sh24, sh25, sh26, sh27, sh28, sh29, sh30, sh31, sh32, sh33, sh34, sh35, sh36, sh37, sh38, sh39, sh40, sh41, sh42, sh43, sh44, sh45, sh46, sh47, sh48, sh49, sh50, sh51, sh52, sh53, sh54, sh55, sh56, sh57, sh58, sh59, brP, brN, swP, amask, apush, List.getElem?_cons_zero, List.getElem?_cons_succ, List.set_cons_zero, List.set_cons_succ, List.take_succ_cons, List.take_zero, List.drop_succ_cons, List.drop_zero, List.reverse_cons, List.reverse_nil, List.nil_append, List.cons_append, List.length_cons, List.length_nil, true_and, and_true, Nat.zero_le, Nat.reduceLeDiff, Nat.reduceAdd, Nat.reduceEqDiff, false_imp_iff, true_imp_iff, not_false_eq_true, not_true_eq_false, imp_self, forall_const, true_or]
        refine next _ ⟨⟨fun k k1 k2 k3 k4 => by rw [aup_ne k1]; exact hSu.1 k k1 k2 k3 k4, fun j j1 j2 => by rw [aup_eq, upd_ne j2]; exact hSu.2 j j1 j2⟩, fun x hx => by rw [aup_ne (by omega)]; exact hg' x hx, s, by rw [aup_eq, upd_eq], hs2, Or.inr ⟨by omega, hns, fun x hx hn => ?_⟩⟩
        by_cases r : x = s
        · subst r; exact Or.inr ⟨rfl, Nat.le_refl _⟩
        · exact hmin x (by omega) hn
      refine st_X6_works_58 ?_; simp only [bX6_works_58, exP, stP, p1, p2, pr, pobj, parr, sh0, sh1, sh2, sh3, sh4, sh5, sh6, sh7, sh8, sh9, sh10, sh11, sh12, sh13, sh14, sh15, sh16, sh17, sh18, sh19, sh20, sh21, sh22, sh23, sh24, sh25, sh26, sh27, sh28, sh29, sh30, sh31, sh32, sh33, sh34, sh35, sh36, sh37, sh38, sh39, sh40, sh41, sh42, sh43, sh44, sh45, sh46, sh47, sh48, sh49, sh50, sh51, sh52, sh53, sh54, sh55, sh56, sh57, sh58, sh59, brP, brN, swP, amask, apush, List.getElem?_cons_zero, List.getElem?_cons_succ, List.set_cons_zero, List.set_cons_succ, List.take_succ_cons, List.take_zero, List.drop_succ_cons, List.drop_zero, List.reverse_cons, List.reverse_nil, List.nil_append, List.cons_append, List.length_cons, List.length_nil, true_and, and_true, Nat.zero_le, Nat.reduceLeDiff, Nat.reduceAdd, Nat.reduceEqDiff, false_imp_iff, true_imp_iff, not_false_eq_true, not_true_eq_false, imp_self, forall_const]
      rw [e34, hq]
      refine ⟨fun c1 => ?_, fun c1 => ?_⟩
      · have hq0 : q = 0 := (nI_eq (a := q) (b := 0) (by omega) (by omega)).mp c1
        rcases hq3 with ⟨r1, r2⟩ | ⟨r1, r2, r3⟩
        · exact take (fun x hx hn => absurd (r2 x hx) hn)
        · rw [hq0] at r2
          exact absurd agr_zero r2
      · have hq0 : q ≠ 0 := fun h => c1 (by rw [h]; rfl)
        rcases hq3 with ⟨r1, r2⟩ | ⟨r1, r2, r3⟩
        · exact absurd r1 hq0
        · refine st_X6_works_65 ?_; simp only [bX6_works_65, exP, stP, p1, p2, pr, pobj, parr, sh0, sh1, sh2, sh3, sh4, sh5, sh6, sh7, sh8, sh9, sh10, sh11, sh12, sh13, sh14, sh15, sh16, sh17, sh18, sh19, sh20, sh21, sh22, sh23, sh24, sh25, sh26, sh27, sh28, sh29, sh30, sh31, sh32, sh33, sh34, sh35, sh36, sh37, sh38, sh39, sh40, sh41, sh42, sh43, sh44, sh45, sh46, sh47, sh48, sh49, sh50, sh51, sh52, sh53, sh54, sh55, sh56, sh57, sh58, sh59, brP, brN, swP, amask, apush, List.getElem?_cons_zero, List.getElem?_cons_succ, List.set_cons_zero, List.set_cons_succ, List.take_succ_cons, List.take_zero, List.drop_succ_cons, List.drop_zero, List.reverse_cons, List.reverse_nil, List.nil_append, List.cons_append, List.length_cons, List.length_nil, true_and, and_true, Nat.zero_le, Nat.reduceLeDiff, Nat.reduceAdd, Nat.reduceEqDiff, false_imp_iff, true_imp_iff, not_false_eq_true, not_true_eq_false, imp_self, forall_const]
          refine ⟨_, ⟨0, by decide, c_sizeOf w s hs2⟩, ?_⟩
          rintro z u2 ⟨rfl, rfl⟩
          simp only [exP, stP, p1, p2, pr, pobj, parr, sh0, sh1, sh2, sh3, sh4, sh5, sh6, sh7, sh8, sh9, sh10, sh11, sh12, sh13, sh14, sh15, sh16, sh17, sh18, sh19, sh20, sh21, sh22, sh23, sh24, sh25, sh26, sh27, sh28, sh29, sh30, sh31, sh32, sh33, sh34, sh35, sh36, sh37, sh38, sh39, sh40, sh41, sh42, sh43, sh44, sh45, sh46, sh47, sh48, sh49, sh50, sh51, sh52, sh53, sh54, sh55, sh56, sh57, sh58, sh59, brP, brN, swP, amask, apush, List.getElem?_cons_zero, List.getElem?_cons_succ, List.set_cons_zero, List.set_cons_succ, List.take_succ_cons, List.take_zero, List.drop_succ_cons, List.drop_zero, List.reverse_cons, List.reverse_nil, List.nil_append, List.cons_append, List.length_cons, List.length_nil, true_and, and_true, Nat.zero_le, Nat.reduceLeDiff, Nat.reduceAdd, Nat.reduceEqDiff, false_imp_iff, true_imp_iff, not_false_eq_true, not_true_eq_false, imp_self, forall_const]
          rw [e34, hq]
          refine ⟨_, ⟨0, by decide, c_sizeOf w q hq2⟩, ?_⟩
          rintro z u2 ⟨rfl, rfl⟩
          have z1 := pcN_le s 12
          have z2 := pcN_le q 12
          have z1' : sz s ≤ 12 := z1
          have z2' : sz q ≤ 12 := z2
          simp only [exP, stP, p1, p2, pr, pobj, parr, sh0, sh1, sh2, sh3, sh4, sh5, sh6, sh7, sh8, sh9, sh10, sh11, sh12, sh13, sh14, sh15, sh16, sh17, sh18, sh19, sh20, sh21, sh22, sh23, sh24, sh25, sh26, sh27, sh28, sh29, sh30, sh31, sh32, sh33, sh34, sh35, sh36, sh37, sh38, sh39, sh40, sh41, sh42, sh43, sh44, sh45, sh46, sh47, sh48, sh49, sh50, sh51, sh52, sh53, sh54, sh55, sh56, sh57, sh58, sh59, brP, brN, swP, amask, apush, List.getElem?_cons_zero, List.getElem?_cons_succ, List.set_cons_zero, List.set_cons_succ, List.take_succ_cons, List.take_zero, List.drop_succ_cons, List.drop_zero, List.reverse_cons, List.reverse_nil, List.nil_append, List.cons_append, List.length_cons, List.length_nil, true_and, and_true, Nat.zero_le, Nat.reduceLeDiff, Nat.reduceAdd, Nat.reduceEqDiff, false_imp_iff, true_imp_iff, not_false_eq_true, not_true_eq_false, imp_self, forall_const]
          rw [nI_leI (by omega) (by omega)]
          refine ⟨fun c2 => ?_, fun c2 => ?_⟩
          · refine next w ⟨hSu, hg', q, by rw [e34]; exact hq, hq2, Or.inr ⟨by omega, r2, fun x hx hn => ?_⟩⟩
            by_cases r : x = s
            · subst r; omega
            · exact r3 x (by omega) hn
          · refine take (fun x hx hn => ?_)
            have := r3 x hx hn
            omega
def W2 (b : AM) (nd n : Nat) (v : AM) : Prop := SG b v ∧ (∀ x, x ≤ fullN nd → ∃ g, v 59 x = b01 g ∧ (g = true ↔ agr (gF b) (gL b) (gC b) x)) ∧ (∃ q, v 34 33 = nI q ∧ ((q = 0 ∧ agr (gF b) (gL b) (gC b) (fullN nd)) ∨ isQ (gF b) (gL b) (gC b) (fullN nd) q)) ∧
  ∃ f, v 34 32 = nI f ∧ f ≤ fullN nd ∧ agr (gF b) (gL b) (gC b) (dif (fullN nd) f) ∧ (n ≤ f ∨ f = fullN nd) ∧ ∀ x, n ≤ x → x ≤ fullN nd → agr (gF b) (gL b) (gC b) (dif (fullN nd) x) → nw (wtg b) f x
theorem dif_le {A x : Nat} : dif A x ≤ A := by
  rcases Nat.lt_or_ge A (dif A x) with h | h
  · exfalso
    have hsub : ∀ i, (dif A x).testBit i = true → A.testBit i = true := fun i hi => by
      rw [dif_bit] at hi
      simp at hi
      exact hi.1
    have hne : A ≠ dif A x := by omega
    have : ∃ i, A.testBit i = true ∧ (dif A x).testBit i = false := by
      rcases Classical.em (∃ i, A.testBit i = true ∧ (dif A x).testBit i = false) with r | r
      · exact r
      · exfalso
        apply hne
        apply Nat.eq_of_testBit_eq
        intro i
        cases h1 : A.testBit i with
        | false =>
          cases h2 : (dif A x).testBit i with
          | false => rfl
          | true => rw [hsub i h2] at h1; cases h1
        | true =>
          cases h2 : (dif A x).testBit i with
          | true => rfl
          | false => exact absurd ⟨i, h1, h2⟩ r
    obtain ⟨i, h1, h2⟩ := this
    have := set_lt h2 h1 (fun j _ hj => hsub j hj)
    omega
  · exact h
theorem w_works2 (Qp : APost) (b : AM) (nd : Nat) (hG : GW b nd) (hwt : ∀ i, i < nd → 0 ≤ wtg b i ∧ wtg b i ≤ 99)
    (kk : ∀ v, W2 b nd 0 v → AW 3 kX6_works Qp 165 [some (.inr 34), some (.inl (nI (fullN nd))), none, none] [] v) :
    ∀ (n : Nat) (v : AM), n ≤ fullN nd + 1 → W2 b nd n v → AW 3 kX6_works Qp 97 [some (.inr 34), some (.inl (nI (fullN nd))), some (.inl (nI n - 1)), none] [] v := by
  have hnd := hG.1
  have hA := fullN_lt hnd
  intro n
  induction n with
  | zero =>
    intro v _ hW
    refine st_X6_works_97 ?_; simp only [bX6_works_97, exP, stP, p1, p2, pr, pobj, parr, sh0, sh1, sh2, sh3, sh4, sh5, sh6, sh7, sh8, sh9, sh10, sh11, sh12, sh13, sh14, sh15, sh16, sh17, sh18, sh19, sh20, sh21, sh22, sh23, sh24, sh25, sh26, sh27, sh28, sh29, sh30, sh31, sh32, sh33, sh34, sh35, sh36, sh37, sh38, sh39, sh40, sh41, sh42, sh43, sh44, sh45, sh46, sh47, sh48, sh49, sh50, sh51, sh52, sh53, sh54, sh55, sh56, sh57, sh58, sh59, brP, brN, swP, amask, apush, List.getElem?_cons_zero, List.getElem?_cons_succ, List.set_cons_zero, List.set_cons_succ, List.take_succ_cons, List.take_zero, List.drop_succ_cons, List.drop_zero, List.reverse_cons, List.reverse_nil, List.nil_append, List.cons_append, List.length_cons, List.length_nil, true_and, and_true, Nat.zero_le, Nat.reduceLeDiff, Nat.reduceAdd, Nat.reduceEqDiff, false_imp_iff, true_imp_iff, not_false_eq_true, not_true_eq_false, imp_self, forall_const]
    exact ⟨fun _ => kk v hW, fun c => absurd (by decide) c⟩
  | succ s ih =>
    intro v hs hW
    obtain ⟨hS, hg, hq, f, hf, hf1, hf2, hf3, hf4⟩ := hW
    have hs2 : s < 4096 := by omega
    have hf5 : f < 4096 := by omega
    have hd := dif_le (A := fullN nd) (x := s)
    have vx := eq_true (vp_in_nI (show dif (fullN nd) s < 4096 by omega) (show 4096 < 2 ^ 31 by omega))
    have cx := nI_clamp (show dif (fullN nd) s < 2 ^ 31 by omega)
    have e1 : nI (s + 1) - 1 = nI s := nI_pred s
    have e2 : nI s + -1 = nI s - 1 := by rw [Int32.sub_eq_add_neg]
    rw [e1]
    obtain ⟨g, hg1, hg2⟩ := hg (dif (fullN nd) s) hd
    have next : ∀ v', W2 b nd s v' → AW 3 kX6_works Qp 159 [some (.inr 34), some (.inl (nI (fullN nd))), some (.inl (nI s)), none] [] v' := by
      intro v' hW'
      refine st_X6_works_159 ?_; simp only [bX6_works_159, exP, stP, p1, p2, pr, pobj, parr, sh0, sh1, sh2, sh3, sh4, sh5, sh6, sh7, sh8, sh9, sh10, sh11, sh12, sh13, sh14, sh15, sh16, sh17, sh18, sh19, sh20, sh21, sh22, sh23, sh24, sh25, sh26, sh27, sh28, sh29, sh30, sh31, sh32, sh33, sh34, sh35, sh36, sh37, sh38, sh39, sh40, sh41, sh42, sh43, sh44, sh45, sh46, sh47, sh48, sh49, sh50, sh51, sh52, sh53, sh54, sh55, sh56, sh57, sh58, sh59, brP, brN, swP, amask, apush, List.getElem?_cons_zero, List.getElem?_cons_succ, List.set_cons_zero, List.set_cons_succ, List.take_succ_cons, List.take_zero, List.drop_succ_cons, List.drop_zero, List.reverse_cons, List.reverse_nil, List.nil_append, List.cons_append, List.length_cons, List.length_nil, true_and, and_true, Nat.zero_le, Nat.reduceLeDiff, Nat.reduceAdd, Nat.reduceEqDiff, false_imp_iff, true_imp_iff, not_false_eq_true, not_true_eq_false, imp_self, forall_const]
      rw [e2]
      exact ih v' (by omega) hW'
    refine st_X6_works_97 ?_; simp only [bX6_works_97, exP, stP, p1, p2, pr, pobj, parr, sh0, sh1, sh2, sh3, sh4, sh5, sh6, sh7, sh8, sh9, sh10, sh11, sh12, sh13, sh14, sh15, sh16, sh17, sh18, sh19, sh20, sh21, sh22, sh23, sh24, sh25, sh26, sh27, sh28, sh29, sh30, sh31, sh32, sh33, sh34, sh35, sh36, sh37, sh38, sh39, sh40, sh41, sh42, sh43, sh44, sh45, sh46, sh47, sh48, sh49, sh50, sh51, sh52, sh53, sh54, sh55, sh56, sh57, sh58, sh59, brP, brN, swP, amask, apush, List.getElem?_cons_zero, List.getElem?_cons_succ, List.set_cons_zero, List.set_cons_succ, List.take_succ_cons, List.take_zero, List.drop_succ_cons, List.drop_zero, List.reverse_cons, List.reverse_nil, List.nil_append, List.cons_append, List.length_cons, List.length_nil, true_and, and_true, Nat.zero_le, Nat.reduceLeDiff, Nat.reduceAdd, Nat.reduceEqDiff, false_imp_iff, true_imp_iff, not_false_eq_true, not_true_eq_false, imp_self, forall_const, nI_lt0 (show s < 2147483648 by omega)]
    refine st_X6_works_101 ?_; simp only [bX6_works_101, exP, stP, p1, p2, pr, pobj, parr, sh0, sh1, sh2, sh3, sh4, sh5, sh6, sh7, sh8, sh9, sh10, sh11, sh12, sh13, sh14, sh15, sh16, sh17, sh18, sh19, sh20, sh21, sh22, sh23, sh24, sh25, sh26, sh27, sh28, sh29, sh30, sh31, sh32, sh33, sh34, sh35, sh36, sh37, sh38, sh39, sh40, sh41, sh42, sh43, sh44, sh45, sh46, sh47, sh48, sh49, sh50, sh51, sh52, sh53, sh54, sh55, sh56, sh57, sh58, sh59, brP, brN, swP, amask, apush, List.getElem?_cons_zero, List.getElem?_cons_succ, List.set_cons_zero, List.set_cons_succ, List.take_succ_cons, List.take_zero, List.drop_succ_cons, List.drop_zero, List.reverse_cons, List.reverse_nil, List.nil_append, List.cons_append, List.length_cons, List.length_nil, true_and, and_true, Nat.zero_le, Nat.reduceLeDiff, Nat.reduceAdd, Nat.reduceEqDiff, false_imp_iff, true_imp_iff, not_false_eq_true, not_true_eq_false, imp_self, forall_const, and_not2 hA hs2, vx, cx, true_or, or_true, hg1, b01_0]
    refine ⟨fun c => ?_, fun c => ?_⟩
    · have c' : g = true := by simpa using c
      have hags := hg2.mp c'
      have hsf : s ≤ f := by omega
      have hW44 : ∀ i, i < nd → 0 ≤ wtg v i ∧ wtg v i ≤ 99 := by rw [SG_W hS]; exact hwt
      have hn6 : v 34 6 = nI nd := by rw [hS.2 6 (by omega) (by omega)]; exact hG.2.1
      have keep : nw (wtg b) f s → AW 3 kX6_works Qp 159 [some (.inr 34), some (.inl (nI (fullN nd))), some (.inl (nI s)), none] [] v := by
        intro hn
        refine next v ⟨hS, hg, hq, f, hf, hf1, hf2, by omega, fun x hx hxA hax => ?_⟩
        by_cases r : x = s
        · subst r; exact hn
        · exact hf4 x (by omega) hxA hax
      have take : nw (wtg b) s f → AW 3 kX6_works Qp 154 [some (.inr 34), some (.inl (nI (fullN nd))), some (.inl (nI s)), none] [] v := by
        intro hn
        obtain ⟨q, hq1, hq2⟩ := hq
        refine st_X6_works_154 ?_; simp only [bX6_works_154, exP, stP, p1, p2, pr, pobj, parr, sh0, sh1, sh2, sh3, sh4, sh5, sh6, sh7, sh8, sh9, sh10, sh11, sh12, sh13, sh14, sh15, sh16, sh17, sh18, sh19, sh20, sh21, sh22, sh23, sh24, sh25, sh26, sh27, sh28, sh29, sh30, sh31, sh32, sh33, sh34, sh35, sh36, sh37, sh38, sh39, sh40, sh41, sh42, sh43, sh44, sh45, sh46, sh47, sh48, sh49, sh50, sh51, sh52, sh53, sh54, sh55, sh56, sh57, sh58, sh59, brP, brN, swP, amask, apush, List.getElem?_cons_zero, List.getElem?_cons_succ, List.set_cons_zero, List.set_cons_succ, List.take_succ_cons, List.take_zero, List.drop_succ_cons, List.drop_zero, List.reverse_cons, List.reverse_nil, List.nil_append, List.cons_append, List.length_cons, List.length_nil, true_and, and_true, Nat.zero_le, Nat.reduceLeDiff, Nat.reduceAdd, Nat.reduceEqDiff, false_imp_iff, true_imp_iff, not_false_eq_true, not_true_eq_false, imp_self, forall_const, true_or]
        refine next _ ⟨⟨fun k k1 k2 k3 k4 => by rw [aup_ne k1]; exact hS.1 k k1 k2 k3 k4, fun j j1 j2 => by rw [aup_eq, upd_ne j1]; exact hS.2 j j1 j2⟩, fun x hx => by rw [aup_ne (by omega)]; exact hg x hx, ⟨q, by rw [aup_eq, upd_ne (by omega)]; exact hq1, hq2⟩, s, by rw [aup_eq, upd_eq], by omega, hags, by omega, fun x hx hxA hax => ?_⟩
        by_cases r : x = s
        · subst r; exact nw_refl _ _
        · exact nw_trans hn (hf4 x (by omega) hxA hax)
      have hins : inN s nd := le_fullN.mp (by omega)
      have hinf : inN f nd := le_fullN.mp hf1
      have r1 := wsN_range2 (t := s) hwt nd (Nat.le_refl _)
      have r2 := wsN_range2 (t := f) hwt nd (Nat.le_refl _)
      have w1 : ws (wtg b) s = wsN (wtg b) s nd := wsN_ext hins 12 hnd
      have w2 : ws (wtg b) f = wsN (wtg b) f nd := wsN_ext hinf 12 hnd
      refine st_X6_works_117 ?_; simp only [bX6_works_117, exP, stP, p1, p2, pr, pobj, parr, sh0, sh1, sh2, sh3, sh4, sh5, sh6, sh7, sh8, sh9, sh10, sh11, sh12, sh13, sh14, sh15, sh16, sh17, sh18, sh19, sh20, sh21, sh22, sh23, sh24, sh25, sh26, sh27, sh28, sh29, sh30, sh31, sh32, sh33, sh34, sh35, sh36, sh37, sh38, sh39, sh40, sh41, sh42, sh43, sh44, sh45, sh46, sh47, sh48, sh49, sh50, sh51, sh52, sh53, sh54, sh55, sh56, sh57, sh58, sh59, brP, brN, swP, amask, apush, List.getElem?_cons_zero, List.getElem?_cons_succ, List.set_cons_zero, List.set_cons_succ, List.take_succ_cons, List.take_zero, List.drop_succ_cons, List.drop_zero, List.reverse_cons, List.reverse_nil, List.nil_append, List.cons_append, List.length_cons, List.length_nil, true_and, and_true, Nat.zero_le, Nat.reduceLeDiff, Nat.reduceAdd, Nat.reduceEqDiff, false_imp_iff, true_imp_iff, not_false_eq_true, not_true_eq_false, imp_self, forall_const]
      refine ⟨_, ⟨1, by decide, c_weightOf v nd hnd hn6 hW44 s hs2⟩, ?_⟩
      rintro z u ⟨rfl, x1, rfl, hx1⟩
      simp only [exP, stP, p1, p2, pr, pobj, parr, sh0, sh1, sh2, sh3, sh4, sh5, sh6, sh7, sh8, sh9, sh10, sh11, sh12, sh13, sh14, sh15, sh16, sh17, sh18, sh19, sh20, sh21, sh22, sh23, sh24, sh25, sh26, sh27, sh28, sh29, sh30, sh31, sh32, sh33, sh34, sh35, sh36, sh37, sh38, sh39, sh40, sh41, sh42, sh43, sh44, sh45, sh46, sh47, sh48, sh49, sh50, sh51, sh52, sh53, sh54, sh55, sh56, sh57, sh58, sh59, brP, brN, swP, amask, apush, List.getElem?_cons_zero, List.getElem?_cons_succ, List.set_cons_zero, List.set_cons_succ, List.take_succ_cons, List.take_zero, List.drop_succ_cons, List.drop_zero, List.reverse_cons, List.reverse_nil, List.nil_append, List.cons_append, List.length_cons, List.length_nil, true_and, and_true, Nat.zero_le, Nat.reduceLeDiff, Nat.reduceAdd, Nat.reduceEqDiff, false_imp_iff, true_imp_iff, not_false_eq_true, not_true_eq_false, imp_self, forall_const]
      rw [hf]
      refine ⟨_, ⟨1, by decide, c_weightOf v nd hnd hn6 hW44 f hf5⟩, ?_⟩
      rintro z u ⟨rfl, x2, rfl, hx2⟩
      rw [SG_W hS] at hx1 hx2
      simp only [exP, stP, p1, p2, pr, pobj, parr, sh0, sh1, sh2, sh3, sh4, sh5, sh6, sh7, sh8, sh9, sh10, sh11, sh12, sh13, sh14, sh15, sh16, sh17, sh18, sh19, sh20, sh21, sh22, sh23, sh24, sh25, sh26, sh27, sh28, sh29, sh30, sh31, sh32, sh33, sh34, sh35, sh36, sh37, sh38, sh39, sh40, sh41, sh42, sh43, sh44, sh45, sh46, sh47, sh48, sh49, sh50, sh51, sh52, sh53, sh54, sh55, sh56, sh57, sh58, sh59, brP, brN, swP, amask, apush, List.getElem?_cons_zero, List.getElem?_cons_succ, List.set_cons_zero, List.set_cons_succ, List.take_succ_cons, List.take_zero, List.drop_succ_cons, List.drop_zero, List.reverse_cons, List.reverse_nil, List.nil_append, List.cons_append, List.length_cons, List.length_nil, true_and, and_true, Nat.zero_le, Nat.reduceLeDiff, Nat.reduceAdd, Nat.reduceEqDiff, false_imp_iff, true_imp_iff, not_false_eq_true, not_true_eq_false, imp_self, forall_const]
      have hsub : (x1 - x2).toInt = x1.toInt - x2.toInt := i32_sub (by omega) (by omega)
      have z0 : (0 : Int32).toInt = 0 := rfl
      have z1' : sz s ≤ 12 := pcN_le s 12
      have z2' : sz f ≤ 12 := pcN_le f 12
      refine ⟨fun c1 => take ?_, fun c1 => ?_⟩
      · rw [Int32.lt_iff_toInt_lt, hsub, z0] at c1
        unfold nw; omega
      · rw [Int32.lt_iff_toInt_lt, hsub, z0] at c1
        refine st_X6_works_136 ?_; simp only [bX6_works_136, exP, stP, p1, p2, pr, pobj, parr, sh0, sh1, sh2, sh3, sh4, sh5, sh6, sh7, sh8, sh9, sh10, sh11, sh12, sh13, sh14, sh15, sh16, sh17, sh18, sh19, sh20, sh21, sh22, sh23, sh24, sh25, sh26, sh27, sh28, sh29, sh30, sh31, sh32, sh33, sh34, sh35, sh36, sh37, sh38, sh39, sh40, sh41, sh42, sh43, sh44, sh45, sh46, sh47, sh48, sh49, sh50, sh51, sh52, sh53, sh54, sh55, sh56, sh57, sh58, sh59, brP, brN, swP, amask, apush, List.getElem?_cons_zero, List.getElem?_cons_succ, List.set_cons_zero, List.set_cons_succ, List.take_succ_cons, List.take_zero, List.drop_succ_cons, List.drop_zero, List.reverse_cons, List.reverse_nil, List.nil_append, List.cons_append, List.length_cons, List.length_nil, true_and, and_true, Nat.zero_le, Nat.reduceLeDiff, Nat.reduceAdd, Nat.reduceEqDiff, false_imp_iff, true_imp_iff, not_false_eq_true, not_true_eq_false, imp_self, forall_const]
        refine ⟨fun c2 => keep ?_, fun c2 => ?_⟩
        · have : x1.toInt - x2.toInt ≠ 0 := fun h => c2 (i32_inj (by rw [hsub, z0]; exact h))
          unfold nw; omega
        · have c2' : x1.toInt - x2.toInt = 0 := by rw [← hsub, c2]; rfl
          refine st_X6_works_140 ?_; simp only [bX6_works_140, exP, stP, p1, p2, pr, pobj, parr, sh0, sh1, sh2, sh3, sh4, sh5, sh6, sh7, sh8, sh9, sh10, sh11, sh12, sh13, sh14, sh15, sh16, sh17, sh18, sh19, sh20, sh21, sh22, sh23, sh24, sh25, sh26, sh27, sh28, sh29, sh30, sh31, sh32, sh33, sh34, sh35, sh36, sh37, sh38, sh39, sh40, sh41, sh42, sh43, sh44, sh45, sh46, sh47, sh48, sh49, sh50, sh51, sh52, sh53, sh54, sh55, sh56, sh57, sh58, sh59, brP, brN, swP, amask, apush, List.getElem?_cons_zero, List.getElem?_cons_succ, List.set_cons_zero, List.set_cons_succ, List.take_succ_cons, List.take_zero, List.drop_succ_cons, List.drop_zero, List.reverse_cons, List.reverse_nil, List.nil_append, List.cons_append, List.length_cons, List.length_nil, true_and, and_true, Nat.zero_le, Nat.reduceLeDiff, Nat.reduceAdd, Nat.reduceEqDiff, false_imp_iff, true_imp_iff, not_false_eq_true, not_true_eq_false, imp_self, forall_const]
          refine ⟨_, ⟨0, by decide, c_sizeOf v s hs2⟩, ?_⟩
          rintro z u2 ⟨rfl, rfl⟩
          simp only [exP, stP, p1, p2, pr, pobj, parr, sh0, sh1, sh2, sh3, sh4, sh5, sh6, sh7, sh8, sh9, sh10, sh11, sh12, sh13, sh14, sh15, sh16, sh17, sh18, sh19, sh20, sh21, sh22, sh23, sh24, sh25, sh26, sh27, sh28, sh29, sh30, sh31, sh32, sh33, sh34, sh35, sh36, sh37, sh38, sh39, sh40, sh41, sh42, sh43, sh44, sh45, sh46, sh47, sh48, sh49, sh50, sh51, sh52, sh53, sh54, sh55, sh56, sh57, sh58, sh59, brP, brN, swP, amask, apush, List.getElem?_cons_zero, List.getElem?_cons_succ, List.set_cons_zero, List.set_cons_succ, List.take_succ_cons, List.take_zero, List.drop_succ_cons, List.drop_zero, List.reverse_cons, List.reverse_nil, List.nil_append, List.cons_append, List.length_cons, List.length_nil, true_and, and_true, Nat.zero_le, Nat.reduceLeDiff, Nat.reduceAdd, Nat.reduceEqDiff, false_imp_iff, true_imp_iff, not_false_eq_true, not_true_eq_false, imp_self, forall_const]
          rw [hf]
          refine ⟨_, ⟨0, by decide, c_sizeOf v f hf5⟩, ?_⟩
          rintro z u2 ⟨rfl, rfl⟩
          simp only [exP, stP, p1, p2, pr, pobj, parr, sh0, sh1, sh2, sh3, sh4, sh5, sh6, sh7, sh8, sh9, sh10, sh11, sh12, sh13, sh14, sh15, sh16, sh17, sh18, sh19, sh20, sh21, sh22, sh23, sh24, sh25, sh26, sh27, sh28, sh29, sh30, sh31, sh32, sh33, sh34, sh35, sh36, sh37, sh38, sh39, sh40, sh41, sh42, sh43, sh44, sh45, sh46, sh47, sh48, sh49, sh50, sh51, sh52, sh53, sh54, sh55, sh56, sh57, sh58, sh59, brP, brN, swP, amask, apush, List.getElem?_cons_zero, List.getElem?_cons_succ, List.set_cons_zero, List.set_cons_succ, List.take_succ_cons, List.take_zero, List.drop_succ_cons, List.drop_zero, List.reverse_cons, List.reverse_nil, List.nil_append, List.cons_append, List.length_cons, List.length_nil, true_and, and_true, Nat.zero_le, Nat.reduceLeDiff, Nat.reduceAdd, Nat.reduceEqDiff, false_imp_iff, true_imp_iff, not_false_eq_true, not_true_eq_false, imp_self, forall_const]
          rw [nI_ltI (by omega) (by omega)]
          refine ⟨fun c3 => keep ?_, fun c3 => take ?_⟩
          · unfold nw; omega
          · unfold nw; omega
    · refine st_X6_works_114 ?_; simp only [bX6_works_114, exP, stP, p1, p2, pr, pobj, parr, sh0, sh1, sh2, sh3, sh4, sh5, sh6, sh7, sh8, sh9, sh10, sh11, sh12, sh13, sh14, sh15, sh16, sh17, sh18, sh19, sh20, sh21, sh22, sh23, sh24, sh25, sh26, sh27, sh28, sh29, sh30, sh31, sh32, sh33, sh34, sh35, sh36, sh37, sh38, sh39, sh40, sh41, sh42, sh43, sh44, sh45, sh46, sh47, sh48, sh49, sh50, sh51, sh52, sh53, sh54, sh55, sh56, sh57, sh58, sh59, brP, brN, swP, amask, apush, List.getElem?_cons_zero, List.getElem?_cons_succ, List.set_cons_zero, List.set_cons_succ, List.take_succ_cons, List.take_zero, List.drop_succ_cons, List.drop_zero, List.reverse_cons, List.reverse_nil, List.nil_append, List.cons_append, List.length_cons, List.length_nil, true_and, and_true, Nat.zero_le, Nat.reduceLeDiff, Nat.reduceAdd, Nat.reduceEqDiff, false_imp_iff, true_imp_iff, not_false_eq_true, not_true_eq_false, imp_self, forall_const]
      refine next v ⟨hS, hg, hq, f, hf, hf1, hf2, by omega, fun x hx hxA hax => ?_⟩
      by_cases r : x = s
      · subst r
        rw [hg2.mpr hax] at c
        cases c
      · exact hf4 x (by omega) hxA hax
