/-! ===== the invariant between the class and the reference ===== -/
def cnt (np nf ns nd k : Nat) : Nat := match k with
  | 0 => np
  | 1 => nf
  | 2 => ns
  | 3 => 8
  | _ => nd
def BASE (m : AM) (np nf ns nd tp : Nat) : Prop :=
  (np ≤ 20 ∧ nf ≤ 10 ∧ ns ≤ 8 ∧ tp ≤ 40) ∧ (m 1 2 = nI np ∧ m 4 2 = nI nf ∧ m 7 2 = nI ns) ∧ (m 34 3 = nI np ∧ m 34 4 = nI nf ∧ m 34 5 = nI ns) ∧
  CPRE m nd ∧ MOK m nd ∧ MB m nd ∧ RE m ∧ (∀ d, d < nd → sumBC m d 5 = nI (mk m d)) ∧ (∀ d, d < nd → ∀ k, k < 5 → ∀ w, w < 32 → hm m d k w → w < cnt np nf ns nd k) ∧
  (∀ d, nd ≤ d → d < 12 → m 45 d = 0 ∧ ∀ k, k < 5 → m 14 (k * 12 + d) = 0) ∧
  (m 27 3 = nI tp ∧ m 34 1 = nI tp ∧ ∀ i, i < 40 → m 28 i = m 35 i &&& 255 ∧ m 35 i = (m 28 i).toInt8.toInt32) ∧
  (∀ d, d < 12 → ∃ n, n ≤ 20 ∧ m 30 d = nI n ∧ m 48 d = nI n ∧ (nd ≤ d → n = 0) ∧ ∀ i, i < n → m 29 (20 * d + i) = m 49 (20 * d + i)) ∧
  (∀ d, d < 12 → m 32 d = m 51 d ∧ m 33 d = m 52 d ∧ (d < nd → m 31 d = m 50 d) ∧ (nd ≤ d → m 50 d = -1 ∧ m 52 d = 0) ∧ (m 50 d = -1 → m 51 d = 0))
def INVn (m : AM) (np nf ns nd tp : Nat) : Prop := BASE m np nf ns nd tp ∧ (m 0 12 = 0 ∨ (m 0 12 = 1 ∧ CST m nd)) ∧ (m 34 30 = 0 ∨ (m 34 30 = 1 ∧ FRS m nd))
def INV (m : AM) : Prop := ∃ np nf ns nd tp, INVn m np nf ns nd tp
/-- the rows that the base stands in are the same -/
def SB0 (m u : AM) : Prop := (∀ k, 1 ≤ k → k ≤ 14 → u k = m k) ∧ (∀ k, 26 ≤ k → k ≤ 33 → k ≠ 27 → u k = m k) ∧ (∀ k, 35 ≤ k → k ≤ 52 → u k = m k) ∧ u 15 9 = m 15 9 ∧ u 27 3 = m 27 3 ∧ (∀ j, j ≠ 30 → j ≠ 32 → j ≠ 33 → u 34 j = m 34 j)
theorem BASE_congr {m u : AM} {np nf ns nd tp : Nat} (h : SB0 m u) (hB : BASE m np nf ns nd tp) : BASE u np nf ns nd tp := by
  obtain ⟨a, b, c, e15, e27, e34⟩ := h
  have em : ∀ d, mk u d = mk m d := fun d => by unfold mk; rw [c 45 (by omega) (by omega)]
  have eh : ∀ d n k w, hmn u d n k w = hmn m d n k w := fun d n k w => by unfold hmn; rw [c 46 (by omega) (by omega), c 47 (by omega) (by omega)]
  have ehm : ∀ d k w, hm u d k w = hm m d k w := fun d k w => by unfold hm; rw [em, eh]
  have es : ∀ d n, sumBC u d n = sumBC m d n := fun d n => by
    induction n with
    | zero => rfl
    | succ n ih => unfold sumBC; rw [ih, a 14 (by omega) (by omega)]
  have ew : wtm u = wtm m := by funext i; unfold wtm; rw [b 26 (by omega) (by omega) (by omega)]
  have e1 : CPRE u nd = CPRE m nd := by
    unfold CPRE WOK
    rw [ew, a 2 (by omega) (by omega), a 3 (by omega) (by omega), a 5 (by omega) (by omega), a 6 (by omega) (by omega), a 8 (by omega) (by omega), a 9 (by omega) (by omega), a 10 (by omega) (by omega), a 11 (by omega) (by omega), a 12 (by omega) (by omega), e15]
  have e2 : MOK u nd = MOK m nd := by
    unfold MOK
    simp only [em]
    rw [e34 6 (by omega) (by omega) (by omega), c 45 (by omega) (by omega), c 46 (by omega) (by omega), c 47 (by omega) (by omega)]
  have e3 : MB u nd = MB m nd := by
    unfold MB
    simp only [ehm]
    rw [a 14 (by omega) (by omega)]
  have e4 : RE u = RE m := by
    unfold RE
    rw [a 2 (by omega) (by omega), a 3 (by omega) (by omega), a 5 (by omega) (by omega), a 6 (by omega) (by omega), a 8 (by omega) (by omega), a 9 (by omega) (by omega), a 11 (by omega) (by omega), a 12 (by omega) (by omega), b 26 (by omega) (by omega) (by omega), c 36 (by omega) (by omega), c 37 (by omega) (by omega), c 38 (by omega) (by omega), c 39 (by omega) (by omega), c 40 (by omega) (by omega), c 41 (by omega) (by omega), c 42 (by omega) (by omega), c 43 (by omega) (by omega), c 44 (by omega) (by omega), e34 2 (by omega) (by omega) (by omega), e15]
  unfold BASE at hB ⊢
  rw [e1, e2, e3, e4, e27, e34 1 (by omega) (by omega) (by omega), e34 3 (by omega) (by omega) (by omega), e34 4 (by omega) (by omega) (by omega), e34 5 (by omega) (by omega) (by omega), a 1 (by omega) (by omega), a 4 (by omega) (by omega), a 7 (by omega) (by omega), a 14 (by omega) (by omega), b 28 (by omega) (by omega) (by omega), b 29 (by omega) (by omega) (by omega), b 30 (by omega) (by omega) (by omega), b 31 (by omega) (by omega) (by omega), b 32 (by omega) (by omega) (by omega), b 33 (by omega) (by omega) (by omega), c 35 (by omega) (by omega), c 45 (by omega) (by omega), c 48 (by omega) (by omega), c 49 (by omega) (by omega), c 50 (by omega) (by omega), c 51 (by omega) (by omega), c 52 (by omega) (by omega)]
  simp only [em, ehm, es]
  exact hB
theorem FRS_congr {m u : AM} {nd : Nat} (h : ∀ k, 34 ≤ k → k ≤ 59 → u k = m k) (hF : FRS m nd) : FRS u nd := by
  obtain ⟨h1, h2, h3, h4, h5⟩ := hF
  have eF : gF u = gF m := by funext d; unfold gF; rw [h 53 (by omega) (by omega)]
  have eL : gL u = gL m := by funext d; unfold gL; rw [h 54 (by omega) (by omega)]
  have eC : gC u = gC m := by funext a b; unfold gC; rw [h 55 (by omega) (by omega), h 56 (by omega) (by omega), h 34 (by omega) (by omega)]
  have eW : wtg u = wtg m := by funext d; unfold wtg; rw [h 44 (by omega) (by omega)]
  unfold FRS
  rw [eF, eL, eC, eW, h 34 (by omega) (by omega), h 57 (by omega) (by omega), h 58 (by omega) (by omega), h 59 (by omega) (by omega)]
  refine ⟨fun d hd => OWN_cast (h1 d hd) (fun k k1 k2 => h k (by omega) (by omega)) (fun k k1 k2 => h k (by omega) (by omega)), ?_, h3, h4, h5⟩
  unfold GW at h2 ⊢
  rw [eF, eL, h 34 (by omega) (by omega), h 55 (by omega) (by omega)]
  exact h2
theorem CST_congr {m u : AM} {nd : Nat} (h : ∀ k, k ≤ 26 → u k = m k) (hC : CST m nd) : CST u nd := by
  obtain ⟨h1, h2, h3⟩ := hC
  have eF : nF u = nF m := by funext d; unfold nF; rw [h 16 (by omega)]
  have eL : nL u = nL m := by funext d; unfold nL; rw [h 17 (by omega)]
  have eC : nC u = nC m := by funext a b; unfold nC; rw [h 18 (by omega), h 19 (by omega), h 15 (by omega)]
  have eW : wtm u = wtm m := by funext d; unfold wtm; rw [h 26 (by omega)]
  unfold CST
  rw [eF, eL, eC, eW, h 0 (by omega), h 20 (by omega), h 21 (by omega)]
  refine ⟨fun d hd => CRL_cast (h1 d hd) (fun k _ k2 => h k (by omega)) (fun k _ k2 => h k (by omega)), ?_, h3⟩
  unfold TW at h2 ⊢
  rw [eF, eL, h 15 (by omega)]
  exact h2
theorem BASE_pre {m : AM} {np nf ns nd tp : Nat} (h : BASE m np nf ns nd tp) : PRE m nd := by
  obtain ⟨-, -, -, hC, hM, -, hR, -⟩ := h
  obtain ⟨hnd, hn, y1, y2, y3, y4, pw, hw, hpos⟩ := hC
  obtain ⟨r1, r2, r3, r4, r5⟩ := hR
  refine ⟨hM, ?_, by rw [r5]; exact pw, fun i hi => ?_⟩
  · refine ⟨fun i hi => ?_, fun i hi => ?_, fun i hi => ?_, fun i hi => ?_⟩
    · have a := y1 i hi
      rw [(r1 i hi).1, (r1 i hi).2]
      exact ⟨⟨a.1, a.2.1⟩, a.2.2⟩
    · have a := y2 i hi
      rw [(r2 i hi).1, (r2 i hi).2]
      exact ⟨⟨a.1, a.2.1⟩, a.2.2⟩
    · have a := y3 i hi
      rw [(r3 i hi).1, (r3 i hi).2]
      exact ⟨⟨a.1, a.2.1⟩, a.2.2⟩
    · have a := y4 i hi
      rw [(r4 i hi).1, (r4 i hi).2.1]
      exact ⟨⟨a.1, a.2.1⟩, a.2.2⟩
  · have a1 := hpos i hi
    have a2 := hw i (by omega)
    unfold wtg
    rw [(r4 i (by omega)).2.2]
    exact ⟨a1, a2.2⟩
/-- behind settle, and behind works, the invariant stands, and the caches are right -/
theorem INV_settle {m u : AM} {np nf ns nd tp : Nat} (h : INVn m np nf ns nd tp) (hF : CFR m u) (h1 : u 0 12 = 1) (hC : CST u nd) : INVn u np nf ns nd tp := by
  obtain ⟨hB, -, hf⟩ := h
  obtain ⟨f1, f2, f3⟩ := hF
  refine ⟨BASE_congr ⟨fun k k1 k2 => f1 k (by omega) (by omega) (by omega), fun k k1 k2 _ => f1 k (by omega) (by omega) (by omega), fun k k1 k2 => f1 k (by omega) (by omega) (by omega), f3 9 (by omega), by rw [f1 27 (by omega) (by omega) (by omega)], fun j _ _ _ => by rw [f1 34 (by omega) (by omega) (by omega)]⟩ hB, Or.inr ⟨h1, hC⟩, ?_⟩
  rw [f1 34 (by omega) (by omega) (by omega)]
  rcases hf with q | ⟨q1, q2⟩
  · exact Or.inl q
  · exact Or.inr ⟨q1, FRS_congr (fun k k1 k2 => f1 k (by omega) (by omega) (by omega)) q2⟩
theorem INV_works {m u : AM} {np nf ns nd tp : Nat} (h : INVn m np nf ns nd tp) (hF : WFR m u) (h1 : u 34 30 = 1) (hC : FRS u nd) : INVn u np nf ns nd tp := by
  obtain ⟨hB, hc, -⟩ := h
  obtain ⟨f1, f2⟩ := hF
  refine ⟨BASE_congr ⟨fun k k1 k2 => f1 k (by omega) (by omega), fun k k1 k2 _ => f1 k (by omega) (by omega), fun k k1 k2 => f1 k (by omega) (by omega), by rw [f1 15 (by omega) (by omega)], by rw [f1 27 (by omega) (by omega)], fun j j1 j2 j3 => f2 j j1 j2 j3⟩ hB, ?_, Or.inr ⟨h1, hC⟩⟩
  rw [f1 0 (by omega) (by omega)]
  rcases hc with q | ⟨q1, q2⟩
  · exact Or.inl q
  · exact Or.inr ⟨q1, CST_congr (fun k hk => f1 k (by omega) (by omega)) q2⟩
/-- the contracts of settle and works over the invariant -/
theorem d_settle {m : AM} {np nf ns nd tp : Nat} (h : INVn m np nf ns nd tp) : AC 19 kX5_settle [.inr 0] m (fun z u => z = none ∧ CFR m u ∧ INVn u np nf ns nd tp ∧ CST u nd ∧ u 0 12 = 1) := by
  refine AC_mono (c_settle m nd h.1.2.2.2.1 h.2.1) ?_
  rintro z u ⟨h1, h2, h3, h4⟩
  exact ⟨h1, h2, INV_settle h h2 h3 h4, h4, h3⟩
theorem d_works {m : AM} {np nf ns nd tp : Nat} (h : INVn m np nf ns nd tp) : AC 3 kX6_works [.inr 34] m (fun z u => z = none ∧ WFR m u ∧ INVn u np nf ns nd tp ∧ FRS u nd) := by
  refine AC_mono (c_works m nd (BASE_pre h.1) h.2.2) ?_
  rintro z u ⟨h1, h2, h3, h4⟩
  exact ⟨h1, h2, INV_works h h2 h3 h4, h4⟩
/-- the questions of the timeline leave the invariant -/
theorem INV_rm {w u : AM} {np nf ns nd tp : Nat} (h : INVn w np nf ns nd tp) (hC : CST w nd) (h1 : w 0 12 = 1) (hRM : RM w u) : INVn u np nf ns nd tp ∧ CST u nd ∧ u 0 12 = 1 := by
  have e0 : u 0 = w 0 := hRM.1 0 (by omega) (by omega) (by omega) (by omega)
  have hCu : CST u nd := by
    obtain ⟨c1, c2, f, c3, c4, c5, c6⟩ := hC
    refine ⟨fun d hd => CRL_cast (c1 d hd) (fun k k1 k2 => hRM.1 k (by omega) (by omega) (by omega) (by omega)) (fun k k1 k2 => hRM.1 k (by omega) (by omega) (by omega) (by omega)), hRM.tw c2, f, ?_, ?_, ?_, ?_⟩
    · rw [e0]; exact c3
    · rw [hRM.eF, hRM.eL, hRM.eC, hRM.sm.eW]; exact c4
    · rw [hRM.eF, hRM.eC, hRM.1 20 (by omega) (by omega) (by omega) (by omega)]; exact c5
    · rw [hRM.eL, hRM.eC, hRM.1 21 (by omega) (by omega) (by omega) (by omega)]; exact c6
  have e12 : u 0 12 = 1 := by rw [e0]; exact h1
  refine ⟨INV_settle h ⟨fun k k1 k2 k3 => hRM.1 k k2 (by omega) (by omega) (by omega), fun j _ _ => by rw [e0], fun j hj => hRM.2 j hj⟩ e12 hCu, hCu, e12⟩
/-- a method of the class and its twin: one answer, and the invariant again -/
def PAIR (kc km : Nat) (as : List AV) (m : AM) : Prop := ∃ Qc : APost, aCC 30 kc (.inr 0 :: as) m Qc ∧ ∀ r u, Qc r u → ∃ Qm : APost, aCC 30 km (.inr 34 :: as) u Qm ∧ ∀ r' v, Qm r' v → (∃ x, r = some x ∧ r' = some x) ∧ INV v
