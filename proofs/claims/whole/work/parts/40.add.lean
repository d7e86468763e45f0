/-! ===== the base over changed years ===== -/
theorem BASE_add {m u : AM} {np nf ns nd tp np' nf' ns' : Nat} (k1 : np ≤ np' ∧ np' ≤ 20) (k2 : nf ≤ nf' ∧ nf' ≤ 10) (k3 : ns ≤ ns' ∧ ns' ≤ 8) (e1 : u 1 2 = nI np' ∧ u 4 2 = nI nf' ∧ u 7 2 = nI ns') (e2 : u 34 3 = nI np' ∧ u 34 4 = nI nf' ∧ u 34 5 = nI ns') (e14 : u 14 = m 14) (b : ∀ k, 27 ≤ k → k ≤ 33 → u k = m k) (e35 : u 35 = m 35) (c : ∀ k, 45 ≤ k → k ≤ 52 → u k = m k) (e6 : u 34 6 = m 34 6) (e7 : u 34 1 = m 34 1) (hC : CPRE u nd) (hR : RE u) (hB : BASE m np nf ns nd tp) : BASE u np' nf' ns' nd tp := by
  have em : ∀ d, mk u d = mk m d := fun d => by unfold mk; rw [c 45 (by omega) (by omega)]
  have eh : ∀ d n k w, hmn u d n k w = hmn m d n k w := fun d n k w => by unfold hmn; rw [c 46 (by omega) (by omega), c 47 (by omega) (by omega)]
  have ehm : ∀ d k w, hm u d k w = hm m d k w := fun d k w => by unfold hm; rw [em, eh]
  have es : ∀ d n, sumBC u d n = sumBC m d n := fun d n => by
    induction n with
    | zero => rfl
    | succ n ih => unfold sumBC; rw [ih, e14]
  unfold BASE
  unfold BASE at hB
  obtain ⟨g1, g2, g3, g4, g5, g6, g7, g8, g9, g10, g11, g12, g13⟩ := hB
  refine ⟨⟨k1.2, k2.2, k3.2, g1.2.2.2⟩, e1, e2, hC, ?_, ?_, hR, ?_, ?_, ?_, ?_, ?_, ?_⟩
  · unfold MOK
    simp only [em]
    rw [e6, c 45 (by omega) (by omega), c 46 (by omega) (by omega), c 47 (by omega) (by omega)]
    exact g5
  · unfold MB
    simp only [ehm]
    rw [e14]
    exact g6
  · simp only [es, em]; exact g8
  · intro d hd k hk w hw hh
    rw [ehm] at hh
    have q := g9 d hd k hk w hw hh
    have k5 : k = 0 ∨ k = 1 ∨ k = 2 ∨ k = 3 ∨ k = 4 := by omega
    rcases k5 with rfl | rfl | rfl | rfl | rfl
    · have q2 : w < np := q
      show w < np'
      omega
    · have q2 : w < nf := q
      show w < nf'
      omega
    · have q2 : w < ns := q
      show w < ns'
      omega
    · exact q
    · exact q
  · rw [e14, c 45 (by omega) (by omega)]; exact g10
  · rw [b 27 (by omega) (by omega), e7, b 28 (by omega) (by omega), e35]; exact g11
  · rw [b 29 (by omega) (by omega), b 30 (by omega) (by omega), c 48 (by omega) (by omega), c 49 (by omega) (by omega)]; exact g12
  · rw [b 31 (by omega) (by omega), b 32 (by omega) (by omega), b 33 (by omega) (by omega), c 50 (by omega) (by omega), c 51 (by omega) (by omega), c 52 (by omega) (by omega)]; exact g13
/-- the class's own base, over changed years of people -/
theorem CPRE_people {m u : AM} {nd j : Nat} {f l : Int32} (hf : f_isSpan f l = true) (h : ∀ k, 5 ≤ k → k ≤ 12 → u k = m k) (e2 : u 2 = upd (m 2) j f) (e3 : u 3 = upd (m 3) j l) (e15 : u 15 9 = m 15 9) (e26 : u 26 = m 26) (hC : CPRE m nd) : CPRE u nd := by
  obtain ⟨q1, q2, q3, q4, q5, q6, q7, q8, q9⟩ := hC
  have ew : wtm u = wtm m := by funext i; unfold wtm; rw [e26]
  have r := span_rng hf
  refine ⟨q1, by rw [h 10 (by omega) (by omega)]; exact q2, fun i hi => ?_, ?_, ?_, ?_, by rw [e15]; exact q7, ?_, ?_⟩
  · rw [e2, e3]
    by_cases q : i = j
    · subst q; rw [upd_eq, upd_eq]; exact ⟨r.1, r.2.1, r.2.2.1, r.2.2.2⟩
    · rw [upd_ne q, upd_ne q]; exact q3 i hi
  · rw [h 5 (by omega) (by omega), h 6 (by omega) (by omega)]; exact q4
  · rw [h 8 (by omega) (by omega), h 9 (by omega) (by omega)]; exact q5
  · rw [h 11 (by omega) (by omega), h 12 (by omega) (by omega)]; exact q6
  · unfold WOK; rw [ew]; exact q8
  · rw [ew]; exact q9
theorem RE_people {m u : AM} {j : Nat} {f l : Int32} (h : ∀ k, 5 ≤ k → k ≤ 12 → u k = m k) (h' : ∀ k, 38 ≤ k → k ≤ 44 → u k = m k) (e2 : u 2 = upd (m 2) j f) (e3 : u 3 = upd (m 3) j l) (e36 : u 36 = upd (m 36) j f) (e37 : u 37 = upd (m 37) j l) (e15 : u 15 9 = m 15 9) (e26 : u 26 = m 26) (e34 : u 34 2 = m 34 2) (hR : RE m) : RE u := by
  obtain ⟨q1, q2, q3, q4, q5⟩ := hR
  refine ⟨fun i hi => ?_, ?_, ?_, ?_, by rw [e34, e15]; exact q5⟩
  · rw [e2, e3, e36, e37]
    by_cases q : i = j
    · subst q; rw [upd_eq, upd_eq, upd_eq, upd_eq]; exact ⟨rfl, rfl⟩
    · rw [upd_ne q, upd_ne q, upd_ne q, upd_ne q]; exact q1 i hi
  · rw [h 5 (by omega) (by omega), h 6 (by omega) (by omega), h' 38 (by omega) (by omega), h' 39 (by omega) (by omega)]; exact q2
  · rw [h 8 (by omega) (by omega), h 9 (by omega) (by omega), h' 40 (by omega) (by omega), h' 41 (by omega) (by omega)]; exact q3
  · rw [h 11 (by omega) (by omega), h 12 (by omega) (by omega), h' 42 (by omega) (by omega), h' 43 (by omega) (by omega), h' 44 (by omega) (by omega), e26]; exact q4
