/-! ===== a new person, formula, seal leaves what is worked out ===== -/
theorem CST_safe {m u : AM} {nd : Nat} (h0 : ∀ d, d < 12 → ∀ w, w < 20 → bt (m 14 (0 * 12 + d)) w = true → u 2 w = m 2 w ∧ u 3 w = m 3 w) (h1 : ∀ d, d < 12 → ∀ w, w < 10 → bt (m 14 (1 * 12 + d)) w = true → u 5 w = m 5 w ∧ u 6 w = m 6 w) (h2 : ∀ d, d < 12 → ∀ w, w < 8 → bt (m 14 (2 * 12 + d)) w = true → u 8 w = m 8 w ∧ u 9 w = m 9 w) (hk : ∀ k, 10 ≤ k → k ≤ 26 → u k = m k) (hz : u 0 = m 0) (hC : CST m nd) : CST u nd := by
  obtain ⟨c1, c2, c3⟩ := hC
  have eF : nF u = nF m := by funext d; unfold nF; rw [hk 16 (by omega) (by omega)]
  have eL : nL u = nL m := by funext d; unfold nL; rw [hk 17 (by omega) (by omega)]
  have eC : nC u = nC m := by funext a b; unfold nC; rw [hk 18 (by omega) (by omega), hk 19 (by omega) (by omega), hk 15 (by omega) (by omega)]
  have eW : wtm u = wtm m := by funext d; unfold wtm; rw [hk 26 (by omega) (by omega)]
  have e14 := hk 14 (by omega) (by omega)
  refine ⟨fun d hd => ?_, ?_, ?_⟩
  · obtain ⟨a1, a2, a3, a4⟩ := c1 d hd
    refine ⟨?_, ?_, ?_, ?_⟩
    · rw [hk 16 (by omega) (by omega)]
      refine isMax_congr a1 (fun v => ?_)
      unfold cLow
      rw [e14, hk 11 (by omega) (by omega)]
      constructor
      · rintro (e | ⟨w, hw, hb, e⟩ | ⟨w, hw, hb, e⟩ | ⟨w, hw, hb, e⟩)
        · exact Or.inl e
        · exact Or.inr (Or.inl ⟨w, hw, hb, by rw [← (h0 d hd w hw hb).1]; exact e⟩)
        · exact Or.inr (Or.inr (Or.inl ⟨w, hw, hb, by rw [← (h1 d hd w hw hb).1]; exact e⟩))
        · exact Or.inr (Or.inr (Or.inr ⟨w, hw, hb, by rw [← (h2 d hd w hw hb).1]; exact e⟩))
      · rintro (e | ⟨w, hw, hb, e⟩ | ⟨w, hw, hb, e⟩ | ⟨w, hw, hb, e⟩)
        · exact Or.inl e
        · exact Or.inr (Or.inl ⟨w, hw, hb, by rw [(h0 d hd w hw hb).1]; exact e⟩)
        · exact Or.inr (Or.inr (Or.inl ⟨w, hw, hb, by rw [(h1 d hd w hw hb).1]; exact e⟩))
        · exact Or.inr (Or.inr (Or.inr ⟨w, hw, hb, by rw [(h2 d hd w hw hb).1]; exact e⟩))
    · rw [hk 17 (by omega) (by omega)]
      refine isMin_congr a2 (fun v => ?_)
      unfold cHi
      rw [e14, hk 12 (by omega) (by omega)]
      constructor
      · rintro (e | ⟨w, hw, hb, e⟩ | ⟨w, hw, hb, e⟩ | ⟨w, hw, hb, e⟩)
        · exact Or.inl e
        · exact Or.inr (Or.inl ⟨w, hw, hb, by rw [← (h0 d hd w hw hb).2]; exact e⟩)
        · exact Or.inr (Or.inr (Or.inl ⟨w, hw, hb, by rw [← (h1 d hd w hw hb).2]; exact e⟩))
        · exact Or.inr (Or.inr (Or.inr ⟨w, hw, hb, by rw [← (h2 d hd w hw hb).2]; exact e⟩))
      · rintro (e | ⟨w, hw, hb, e⟩ | ⟨w, hw, hb, e⟩ | ⟨w, hw, hb, e⟩)
        · exact Or.inl e
        · exact Or.inr (Or.inl ⟨w, hw, hb, by rw [(h0 d hd w hw hb).2]; exact e⟩)
        · exact Or.inr (Or.inr (Or.inl ⟨w, hw, hb, by rw [(h1 d hd w hw hb).2]; exact e⟩))
        · exact Or.inr (Or.inr (Or.inr ⟨w, hw, hb, by rw [(h2 d hd w hw hb).2]; exact e⟩))
    · rw [hk 19 (by omega) (by omega), e14]; exact a3
    · unfold shH at a4 ⊢
      rw [hk 18 (by omega) (by omega), e14]; exact a4
  · unfold TW at c2 ⊢
    rw [eF, eL, hk 15 (by omega) (by omega)]; exact c2
  · rw [eF, eL, eC, eW, hz, hk 20 (by omega) (by omega), hk 21 (by omega) (by omega)]; exact c3
theorem FRS_safe {m u : AM} {nd : Nat} (h0 : ∀ d, d < nd → ∀ w, w < 20 → hm m d 0 w → u 36 w = m 36 w ∧ u 37 w = m 37 w) (h1 : ∀ d, d < nd → ∀ w, w < 10 → hm m d 1 w → u 38 w = m 38 w ∧ u 39 w = m 39 w) (h2 : ∀ d, d < nd → ∀ w, w < 8 → hm m d 2 w → u 40 w = m 40 w ∧ u 41 w = m 41 w) (hk : ∀ k, 42 ≤ k → k ≤ 59 → u k = m k) (hz : ∀ j, j ≠ 3 → j ≠ 4 → j ≠ 5 → u 34 j = m 34 j) (hF : FRS m nd) : FRS u nd := by
  obtain ⟨c1, c2, c3, c4, c5⟩ := hF
  have eF : gF u = gF m := by funext d; unfold gF; rw [hk 53 (by omega) (by omega)]
  have eL : gL u = gL m := by funext d; unfold gL; rw [hk 54 (by omega) (by omega)]
  have eC : gC u = gC m := by funext a b; unfold gC; rw [hk 55 (by omega) (by omega), hk 56 (by omega) (by omega), hz 2 (by omega) (by omega) (by omega)]
  have eW : wtg u = wtg m := by funext d; unfold wtg; rw [hk 44 (by omega) (by omega)]
  have em : ∀ d, mk u d = mk m d := fun d => by unfold mk; rw [hk 45 (by omega) (by omega)]
  have eh : ∀ d n k w, hmn u d n k w = hmn m d n k w := fun d n k w => by unfold hmn; rw [hk 46 (by omega) (by omega), hk 47 (by omega) (by omega)]
  have ehm : ∀ d k w, hm u d k w = hm m d k w := fun d k w => by unfold hm; rw [em, eh]
  unfold FRS
  rw [eF, eL, eC, eW, hz 32 (by omega) (by omega) (by omega), hz 33 (by omega) (by omega) (by omega), hk 57 (by omega) (by omega), hk 58 (by omega) (by omega), hk 59 (by omega) (by omega)]
  refine ⟨fun d hd => ?_, ?_, c3, c4, c5⟩
  · obtain ⟨a1, a2, a3⟩ := c1 d hd
    refine ⟨?_, ?_, ?_⟩
    · rw [hk 53 (by omega) (by omega), em]
      refine isMax_congr a1 (fun v => ?_)
      unfold lowS
      simp only [eh]
      rw [hk 42 (by omega) (by omega)]
      constructor
      · rintro (e | ⟨w, hw, hb, e⟩ | ⟨w, hw, hb, e⟩ | ⟨w, hw, hb, e⟩)
        · exact Or.inl e
        · exact Or.inr (Or.inl ⟨w, hw, hb, by rw [← (h0 d hd w hw hb).1]; exact e⟩)
        · exact Or.inr (Or.inr (Or.inl ⟨w, hw, hb, by rw [← (h1 d hd w hw hb).1]; exact e⟩))
        · exact Or.inr (Or.inr (Or.inr ⟨w, hw, hb, by rw [← (h2 d hd w hw hb).1]; exact e⟩))
      · rintro (e | ⟨w, hw, hb, e⟩ | ⟨w, hw, hb, e⟩ | ⟨w, hw, hb, e⟩)
        · exact Or.inl e
        · exact Or.inr (Or.inl ⟨w, hw, hb, by rw [(h0 d hd w hw hb).1]; exact e⟩)
        · exact Or.inr (Or.inr (Or.inl ⟨w, hw, hb, by rw [(h1 d hd w hw hb).1]; exact e⟩))
        · exact Or.inr (Or.inr (Or.inr ⟨w, hw, hb, by rw [(h2 d hd w hw hb).1]; exact e⟩))
    · rw [hk 54 (by omega) (by omega), em]
      refine isMin_congr a2 (fun v => ?_)
      unfold hiS
      simp only [eh]
      rw [hk 43 (by omega) (by omega)]
      constructor
      · rintro (e | ⟨w, hw, hb, e⟩ | ⟨w, hw, hb, e⟩ | ⟨w, hw, hb, e⟩)
        · exact Or.inl e
        · exact Or.inr (Or.inl ⟨w, hw, hb, by rw [← (h0 d hd w hw hb).2]; exact e⟩)
        · exact Or.inr (Or.inr (Or.inl ⟨w, hw, hb, by rw [← (h1 d hd w hw hb).2]; exact e⟩))
        · exact Or.inr (Or.inr (Or.inr ⟨w, hw, hb, by rw [← (h2 d hd w hw hb).2]; exact e⟩))
      · rintro (e | ⟨w, hw, hb, e⟩ | ⟨w, hw, hb, e⟩ | ⟨w, hw, hb, e⟩)
        · exact Or.inl e
        · exact Or.inr (Or.inl ⟨w, hw, hb, by rw [(h0 d hd w hw hb).2]; exact e⟩)
        · exact Or.inr (Or.inr (Or.inl ⟨w, hw, hb, by rw [(h1 d hd w hw hb).2]; exact e⟩))
        · exact Or.inr (Or.inr (Or.inr ⟨w, hw, hb, by rw [(h2 d hd w hw hb).2]; exact e⟩))
    · simp only [ehm]
      rw [hk 55 (by omega) (by omega), hk 56 (by omega) (by omega)]
      exact a3
  · unfold GW at c2 ⊢
    rw [eF, eL, hz 6 (by omega) (by omega) (by omega), hz 2 (by omega) (by omega) (by omega), hk 55 (by omega) (by omega)]
    exact c2
