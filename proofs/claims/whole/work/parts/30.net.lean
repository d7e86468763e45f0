/-! ===== both sides judge by one network ===== -/
/-- the marks of both sides are the same; none names itself -/
def MB (m : AM) (nd : Nat) : Prop := (∀ d, d < nd → ∀ k, k < 5 → ∀ w, w < 32 → (bt (m 14 (k * 12 + d)) w = true ↔ hm m d k w)) ∧ ∀ d, d < nd → ¬ hm m d 4 d
/-- the rows of both sides are the same -/
def RE (m : AM) : Prop := (∀ i, i < 20 → m 36 i = m 2 i ∧ m 37 i = m 3 i) ∧ (∀ i, i < 10 → m 38 i = m 5 i ∧ m 39 i = m 6 i) ∧ (∀ i, i < 8 → m 40 i = m 8 i ∧ m 41 i = m 9 i) ∧ (∀ i, i < 12 → m 42 i = m 11 i ∧ m 43 i = m 12 i ∧ m 44 i = m 26 i) ∧ m 34 2 = m 15 9
theorem low_eq {m : AM} {nd d : Nat} (hnd : nd ≤ 12) (hB : MB m nd) (hR : RE m) (hd : d < nd) : ∀ v, cLow m nd d v ↔ lowS m d (mk m d) v := by
  obtain ⟨r1, r2, r3, r4, -⟩ := hR
  have b := hB.1 d hd
  intro v
  unfold cLow lowS
  rw [if_pos hd, (r4 d (by omega)).1]
  constructor
  · rintro (e | ⟨w, hw, hb, e⟩ | ⟨w, hw, hb, e⟩ | ⟨w, hw, hb, e⟩)
    · exact Or.inl e
    · exact Or.inr (Or.inl ⟨w, hw, (b 0 (by omega) w (by omega)).mp hb, by rw [(r1 w hw).1]; exact e⟩)
    · exact Or.inr (Or.inr (Or.inl ⟨w, hw, (b 1 (by omega) w (by omega)).mp hb, by rw [(r2 w hw).1]; exact e⟩))
    · exact Or.inr (Or.inr (Or.inr ⟨w, hw, (b 2 (by omega) w (by omega)).mp hb, by rw [(r3 w hw).1]; exact e⟩))
  · rintro (e | ⟨w, hw, hb, e⟩ | ⟨w, hw, hb, e⟩ | ⟨w, hw, hb, e⟩)
    · exact Or.inl e
    · exact Or.inr (Or.inl ⟨w, hw, (b 0 (by omega) w (by omega)).mpr hb, by rw [← (r1 w hw).1]; exact e⟩)
    · exact Or.inr (Or.inr (Or.inl ⟨w, hw, (b 1 (by omega) w (by omega)).mpr hb, by rw [← (r2 w hw).1]; exact e⟩))
    · exact Or.inr (Or.inr (Or.inr ⟨w, hw, (b 2 (by omega) w (by omega)).mpr hb, by rw [← (r3 w hw).1]; exact e⟩))
theorem hi_eq {m : AM} {nd d : Nat} (hnd : nd ≤ 12) (hB : MB m nd) (hR : RE m) (hd : d < nd) : ∀ v, cHi m nd d v ↔ hiS m d (mk m d) v := by
  obtain ⟨r1, r2, r3, r4, -⟩ := hR
  have b := hB.1 d hd
  intro v
  unfold cHi hiS
  rw [if_pos hd, (r4 d (by omega)).2.1]
  constructor
  · rintro (e | ⟨w, hw, hb, e⟩ | ⟨w, hw, hb, e⟩ | ⟨w, hw, hb, e⟩)
    · exact Or.inl e
    · exact Or.inr (Or.inl ⟨w, hw, (b 0 (by omega) w (by omega)).mp hb, by rw [(r1 w hw).2]; exact e⟩)
    · exact Or.inr (Or.inr (Or.inl ⟨w, hw, (b 1 (by omega) w (by omega)).mp hb, by rw [(r2 w hw).2]; exact e⟩))
    · exact Or.inr (Or.inr (Or.inr ⟨w, hw, (b 2 (by omega) w (by omega)).mp hb, by rw [(r3 w hw).2]; exact e⟩))
  · rintro (e | ⟨w, hw, hb, e⟩ | ⟨w, hw, hb, e⟩ | ⟨w, hw, hb, e⟩)
    · exact Or.inl e
    · exact Or.inr (Or.inl ⟨w, hw, (b 0 (by omega) w (by omega)).mpr hb, by rw [← (r1 w hw).2]; exact e⟩)
    · exact Or.inr (Or.inr (Or.inl ⟨w, hw, (b 1 (by omega) w (by omega)).mpr hb, by rw [← (r2 w hw).2]; exact e⟩))
    · exact Or.inr (Or.inr (Or.inr ⟨w, hw, (b 2 (by omega) w (by omega)).mpr hb, by rw [← (r3 w hw).2]; exact e⟩))
theorem and_ne0 (x y : Int32) : x &&& y ≠ 0 ↔ ∃ i, i < 32 ∧ bt x i = true ∧ bt y i = true := by
  constructor
  · intro h
    refine Classical.byContradiction (fun q => h ?_)
    apply b_ext
    intro i hi
    rw [b_and, b_0]
    cases h1 : bt x i with
    | false => rfl
    | true =>
      cases h2 : bt y i with
      | false => rfl
      | true => exact absurd ⟨i, hi, h1, h2⟩ q
  · rintro ⟨i, hi, h1, h2⟩ h
    have := b_and x y i
    rw [h, b_0, h1, h2] at this
    cases this
/-- a mark of kind 3 has which < 8 -/
theorem hm_lim {m : AM} {nd d k w : Nat} (hM : MOK m nd) (hd : d < nd) (hk : k < 5) (hw : w < 32) (h : hm m d k w) : w < wlim k := by
  obtain ⟨i, hi, e1, e2⟩ := h
  obtain ⟨k', w', h1, h2, h3, h4⟩ := (hM.2.2 d hd).2.2 i hi
  have hl := wlim_le k'
  rw [e1] at h3
  rw [e2] at h4
  have a1 := (nI_eq (by omega) (by omega)).mp h3
  have a2 := (nI_eq (by omega) (by omega)).mp h4
  subst a1; subst a2
  exact h2
theorem net_eq {m : AM} {nd : Nat} (hM : MOK m nd) (hB : MB m nd) (hR : RE m) (hC : CST m nd) (hF : FRS m nd) : (∀ d, d < nd → nF m d = gF m d ∧ nL m d = gL m d) ∧ ∀ a b, a < nd → b < nd → nC m a b = gC m a b := by
  have hnd := hM.1
  refine ⟨fun d hd => ⟨?_, ?_⟩, fun a b ha hb => ?_⟩
  · exact isMax_uniq (isMax_congr (hC.1 d (by omega)).1 (fun v => (low_eq hnd hB hR hd v).symm)) (hF.1 d hd).1
  · exact isMin_uniq (isMin_congr (hC.1 d (by omega)).2.1 (fun v => (hi_eq hnd hB hR hd v).symm)) (hF.1 d hd).2.1
  · obtain ⟨-, -, c1, c2⟩ := hC.1 a (by omega)
    obtain ⟨g1, g2⟩ := (hF.1 a ha).2.2 b hb
    have n1 : bt (m 19 a) b = true ↔ hm m a 4 b := by
      rw [c1]
      exact hB.1 a ha 4 (by omega) b (by omega)
    have n2 : bt (m 18 a) b = true ↔ b ≠ a ∧ ∃ h, h < 8 ∧ hm m a 3 h ∧ hm m b 3 h := by
      rw [c2 b (by omega)]
      unfold shH
      rw [and_ne0]
      constructor
      · rintro ⟨-, h1, i, hi, h2, h3⟩
        have e2 := (hB.1 a ha 3 (by omega) i hi).mp h2
        have e3 := (hB.1 b hb 3 (by omega) i hi).mp h3
        exact ⟨h1, i, hm_lim hM ha (by omega) hi e2, e2, e3⟩
      · rintro ⟨h1, h, hh, h2, h3⟩
        exact ⟨by omega, h1, h, by omega, (hB.1 a ha 3 (by omega) h (by omega)).mpr h2, (hB.1 b hb 3 (by omega) h (by omega)).mpr h3⟩
    have hw : (m 34 2).toInt = (m 15 9).toInt := by rw [hR.2.2.2.2]
    unfold nC gC
    by_cases q : a = b
    · subst q
      have h1 : ¬ bt (m 19 a) a = true := fun h => hB.2 a ha (n1.mp h)
      have h2 : ¬ bt (m 18 a) a = true := fun h => (n2.mp h).1 rfl
      rw [if_neg h1, if_neg h2, if_pos rfl]
    · rw [if_neg q]
      by_cases h1 : hm m a 4 b
      · rw [if_pos (n1.mpr h1), if_neg (g2.mpr h1)]
      · rw [if_neg (fun h => h1 (n1.mp h)), if_pos (Classical.byContradiction (fun h => h1 (g2.mp h)))]
        by_cases h2 : ∃ h, h < 8 ∧ hm m a 3 h ∧ hm m b 3 h
        · rw [if_pos (n2.mpr ⟨fun r => q r.symm, h2⟩), if_neg (g1.mpr h2), hw]
        · rw [if_neg (fun h => h2 (n2.mp h).2), if_pos (Classical.byContradiction (fun h => h2 (g1.mp h)))]
section NETEQ
variable {F L F' L' : Nat → Int} {cst cst' : Nat → Nat → Option Int} {nd : Nat}
theorem clo_net (h : ∀ a b, a < nd → b < nd → cst a b = cst' a b) {t : Nat} (ht : inN t nd) {y : Nat → Int} (hy : clo cst t y) : clo cst' t y := by
  intro a b c ha hb hta htb hc
  exact hy a b c ha hb hta htb (by rw [h a b (ht a hta) (ht b htb)]; exact hc)
theorem agr_net (h1 : ∀ d, d < nd → F d = F' d ∧ L d = L' d) (h2 : ∀ a b, a < nd → b < nd → cst a b = cst' a b) {t : Nat} (ht : inN t nd) (h : agr F L cst t) : agr F' L' cst' t := by
  obtain ⟨y, y1, y2⟩ := h
  refine ⟨y, fun d hd htd => ?_, clo_net h2 ht y2⟩
  have := h1 d (ht d htd)
  rw [← this.1, ← this.2]
  exact y1 d hd htd
theorem isM_net (h1 : ∀ d, d < nd → F d = F' d) (h2 : ∀ a b, a < nd → b < nd → cst a b = cst' a b) {t : Nat} (ht : inN t nd) {Y : Nat → Int} (h : isM F cst t Y) : isM F' cst' t Y := by
  refine ⟨fun b hb htb => ?_, clo_net h2 ht h.2.1, fun y hy hyc => h.2.2 y (fun b hb htb => ?_) (clo_net (fun a b ha hb => (h2 a b ha hb).symm) ht hyc)⟩
  · rw [← h1 b (ht b htb)]; exact h.1 b hb htb
  · rw [h1 b (ht b htb)]; exact hy b hb htb
theorem isG_net (h1 : ∀ d, d < nd → L d = L' d) (h2 : ∀ a b, a < nd → b < nd → cst a b = cst' a b) {t : Nat} (ht : inN t nd) {Y : Nat → Int} (h : isG L cst t Y) : isG L' cst' t Y := by
  refine ⟨fun b hb htb => ?_, clo_net h2 ht h.2.1, fun y hy hyc => h.2.2 y (fun b hb htb => ?_) (clo_net (fun a b ha hb => (h2 a b ha hb).symm) ht hyc)⟩
  · rw [← h1 b (ht b htb)]; exact h.1 b hb htb
  · rw [h1 b (ht b htb)]; exact hy b hb htb
theorem isQ_net (h1 : ∀ d, d < nd → F d = F' d ∧ L d = L' d) (h2 : ∀ a b, a < nd → b < nd → cst a b = cst' a b) {q : Nat} (h : isQ F L cst (fullN nd) q) : isQ F' L' cst' (fullN nd) q := by
  have h1' : ∀ d, d < nd → F' d = F d ∧ L' d = L d := fun d hd => ⟨(h1 d hd).1.symm, (h1 d hd).2.symm⟩
  have h2' : ∀ a b, a < nd → b < nd → cst' a b = cst a b := fun a b ha hb => (h2 a b ha hb).symm
  exact ⟨h.1, fun k => h.2.1 (agr_net h1' h2' (sub_fullN.mp h.1) k), fun t ht hn => h.2.2 t ht (fun k => hn (agr_net h1 h2 (sub_fullN.mp ht) k))⟩
theorem isF_net {wt wt' : Nat → Int} (h1 : ∀ d, d < nd → F d = F' d ∧ L d = L' d) (h2 : ∀ a b, a < nd → b < nd → cst a b = cst' a b) (h3 : ∀ i, i < nd → wt i = wt' i) {x : Nat} (h : isF F L cst wt (fullN nd) x) : isF F' L' cst' wt' (fullN nd) x := by
  have h1' : ∀ d, d < nd → F' d = F d ∧ L' d = L d := fun d hd => ⟨(h1 d hd).1.symm, (h1 d hd).2.symm⟩
  have h2' : ∀ a b, a < nd → b < nd → cst' a b = cst a b := fun a b ha hb => (h2 a b ha hb).symm
  have hA : inN (fullN nd) nd := le_fullN.mp (Nat.le_refl _)
  have hw : ∀ t, sub t (fullN nd) → ws wt t = ws wt' t := fun t ht => wsN_congr 12 (fun i _ => ⟨rfl, fun hi => h3 i (sub_fullN.mp ht i hi)⟩)
  refine ⟨h.1, agr_net h1 h2 (dif_in hA) h.2.1, fun t ht hat => ?_⟩
  have := h.2.2 t ht (agr_net h1' h2' (dif_in hA) hat)
  unfold nw at this ⊢
  rw [← hw x h.1, ← hw t ht]
  exact this
end NETEQ
/-- both sides have worked it out: the same forged ones, the same years, the same quarrel -/
theorem both_eq {m : AM} {nd : Nat} (hM : MOK m nd) (hB : MB m nd) (hR : RE m) (hC : CST m nd) (hF : FRS m nd) : ∃ f, low12 f ∧ sub f (fullN nd) ∧ m 0 11 = nI (dif (fullN nd) f) ∧ m 34 32 = nI f ∧ (∀ d, d < nd → f.testBit d = false → (m 20 d).toInt = (m 57 d).toInt ∧ (m 21 d).toInt = (m 58 d).toInt) := by
  have hnd := hM.1
  obtain ⟨n1, n2⟩ := net_eq hM hB hR hC hF
  obtain ⟨-, -, f, e1, f1, f2, f3⟩ := hC
  obtain ⟨-, -, -, ⟨f', e2, g1, g2, g3⟩, -⟩ := hF
  have hw : ∀ i, i < nd → wtm m i = wtg m i := fun i hi => by unfold wtm wtg; rw [(hR.2.2.2.1 i (by omega)).2.2]
  have hff : f = f' := isF_uniq (isF_net n1 n2 hw f1) g1
  subst hff
  have hA : inN (fullN nd) nd := le_fullN.mp (Nat.le_refl _)
  have hs := f1.1
  refine ⟨f, fun i hi => ?_, hs, e1, e2, fun d hd hfd => ?_⟩
  · have := sub_fullN.mp hs i hi; omega
  · have hb : (dif (fullN nd) f).testBit d = true := by rw [dif_bit, fullN_bit, hfd]; simp [hd]
    exact ⟨isM_uniq (isM_net (fun d hd => (n1 d hd).1) n2 (dif_in hA) f2) g2 d (by omega) hb, isG_uniq (isG_net (fun d hd => (n1 d hd).2) n2 (dif_in hA) f3) g3 d (by omega) hb⟩
