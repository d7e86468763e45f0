/-! ===== the least quarrel; the lightest set ===== -/
theorem sub_trans {a b c : Nat} (h1 : sub a b) (h2 : sub b c) : sub a c := fun i hi => h2 i (h1 i hi)
def low12 (t : Nat) : Prop := ∀ i, t.testBit i = true → i < 12
theorem set_ext {s t : Nat} (hs : low12 s) (ht : low12 t) (h : ∀ i, i < 12 → s.testBit i = t.testBit i) : s = t := by
  apply Nat.eq_of_testBit_eq
  intro i
  by_cases hi : i < 12
  · exact h i hi
  · have h1 : s.testBit i = false := by
      cases q : s.testBit i with
      | false => rfl
      | true => exact absurd (hs i q) hi
    have h2 : t.testBit i = false := by
      cases q : t.testBit i with
      | false => rfl
      | true => exact absurd (ht i q) hi
    rw [h1, h2]
theorem lt_bit {s t n : Nat} (hs : s.testBit n = false) (ht : t.testBit n = true) (h : ∀ j, n < j → s.testBit j = t.testBit j) : s < t := by
  have e : s / 2 ^ (n + 1) = t / 2 ^ (n + 1) := by
    apply Nat.eq_of_testBit_eq
    intro i
    rw [← Nat.shiftRight_eq_div_pow, ← Nat.shiftRight_eq_div_pow, Nat.testBit_shiftRight, Nat.testBit_shiftRight]
    exact h _ (by omega)
  have h1 : s % 2 ^ (n + 1) < 2 ^ n := by
    apply Nat.lt_pow_two_of_testBit
    intro i hi
    rw [Nat.testBit_mod_two_pow]
    by_cases q : i = n
    · subst q; simp [hs]
    · have : ¬ i < n + 1 := by omega
      simp [this]
  have h2 : 2 ^ n ≤ t % 2 ^ (n + 1) := by
    apply Nat.ge_two_pow_of_testBit
    rw [Nat.testBit_mod_two_pow]
    simp [ht]
  have h3 := Nat.div_add_mod s (2 ^ (n + 1))
  have h4 := Nat.div_add_mod t (2 ^ (n + 1))
  rw [e] at h3
  omega
/-- the set that lacks the first one in which they differ is the lesser -/
theorem set_lt {s t d : Nat} (hs : s.testBit d = false) (ht : t.testBit d = true) (h : ∀ i, d < i → s.testBit i = true → t.testBit i = true) : s < t := by
  rcases Nat.lt_trichotomy s t with q | q | q
  · exact q
  · rw [q, ht] at hs; cases hs
  · exfalso
    obtain ⟨j, hj1, hj2, hj3⟩ : ∃ j, s.testBit j = true ∧ t.testBit j = false ∧ ∀ i, j < i → s.testBit i = t.testBit i := by
      have hne : ∃ n, ∀ i, n ≤ i → s.testBit i = t.testBit i := by
        refine ⟨s, fun i hi => ?_⟩
        have h1 : s.testBit i = false := Nat.testBit_lt_two_pow (Nat.lt_of_le_of_lt hi Nat.lt_two_pow_self)
        have h2 : t.testBit i = false := Nat.testBit_lt_two_pow (Nat.lt_of_lt_of_le q (Nat.le_of_lt (Nat.lt_of_le_of_lt hi Nat.lt_two_pow_self)))
        rw [h1, h2]
      obtain ⟨n, hn⟩ := hne
      induction n with
      | zero => exact absurd (Nat.eq_of_testBit_eq (fun i => hn i (Nat.zero_le i))) (by omega)
      | succ n ih =>
        by_cases e : s.testBit n = t.testBit n
        · refine ih (fun i hi => ?_)
          by_cases e2 : i = n
          · rw [e2]; exact e
          · exact hn i (by omega)
        · cases hsn : s.testBit n with
          | true =>
            refine ⟨n, hsn, ?_, fun i hi => hn i (by omega)⟩
            cases htn : t.testBit n with
            | false => rfl
            | true => rw [hsn, htn] at e; exact absurd rfl e
          | false =>
            have htn : t.testBit n = true := by
              cases htn : t.testBit n with
              | true => rfl
              | false => rw [hsn, htn] at e; exact absurd rfl e
            have := lt_bit hsn htn (fun j hj => hn j (by omega))
            omega
    rcases Nat.lt_trichotomy d j with r | r | r
    · have := h j r hj1
      rw [hj2] at this; cases this
    · subst r; rw [hs] at hj1; cases hj1
    · have := hj3 d r
      rw [hs, ht] at this; cases this
def dif (a x : Nat) : Nat := a ^^^ (a &&& x)
theorem dif_bit (a x i : Nat) : (dif a x).testBit i = (a.testBit i && !x.testBit i) := by
  unfold dif
  rw [Nat.testBit_xor, Nat.testBit_and]
  cases a.testBit i <;> cases x.testBit i <;> rfl
section QUARREL
variable {F L : Nat → Int} {cst : Nat → Nat → Option Int}
theorem agr_congr {s t : Nat} (h : ∀ i, i < 12 → s.testBit i = t.testBit i) (ha : agr F L cst t) : agr F L cst s := by
  obtain ⟨y, h1, h2⟩ := ha
  exact ⟨y, fun d hd hs => h1 d hd (by rw [← h d hd]; exact hs), fun a b c ha hb hsa hsb hc => h2 a b c ha hb (by rw [← h a ha]; exact hsa) (by rw [← h b hb]; exact hsb) hc⟩
theorem agr_zero : agr F L cst 0 := ⟨F, fun d hd h => by simp at h, fun a b c ha hb h => by simp at h⟩
theorem brk_sub {s t k : Nat} (h : sub s t) (hb : brk F L cst s k) : brk F L cst t k := by
  obtain ⟨b, h1, h2, h3⟩ := hb
  have := lat_sub (L := L) (cst := cst) h k b
  exact ⟨b, h1, h b h2, by omega⟩
/-- the first round at which a set breaks -/
def fst (F L : Nat → Int) (cst : Nat → Nat → Option Int) (t k : Nat) : Prop := brk F L cst t k ∧ ∀ j, j < k → ¬ brk F L cst t j
theorem fst_ex (hc0 : ∀ a b c, cst a b = some c → 0 ≤ c) {t : Nat} (h : ¬ agr F L cst t) : ∃ k, fst F L cst t k ∧ k ≤ 11 := by
  obtain ⟨k, h1, h2⟩ := pk_least (fun k => brk F L cst t k) ⟨11, nagr_brk hc0 h⟩
  refine ⟨k, ⟨h1, h2⟩, ?_⟩
  rcases Nat.lt_or_ge 11 k with q | q
  · exact absurd (nagr_brk hc0 h) (h2 11 q)
  · exact q
theorem fst_uniq {t j k : Nat} (h1 : fst F L cst t j) (h2 : fst F L cst t k) : j = k := by
  rcases Nat.lt_trichotomy j k with q | q | q
  · exact absurd h1.1 (h2.2 j q)
  · exact q
  · exact absurd h2.1 (h1.2 k q)
/-- the least quarrel within A -/
def isQ (F L : Nat → Int) (cst : Nat → Nat → Option Int) (A q : Nat) : Prop := sub q A ∧ ¬ agr F L cst q ∧ ∀ t, sub t A → ¬ agr F L cst t → sz q < sz t ∨ (sz q = sz t ∧ q ≤ t)
theorem isQ_size (hc0 : ∀ a b c, cst a b = some c → 0 ≤ c) {A q k : Nat} (hq : isQ F L cst A q) (hk : fst F L cst A k) : sz q = k + 1 ∧ brk F L cst q k := by
  obtain ⟨hs, hn, hmin⟩ := hq
  obtain ⟨j, hj, -⟩ := fst_ex hc0 hn
  have h1 : k ≤ j := by
    rcases Nat.lt_or_ge j k with r | r
    · exact absurd (brk_sub hs hj.1) (hk.2 j r)
    · exact r
  have h2 := brk_size hc0 hj.1 hj.2
  obtain ⟨b, hb, htb, hlt⟩ := hk.1
  obtain ⟨u, hu1, hu2, hu3, hu4⟩ := brk_part (L := L) (cst := cst) k b hb htb
  have hbu : brk F L cst u k := ⟨b, hb, hu3, by omega⟩
  have h3 := hmin u (fun i hi => (hu1 i hi).2) (brk_nagr hbu)
  have h4 : sz q = k + 1 := by omega
  exact ⟨h4, brk_mono (show j ≤ k by omega) hj.1⟩
theorem isQ_keep (hc0 : ∀ a b c, cst a b = some c → 0 ≤ c) {A q k left : Nat} (hq : isQ F L cst A q) (hk : fst F L cst A k) (h1 : sub left A) (h2 : sub q left) : fst F L cst left k :=
  ⟨brk_sub h2 (isQ_size hc0 hq hk).2, fun j hj hb => hk.2 j hj (brk_sub h1 hb)⟩
theorem isQ_must (hc0 : ∀ a b c, cst a b = some c → 0 ≤ c) {A q k fewer d : Nat} (hq : isQ F L cst A q) (hk : fst F L cst A k) (h1 : sub fewer A) (hd : q.testBit d = true) (hf : fewer.testBit d = false) (hab : ∀ i, d < i → fewer.testBit i = true → q.testBit i = true) : ¬ fst F L cst fewer k := by
  intro hfk
  obtain ⟨b, hb, htb, hlt⟩ := hfk.1
  obtain ⟨u, hu1, hu2, hu3, hu4⟩ := brk_part (L := L) (cst := cst) k b hb htb
  have hbu : brk F L cst u k := ⟨b, hb, hu3, by omega⟩
  have hs := (isQ_size hc0 hq hk).1
  have h3 := hq.2.2 u (fun i hi => h1 i (hu1 i hi).2) (brk_nagr hbu)
  have hud : u.testBit d = false := by
    cases r : u.testBit d with
    | false => rfl
    | true => rw [(hu1 d r).2] at hf; cases hf
  have h4 := set_lt hud hd (fun i hi hui => hab i hi (hu1 i hui).2)
  omega
end QUARREL
/-! ===== the order of sets ===== -/
def wsN (wt : Nat → Int) (t : Nat) : Nat → Int
  | 0 => 0
  | n + 1 => wsN wt t n + (if t.testBit n = true then wt n else 0)
theorem wsN_congr {wt wt' : Nat → Int} {s t : Nat} : ∀ n, (∀ i, i < n → s.testBit i = t.testBit i ∧ (t.testBit i = true → wt i = wt' i)) → wsN wt s n = wsN wt' t n
  | 0, _ => rfl
  | n + 1, h => by
    have h1 := wsN_congr (wt := wt) (wt' := wt') (s := s) (t := t) n (fun i hi => h i (by omega))
    unfold wsN
    rw [h1, (h n (by omega)).1]
    by_cases q : t.testBit n = true
    · rw [if_pos q, if_pos q, (h n (by omega)).2 q]
    · rw [if_neg q, if_neg q]
theorem wsN_mono {wt : Nat → Int} {s t : Nat} : ∀ n, (∀ i, i < n → t.testBit i = true → 1 ≤ wt i) → (∀ i, i < n → s.testBit i = true → t.testBit i = true) → wsN wt s n ≤ wsN wt t n ∧ (wsN wt s n = wsN wt t n → ∀ i, i < n → s.testBit i = t.testBit i)
  | 0, _, _ => ⟨Int.le_refl _, fun _ i hi => by omega⟩
  | n + 1, hw, h => by
    obtain ⟨h1, h2⟩ := wsN_mono (wt := wt) (s := s) (t := t) n (fun i hi => hw i (by omega)) (fun i hi => h i (by omega))
    have hn := h n (by omega)
    have hwn := hw n (by omega)
    unfold wsN
    by_cases q : s.testBit n = true
    · rw [if_pos q, if_pos (hn q)]
      refine ⟨by omega, fun e i hi => ?_⟩
      by_cases r : i = n
      · rw [r, q, hn q]
      · exact h2 (by omega) i (by omega)
    · rw [if_neg q]
      by_cases r : t.testBit n = true
      · rw [if_pos r]
        have := hwn r
        exact ⟨by omega, fun e => by omega⟩
      · rw [if_neg r]
        refine ⟨by omega, fun e i hi => ?_⟩
        by_cases r2 : i = n
        · rw [r2]
          have a1 : s.testBit n = false := by simpa using q
          have a2 : t.testBit n = false := by simpa using r
          rw [a1, a2]
        · exact h2 (by omega) i (by omega)
def ws (wt : Nat → Int) (t : Nat) : Int := wsN wt t 12
/-- x is no worse than y: lighter, or as light with fewer, or as few and no greater -/
def nw (wt : Nat → Int) (x y : Nat) : Prop := ws wt x < ws wt y ∨ (ws wt x = ws wt y ∧ (sz x < sz y ∨ (sz x = sz y ∧ x ≤ y)))
theorem nw_refl (wt : Nat → Int) (x : Nat) : nw wt x x := Or.inr ⟨rfl, Or.inr ⟨rfl, Nat.le_refl x⟩⟩
theorem nw_trans {wt : Nat → Int} {x y z : Nat} (h1 : nw wt x y) (h2 : nw wt y z) : nw wt x z := by
  unfold nw at *
  omega
theorem nw_anti {wt : Nat → Int} {x y : Nat} (h1 : nw wt x y) (h2 : nw wt y x) : x = y := by
  unfold nw at *
  omega
theorem nw_total (wt : Nat → Int) (x y : Nat) : nw wt x y ∨ nw wt y x := by
  unfold nw
  omega
theorem nw_sub {wt : Nat → Int} {x y : Nat} (hw : ∀ i, i < 12 → y.testBit i = true → 1 ≤ wt i) (hx : low12 x) (hy : low12 y) (h : sub x y) : nw wt x y := by
  obtain ⟨h1, h2⟩ := wsN_mono (wt := wt) (s := x) (t := y) 12 hw (fun i _ => h i)
  unfold nw ws
  rcases Int.lt_or_le (wsN wt x 12) (wsN wt y 12) with q | q
  · exact Or.inl q
  · have e : wsN wt x 12 = wsN wt y 12 := by omega
    have e2 : x = y := set_ext hx hy (h2 e)
    subst e2
    exact Or.inr ⟨rfl, Or.inr ⟨rfl, Nat.le_refl _⟩⟩
/-- the forged ones within A -/
def isF (F L : Nat → Int) (cst : Nat → Nat → Option Int) (wt : Nat → Int) (A x : Nat) : Prop := sub x A ∧ agr F L cst (dif A x) ∧ ∀ t, sub t A → agr F L cst (dif A t) → nw wt x t
theorem isF_uniq {F L : Nat → Int} {cst : Nat → Nat → Option Int} {wt : Nat → Int} {A x y : Nat} (h1 : isF F L cst wt A x) (h2 : isF F L cst wt A y) : x = y := nw_anti (h1.2.2 y h2.1 h2.2.1) (h2.2.2 x h1.1 h1.2.1)
theorem isQ_uniq {F L : Nat → Int} {cst : Nat → Nat → Option Int} {A x y : Nat} (h1 : isQ F L cst A x) (h2 : isQ F L cst A y) : x = y := by
  have a := h1.2.2 y h2.1 h2.2.1
  have b := h2.2.2 x h1.1 h1.2.1
  omega
