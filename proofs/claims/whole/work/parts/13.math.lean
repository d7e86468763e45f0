/-! ===== sets of deeds as numbers ===== -/
def pcN (t : Nat) : Nat → Nat
  | 0 => 0
  | n + 1 => pcN t n + (if t.testBit n = true then 1 else 0)
theorem pcN_le (t : Nat) : ∀ n, pcN t n ≤ n
  | 0 => Nat.le_refl 0
  | n + 1 => by
    have := pcN_le t n
    unfold pcN
    split <;> omega
theorem pcN_mono {s t : Nat} : ∀ n, (∀ i, i < n → s.testBit i = true → t.testBit i = true) → pcN s n ≤ pcN t n
  | 0, _ => Nat.le_refl 0
  | n + 1, h => by
    have h1 := pcN_mono (s := s) (t := t) n (fun i hi => h i (by omega))
    have h2 := h n (by omega)
    unfold pcN
    by_cases hs : s.testBit n = true
    · rw [if_pos hs, if_pos (h2 hs)]; omega
    · rw [if_neg hs]; split <;> omega
theorem pcN_congr {s t : Nat} : ∀ n, (∀ i, i < n → s.testBit i = t.testBit i) → pcN s n = pcN t n
  | 0, _ => rfl
  | n + 1, h => by
    have h1 := pcN_congr (s := s) (t := t) n (fun i hi => h i (by omega))
    unfold pcN
    rw [h1, h n (by omega)]
/-- a set with one more -/
theorem pcN_ins {s t d : Nat} : ∀ n, d < n → s.testBit d = false → (∀ i, i < n → t.testBit i = (s.testBit i || decide (i = d))) → pcN t n = pcN s n + 1
  | 0, h, _, _ => by omega
  | n + 1, hd, hs, h => by
    unfold pcN
    by_cases hn : d = n
    · subst hn
      have h1 : pcN t d = pcN s d := pcN_congr d (fun i hi => by
        have q : ¬ i = d := by omega
        rw [h i (by omega)]
        simp [q])
      rw [h1, h d (by omega), hs]
      simp
    · have h1 := pcN_ins (s := s) (t := t) (d := d) n (by omega) hs (fun i hi => h i (by omega))
      have h2 : t.testBit n = s.testBit n := by rw [h n (by omega)]; have : ¬ n = d := fun q => hn q.symm; simp [this]
      rw [h1, h2]
      omega
theorem pcN_sub_lt {s t d : Nat} {n : Nat} (hd : d < n) (h : ∀ i, i < n → s.testBit i = true → t.testBit i = true) (hs : s.testBit d = false) (ht : t.testBit d = true) : pcN s n < pcN t n := by
  induction n with
  | zero => omega
  | succ n ih =>
    unfold pcN
    by_cases hn : d = n
    · subst hn
      have h1 := pcN_mono (s := s) (t := t) d (fun i hi => h i (by omega))
      rw [hs, ht]
      simp
      omega
    · have h1 := ih (by omega) (fun i hi => h i (by omega))
      have h2 := h n (by omega)
      by_cases q : s.testBit n = true
      · rw [if_pos q, if_pos (h2 q)]; omega
      · rw [if_neg q]; split <;> omega
def insB (t d : Nat) : Nat := t ||| 2 ^ d
theorem insB_bit (t d i : Nat) : (insB t d).testBit i = (t.testBit i || decide (i = d)) := by
  unfold insB
  rw [Nat.testBit_or, Nat.testBit_two_pow]
  by_cases h : d = i
  · subst h; simp
  · have h2 : ¬ i = d := fun q => h q.symm
    simp [h, h2]
def sz (t : Nat) : Nat := pcN t 12
def sub (s t : Nat) : Prop := ∀ i, s.testBit i = true → t.testBit i = true
/-! ===== years that deeds leave one another ===== -/
section NET
variable (F L : Nat → Int) (cst : Nat → Nat → Option Int)
def sol (t : Nat) (y : Nat → Int) : Prop := (∀ d, d < 12 → t.testBit d = true → F d ≤ y d ∧ y d ≤ L d) ∧ ∀ a b c, a < 12 → b < 12 → t.testBit a = true → t.testBit b = true → cst a b = some c → y b ≤ y a + c
def agr (t : Nat) : Prop := ∃ y, sol F L cst t y
def jmin (t : Nat) (X : Nat → Int) (b : Nat) : Nat → Int
  | 0 => X b
  | a + 1 => match (if t.testBit a = true ∧ t.testBit b = true then cst a b else none) with
    | some c => if X a + c < jmin t X b a then X a + c else jmin t X b a
    | none => jmin t X b a
def lat (t : Nat) : Nat → Nat → Int
  | 0 => L
  | k + 1 => fun b => jmin cst t (lat t k) b 12
variable {F L cst}
theorem jmin_le (t : Nat) (X : Nat → Int) (b : Nat) : ∀ n, jmin cst t X b n ≤ X b
  | 0 => Int.le_refl _
  | n + 1 => by
    have h := jmin_le t X b n
    unfold jmin
    split
    · split
      · omega
      · exact h
    · exact h
theorem jmin_mono (t : Nat) (X : Nat → Int) (b : Nat) {i n : Nat} (h : i ≤ n) : jmin cst t X b n ≤ jmin cst t X b i := by
  induction n with
  | zero => obtain rfl : i = 0 := by omega
            exact Int.le_refl _
  | succ n ih =>
    by_cases hi : i = n + 1
    · subst hi; exact Int.le_refl _
    · have h1 := ih (by omega)
      have h2 : jmin cst t X b (n + 1) ≤ jmin cst t X b n := by
        conv => lhs; unfold jmin
        split
        · split
          · omega
          · exact Int.le_refl _
        · exact Int.le_refl _
      omega
theorem jmin_edge {t : Nat} {X : Nat → Int} {a b n : Nat} {c : Int} (ha : t.testBit a = true) (hb : t.testBit b = true) (hc : cst a b = some c) (hn : a < n) : jmin cst t X b n ≤ X a + c := by
  have h1 : jmin cst t X b (a + 1) ≤ X a + c := by
    unfold jmin
    rw [if_pos ⟨ha, hb⟩, hc]
    dsimp only
    split
    · exact Int.le_refl _
    · omega
  have h2 := jmin_mono (cst := cst) t X b (show a + 1 ≤ n by omega)
  omega
theorem jmin_or (t : Nat) (X : Nat → Int) (b : Nat) : ∀ n, jmin cst t X b n = X b ∨ ∃ a c, a < n ∧ t.testBit a = true ∧ t.testBit b = true ∧ cst a b = some c ∧ jmin cst t X b n = X a + c
  | 0 => Or.inl rfl
  | n + 1 => by
    have h := jmin_or t X b n
    have keep : jmin cst t X b (n + 1) = jmin cst t X b n → (jmin cst t X b (n + 1) = X b ∨ ∃ a c, a < n + 1 ∧ t.testBit a = true ∧ t.testBit b = true ∧ cst a b = some c ∧ jmin cst t X b (n + 1) = X a + c) := by
      intro e
      rw [e]
      rcases h with h | ⟨a, c, h1, h2⟩
      · exact Or.inl h
      · exact Or.inr ⟨a, c, by omega, h2⟩
    by_cases hab : t.testBit n = true ∧ t.testBit b = true
    · cases hc : cst n b with
      | none => exact keep (by conv => lhs; unfold jmin; rw [if_pos hab, hc])
      | some c =>
        by_cases hl : X n + c < jmin cst t X b n
        · refine Or.inr ⟨n, c, by omega, hab.1, hab.2, hc, ?_⟩
          conv => lhs; unfold jmin; rw [if_pos hab, hc]
          simp [hl]
        · exact keep (by conv => lhs; unfold jmin; rw [if_pos hab, hc]; dsimp only; rw [if_neg hl])
    · exact keep (by conv => lhs; unfold jmin; rw [if_neg hab])
theorem lat_le (t k b : Nat) : lat L cst t (k + 1) b ≤ lat L cst t k b := jmin_le t _ b 12
theorem lat_dec (t b : Nat) {i k : Nat} (h : i ≤ k) : lat L cst t k b ≤ lat L cst t i b := by
  induction k with
  | zero => obtain rfl : i = 0 := by omega
            exact Int.le_refl _
  | succ k ih =>
    by_cases hi : i = k + 1
    · subst hi; exact Int.le_refl _
    · have := ih (by omega)
      have h2 := lat_le (L := L) (cst := cst) t k b
      omega
theorem lat_edge {t k a b : Nat} {c : Int} (ha : a < 12) (hta : t.testBit a = true) (htb : t.testBit b = true) (hc : cst a b = some c) : lat L cst t (k + 1) b ≤ lat L cst t k a + c := jmin_edge hta htb hc ha
/-- a solution lies below every round -/
theorem lat_sol {t : Nat} {y : Nat → Int} (h : sol F L cst t y) : ∀ k b, b < 12 → t.testBit b = true → y b ≤ lat L cst t k b
  | 0, b, hb, htb => (h.1 b hb htb).2
  | k + 1, b, hb, htb => by
    have ih := lat_sol h k
    show y b ≤ jmin cst t (lat L cst t k) b 12
    rcases jmin_or (cst := cst) t (lat L cst t k) b 12 with e | ⟨a, c, ha, hta, -, hc, e⟩
    · rw [e]; exact ih b hb htb
    · rw [e]
      have h1 := ih a ha hta
      have h2 := h.2 a b c ha hb hta htb hc
      omega
/-- a greater set has lesser rounds -/
theorem lat_sub {s t : Nat} (h : sub s t) : ∀ k b, lat L cst t k b ≤ lat L cst s k b
  | 0, b => Int.le_refl _
  | k + 1, b => by
    have ih := lat_sub h k
    show jmin cst t (lat L cst t k) b 12 ≤ jmin cst s (lat L cst s k) b 12
    rcases jmin_or (cst := cst) s (lat L cst s k) b 12 with e | ⟨a, c, ha, hta, htb, hc, e⟩
    · rw [e]
      have := jmin_le (cst := cst) t (lat L cst t k) b 12
      have := ih b
      omega
    · rw [e]
      have h1 := jmin_edge (cst := cst) (X := lat L cst t k) (h a hta) (h b htb) hc ha
      have h2 := ih a
      omega
/-- what changes at round k is the end of a chain of k + 1 different ones -/
theorem lat_chain (hc0 : ∀ a b c, cst a b = some c → 0 ≤ c) {t : Nat} : ∀ (k b : Nat), b < 12 → t.testBit b = true → (k = 0 ∨ lat L cst t k b < lat L cst t (k - 1) b) → ∃ u : Nat, (∀ i, u.testBit i = true → i < 12 ∧ t.testBit i = true ∧ ∃ j, j ≤ k ∧ lat L cst t j i ≤ lat L cst t k b) ∧ sz u = k + 1 ∧ u.testBit b = true
  | 0, b, hb, htb, _ => by
    refine ⟨insB 0 b, fun i hi => ?_, ?_, by rw [insB_bit]; simp⟩
    · rw [insB_bit] at hi
      simp at hi
      subst hi
      exact ⟨hb, htb, 0, Nat.le_refl 0, Int.le_refl _⟩
    · show pcN (insB 0 b) 12 = 1
      rw [pcN_ins (s := 0) (d := b) 12 hb (by simp) (fun i _ => insB_bit 0 b i)]
      have : pcN 0 12 = 0 := by decide
      omega
  | k + 1, b, hb, htb, hch => by
    have hch2 : lat L cst t (k + 1) b < lat L cst t k b := by
      rcases hch with h | h
      · omega
      · simpa using h
    rcases jmin_or (cst := cst) t (lat L cst t k) b 12 with e | ⟨a, c, ha, hta, -, hc, e⟩
    · exact absurd hch2 (by show ¬ jmin cst t (lat L cst t k) b 12 < _; rw [e]; omega)
    · have e2 : lat L cst t (k + 1) b = lat L cst t k a + c := e
      have hcc := hc0 a b c hc
      have ha2 : k = 0 ∨ lat L cst t k a < lat L cst t (k - 1) a := by
        rcases Nat.eq_zero_or_pos k with h | h
        · exact Or.inl h
        · right
          obtain ⟨j, rfl⟩ : ∃ j, k = j + 1 := ⟨k - 1, by omega⟩
          have h1 := lat_edge (L := L) (k := j) ha hta htb hc
          have h2 := lat_le (L := L) (cst := cst) t j a
          simp only [Nat.add_sub_cancel]
          omega
      obtain ⟨u, hu, hsz, hua⟩ := lat_chain hc0 k a ha hta ha2
      have hbu : u.testBit b = false := by
        cases hq : u.testBit b with
        | false => rfl
        | true =>
          obtain ⟨-, -, j, hj, h1⟩ := hu b hq
          have h2 := lat_dec (L := L) (cst := cst) t b hj
          omega
      refine ⟨insB u b, fun i hi => ?_, ?_, by rw [insB_bit]; simp⟩
      · rw [insB_bit] at hi
        simp at hi
        rcases hi with hi | rfl
        · obtain ⟨h1, h2, j, hj, h3⟩ := hu i hi
          exact ⟨h1, h2, j, by omega, by omega⟩
        · exact ⟨hb, htb, k + 1, Nat.le_refl _, Int.le_refl _⟩
      · show pcN (insB u b) 12 = k + 1 + 1
        rw [pcN_ins (s := u) (d := b) 12 hb hbu (fun i _ => insB_bit u b i)]
        have : pcN u 12 = k + 1 := hsz
        omega
theorem lat_stable (hc0 : ∀ a b c, cst a b = some c → 0 ≤ c) {t b : Nat} (hb : b < 12) (htb : t.testBit b = true) : lat L cst t 12 b = lat L cst t 11 b := by
  have h := lat_le (L := L) (cst := cst) t 11 b
  rcases Int.lt_or_le (lat L cst t 12 b) (lat L cst t 11 b) with h2 | h2
  · obtain ⟨u, -, hs, -⟩ := lat_chain hc0 12 b hb htb (Or.inr h2)
    have := pcN_le u 12
    unfold sz at hs
    omega
  · have h3 : lat L cst t 12 b ≤ lat L cst t 11 b := h
    omega
def brk (F L : Nat → Int) (cst : Nat → Nat → Option Int) (t k : Nat) : Prop := ∃ b, b < 12 ∧ t.testBit b = true ∧ lat L cst t k b < F b
theorem brk_mono {t i k : Nat} (h : i ≤ k) (hb : brk F L cst t i) : brk F L cst t k := by
  obtain ⟨b, h1, h2, h3⟩ := hb
  have := lat_dec (L := L) (cst := cst) t b h
  exact ⟨b, h1, h2, by omega⟩
theorem brk_nagr {t k : Nat} (h : brk F L cst t k) : ¬ agr F L cst t := by
  rintro ⟨y, hy⟩
  obtain ⟨b, h1, h2, h3⟩ := h
  have h4 := lat_sol hy k b h1 h2
  have h5 := (hy.1 b h1 h2).1
  omega
theorem agr_of_stable {t k : Nat} (hs : ∀ b, b < 12 → t.testBit b = true → lat L cst t (k + 1) b = lat L cst t k b) (hn : ¬ brk F L cst t k) : sol F L cst t (lat L cst t k) := by
  refine ⟨fun d hd htd => ⟨?_, ?_⟩, fun a b c ha hb hta htb hc => ?_⟩
  · rcases Int.lt_or_le (lat L cst t k d) (F d) with h | h
    · exact absurd ⟨d, hd, htd, h⟩ hn
    · exact h
  · exact lat_dec (L := L) (cst := cst) t d (Nat.zero_le k)
  · rw [← hs b hb htb]
    exact lat_edge ha hta htb hc
theorem nagr_brk (hc0 : ∀ a b c, cst a b = some c → 0 ≤ c) {t : Nat} (h : ¬ agr F L cst t) : brk F L cst t 11 := by
  rcases Classical.em (brk F L cst t 11) with q | q
  · exact q
  · exact absurd ⟨_, agr_of_stable (k := 11) (fun b hb htb => lat_stable hc0 hb htb) q⟩ h
theorem agr_sub {s t : Nat} (h : sub s t) (ha : agr F L cst t) : agr F L cst s := by
  obtain ⟨y, h1, h2⟩ := ha
  exact ⟨y, fun d hd hs => h1 d hd (h d hs), fun a b c ha hb hsa hsb hc => h2 a b c ha hb (h a hsa) (h b hsb) hc⟩
/-- a set that breaks first at round k has more than k deeds -/
theorem brk_size (hc0 : ∀ a b c, cst a b = some c → 0 ≤ c) {t k : Nat} (h : brk F L cst t k) (hn : ∀ j, j < k → ¬ brk F L cst t j) : k + 1 ≤ sz t := by
  obtain ⟨b, h1, h2, h3⟩ := h
  have hch : k = 0 ∨ lat L cst t k b < lat L cst t (k - 1) b := by
    rcases Nat.eq_zero_or_pos k with q | q
    · exact Or.inl q
    · right
      have h4 : ¬ lat L cst t (k - 1) b < F b := fun q2 => hn (k - 1) (by omega) ⟨b, h1, h2, q2⟩
      omega
  obtain ⟨u, hu, hs, -⟩ := lat_chain hc0 k b h1 h2 hch
  have : pcN u 12 ≤ pcN t 12 := pcN_mono 12 (fun i _ hi => (hu i hi).2.1)
  unfold sz at hs ⊢
  omega
/-- a set that breaks at round k has a part with at most k + 1 deeds that breaks there -/
theorem brk_part {t : Nat} : ∀ (k b : Nat), b < 12 → t.testBit b = true → ∃ u : Nat, (∀ i, u.testBit i = true → i < 12 ∧ t.testBit i = true) ∧ sz u ≤ k + 1 ∧ u.testBit b = true ∧ lat L cst u k b ≤ lat L cst t k b
  | 0, b, hb, htb => by
    refine ⟨insB 0 b, fun i hi => ?_, ?_, by rw [insB_bit]; simp, Int.le_refl _⟩
    · rw [insB_bit] at hi
      simp at hi
      subst hi
      exact ⟨hb, htb⟩
    · show pcN (insB 0 b) 12 ≤ 1
      rw [pcN_ins (s := 0) (d := b) 12 hb (by simp) (fun i _ => insB_bit 0 b i)]
      have : pcN 0 12 = 0 := by decide
      omega
  | k + 1, b, hb, htb => by
    rcases jmin_or (cst := cst) t (lat L cst t k) b 12 with e | ⟨a, c, ha, hta, -, hc, e⟩
    · obtain ⟨u, h1, h2, h3, h4⟩ := brk_part (t := t) k b hb htb
      refine ⟨u, h1, by omega, h3, ?_⟩
      have e2 : lat L cst t (k + 1) b = lat L cst t k b := e
      have := lat_le (L := L) (cst := cst) u k b
      omega
    · obtain ⟨u, h1, h2, h3, h4⟩ := brk_part (t := t) k a ha hta
      have e2 : lat L cst t (k + 1) b = lat L cst t k a + c := e
      have hsub : sub u (insB u b) := fun i hi => by rw [insB_bit, hi]; simp
      have hbb : (insB u b).testBit b = true := by rw [insB_bit]; simp
      refine ⟨insB u b, fun i hi => ?_, ?_, hbb, ?_⟩
      · rw [insB_bit] at hi
        simp at hi
        rcases hi with hi | rfl
        · exact h1 i hi
        · exact ⟨hb, htb⟩
      · show pcN (insB u b) 12 ≤ k + 1 + 1
        cases hq : u.testBit b with
        | false =>
          rw [pcN_ins (s := u) (d := b) 12 hb hq (fun i _ => insB_bit u b i)]
          have : pcN u 12 ≤ k + 1 := h2
          omega
        | true =>
          have : pcN (insB u b) 12 = pcN u 12 := pcN_congr 12 (fun i _ => by
            rw [insB_bit]
            by_cases q : i = b
            · subst q; simp [hq]
            · simp [q])
          have h5 : pcN u 12 ≤ k + 1 := h2
          omega
      · have h5 := lat_edge (L := L) (k := k) ha (hsub a h3) hbb hc
        have h6 := lat_sub (L := L) (cst := cst) hsub k a
        omega
end NET
