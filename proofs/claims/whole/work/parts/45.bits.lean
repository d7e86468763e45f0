/-! ===== bitCount for sets of up to twenty bits ===== -/
theorem and_split {a b x y : Nat} (ha : a < 256) (hx : x < 256) : (a + 256 * b) &&& (x + 256 * y) = (a &&& x) + 256 * (b &&& y) := by
  have hax : a &&& x < 256 := Nat.lt_of_le_of_lt Nat.and_le_left ha
  apply Nat.eq_of_testBit_eq
  intro i
  rw [Nat.add_comm a, Nat.add_comm x, Nat.add_comm (a &&& x), Nat.testBit_and]
  rw [show (256 : Nat) = 2 ^ 8 from rfl, Nat.testBit_two_pow_mul_add b ha, Nat.testBit_two_pow_mul_add y hx, Nat.testBit_two_pow_mul_add (b &&& y) hax]
  by_cases h : i < 8
  · simp [h]
  · simp [h]
def B3n (t : Nat) : Nat :=
  let t1 := t - (t / 2 &&& 1431655765)
  let t2 := (t1 &&& 858993459) + (t1 / 4 &&& 858993459)
  (t2 + t2 / 16) &&& 252645135
def Bn (t : Nat) : Nat :=
  let t3 := B3n t
  let t4 := t3 + t3 / 256
  (t4 + t4 / 65536) &&& 63
def lo1 (a : Nat) : Nat := a - (a / 2 &&& 85)
def lo2 (a : Nat) : Nat := (lo1 a &&& 51) + (lo1 a / 4 &&& 51)
def lo3 (a : Nat) : Nat := (lo2 a + lo2 a / 16) &&& 15
def hi1 (b : Nat) : Nat := b - (b / 2 &&& 5592405)
def hi2 (b : Nat) : Nat := (hi1 b &&& 3355443) + (hi1 b / 4 &&& 3355443)
def hi3 (b : Nat) : Nat := (hi2 b + hi2 b / 16) &&& 986895
set_option maxRecDepth 100000 in
theorem lo_ok : (List.range 256).all (fun a => decide (lo3 a = sz a) && decide (lo2 a ≤ 68) && decide (lo1 a < 256) && decide (a / 2 &&& 85 ≤ a) && (List.range 4).all (fun c => decide ((a / 4 + 64 * c) &&& 51 = a / 4 &&& 51) && decide ((a / 2 + 128 * (c % 2)) &&& 85 = a / 2 &&& 85))) = true := by decide +kernel
set_option maxRecDepth 100000 in
theorem hi_ok : (List.range 64).all (fun x => (List.range 64).all (fun y => decide (hi3 (x * 64 + y) % 256 + hi3 (x * 64 + y) / 256 = sz (x * 64 + y)) && decide (hi2 (x * 64 + y) % 16 ≤ 4) && decide (hi3 (x * 64 + y) % 256 ≤ 8) && decide (hi3 (x * 64 + y) / 256 ≤ 4) && decide ((x * 64 + y) / 2 &&& 5592405 ≤ x * 64 + y))) = true := by decide +kernel
theorem Bn_split {a b : Nat} (ha : a < 256) (hb : b < 4096) : Bn (a + 256 * b) = sz a + sz b := by
  have h1 := List.all_eq_true.mp lo_ok a (List.mem_range.mpr ha)
  have h2 := List.all_eq_true.mp (List.all_eq_true.mp hi_ok (b / 64) (List.mem_range.mpr (by omega))) (b % 64) (List.mem_range.mpr (by omega))
  rw [show b / 64 * 64 + b % 64 = b by omega] at h2
  simp only [Bool.and_eq_true, decide_eq_true_eq] at h1 h2
  obtain ⟨⟨⟨⟨l1, l2⟩, l3⟩, l4⟩, -⟩ := h1
  obtain ⟨⟨⟨⟨k1, k2⟩, k3⟩, k4⟩, k5⟩ := h2
  have c2 : (a / 2 + 128 * (b % 2)) &&& 85 = a / 2 &&& 85 := by
    have := List.all_eq_true.mp lo_ok a (List.mem_range.mpr ha)
    simp only [Bool.and_eq_true, decide_eq_true_eq] at this
    have := List.all_eq_true.mp this.2 (b % 2) (List.mem_range.mpr (by omega))
    simp only [Bool.and_eq_true, decide_eq_true_eq] at this
    have := this.2
    rw [show b % 2 % 2 = b % 2 by omega] at this
    exact this
  have c4 : ∀ x c, x < 256 → c < 4 → (x / 4 + 64 * c) &&& 51 = x / 4 &&& 51 := by
    intro x c hx hc
    have := List.all_eq_true.mp lo_ok x (List.mem_range.mpr hx)
    simp only [Bool.and_eq_true, decide_eq_true_eq] at this
    have := List.all_eq_true.mp this.2 c (List.mem_range.mpr hc)
    simp only [Bool.and_eq_true, decide_eq_true_eq] at this
    exact this.1
  -- first
  have s1 : a + 256 * b - ((a + 256 * b) / 2 &&& 1431655765) = lo1 a + 256 * hi1 b := by
    have e : (a + 256 * b) / 2 = (a / 2 + 128 * (b % 2)) + 256 * (b / 2) := by omega
    have e2 : (1431655765 : Nat) = 85 + 256 * 5592405 := rfl
    rw [e, e2, and_split (by omega) (by omega), c2]
    unfold lo1 hi1
    omega
  have s2 : ((lo1 a + 256 * hi1 b) &&& 858993459) + ((lo1 a + 256 * hi1 b) / 4 &&& 858993459) = lo2 a + 256 * hi2 b := by
    have e : (lo1 a + 256 * hi1 b) / 4 = (lo1 a / 4 + 64 * (hi1 b % 4)) + 256 * (hi1 b / 4) := by omega
    have e2 : (858993459 : Nat) = 51 + 256 * 3355443 := rfl
    rw [e, e2, and_split (by omega) (by omega), and_split (by omega) (by omega), c4 _ _ l3 (by omega)]
    unfold lo2 hi2
    omega
  have s3 : ((lo2 a + 256 * hi2 b) + (lo2 a + 256 * hi2 b) / 16) &&& 252645135 = lo3 a + 256 * hi3 b := by
    have e : (lo2 a + 256 * hi2 b) + (lo2 a + 256 * hi2 b) / 16 = (lo2 a + lo2 a / 16 + 16 * (hi2 b % 16)) + 256 * (hi2 b + hi2 b / 16) := by omega
    have e2 : (252645135 : Nat) = 15 + 256 * 986895 := rfl
    have e3 : (lo2 a + lo2 a / 16 + 16 * (hi2 b % 16)) &&& 15 = (lo2 a + lo2 a / 16) &&& 15 := by
      rw [show (15 : Nat) = 2 ^ 4 - 1 from rfl, Nat.and_two_pow_sub_one_eq_mod, Nat.and_two_pow_sub_one_eq_mod]
      omega
    rw [e, e2, and_split (by omega) (by omega), e3]
    rfl
  have hB3 : B3n (a + 256 * b) = lo3 a + 256 * hi3 b := by
    show ((((a + 256 * b - ((a + 256 * b) / 2 &&& 1431655765)) &&& 858993459) + ((a + 256 * b - ((a + 256 * b) / 2 &&& 1431655765)) / 4 &&& 858993459)) + (((a + 256 * b - ((a + 256 * b) / 2 &&& 1431655765)) &&& 858993459) + ((a + 256 * b - ((a + 256 * b) / 2 &&& 1431655765)) / 4 &&& 858993459)) / 16) &&& 252645135 = _
    rw [s1, s2, s3]
  have hsa : sz a ≤ 12 := pcN_le a 12
  have hsb : sz b ≤ 12 := pcN_le b 12
  have hl : lo3 a ≤ 15 := Nat.and_le_right
  show ((B3n (a + 256 * b) + B3n (a + 256 * b) / 256) + (B3n (a + 256 * b) + B3n (a + 256 * b) / 256) / 65536) &&& 63 = _
  rw [hB3, show (63 : Nat) = 2 ^ 6 - 1 from rfl, Nat.and_two_pow_sub_one_eq_mod, ← l1, ← k1]
  have hl' : lo3 a ≤ 15 := hl
  clear hsa hsb s1 s2 s3 hB3 c2 c4 l1 l2 l3 l4 k1 k2 k5
  generalize lo3 a = L at hl' ⊢
  generalize hi3 b = H at k3 k4 ⊢
  clear ha hb hl
  have f1 : (L + 256 * H) / 256 = H := by omega
  rw [f1]
  have f2 : (L + 256 * H + H) / 65536 = H / 256 := by omega
  rw [f2]
  omega
theorem nI_subN {a b : Nat} (h : b ≤ a) : nI a - nI b = nI (a - b) := by
  have e : nI a = nI (a - b) + nI b := by rw [nI_add]; congr 1; omega
  rw [e, Int32.add_sub_cancel]
theorem ush_nat {t k : Nat} (ht : t < 4294967296) (hk : k < 32) : ush (nI t) (nI k) = nI (t / 2 ^ k) := by
  have h2 : t / 2 ^ k < 4294967296 := Nat.lt_of_le_of_lt (Nat.div_le_self _ _) ht
  apply b_ext
  intro i hi
  unfold ush
  rw [b_ushr k hk, bt_nI ht, bt_nI h2, Nat.testBit_div_two_pow]
  congr 1
  omega
theorem f_bc_nat {t : Nat} (ht : t < 1048576) : f_bc (nI t) = nI (Bn t) := by
  have a1 : t / 2 &&& 1431655765 ≤ t := by
    have : t / 2 &&& 1431655765 ≤ t / 2 := Nat.and_le_left
    omega
  have e1 : f_bc1 (nI t) = nI (t - (t / 2 &&& 1431655765)) := by
    unfold f_bc1
    rw [show (1 : Int32) = nI 1 from rfl, show (1431655765 : Int32) = nI 1431655765 from rfl, ush_nat (by omega) (by omega), nI_and (by omega) (by omega), nI_subN (by rw [show (2 : Nat) ^ 1 = 2 from rfl]; exact a1)]
  have b1 : t - (t / 2 &&& 1431655765) < 1048576 := by omega
  have e2 : ∀ x, x < 1048576 → f_bc2 (nI x) = nI ((x &&& 858993459) + (x / 4 &&& 858993459)) := by
    intro x hx
    unfold f_bc2
    rw [show (2 : Int32) = nI 2 from rfl, show (858993459 : Int32) = nI 858993459 from rfl, ush_nat (by omega) (by omega), nI_and (by omega) (by omega), nI_and (by omega) (by omega), nI_add]
  have e3 : ∀ x, x < 4194304 → f_bc3 (nI x) = nI ((x + x / 16) &&& 252645135) := by
    intro x hx
    unfold f_bc3
    rw [show (4 : Int32) = nI 4 from rfl, show (252645135 : Int32) = nI 252645135 from rfl, ush_nat (by omega) (by omega), nI_add, nI_and (by omega) (by omega)]
  have e4 : ∀ x, x < 268435456 → f_bc4 (nI x) = nI (x + x / 256) := by
    intro x hx
    unfold f_bc4
    rw [show (8 : Int32) = nI 8 from rfl, ush_nat (by omega) (by omega), nI_add]
  have e5 : ∀ x, x < 536870912 → f_bc5 (nI x) = nI ((x + x / 65536) &&& 63) := by
    intro x hx
    unfold f_bc5
    rw [show (16 : Int32) = nI 16 from rfl, show (63 : Int32) = nI 63 from rfl, ush_nat (by omega) (by omega), nI_add, nI_and (by omega) (by omega)]
  have q1 : ∀ x, x &&& 858993459 ≤ x := fun x => Nat.and_le_left
  have q2 : ∀ x, x &&& 252645135 ≤ 252645135 := fun x => Nat.and_le_right
  unfold f_bc
  rw [e1, e2 _ b1]
  have g1 := q1 (t - (t / 2 &&& 1431655765))
  have g2 := q1 ((t - (t / 2 &&& 1431655765)) / 4)
  rw [e3 _ (by omega)]
  have g3 := q2 ((((t - (t / 2 &&& 1431655765)) &&& 858993459) + ((t - (t / 2 &&& 1431655765)) / 4 &&& 858993459)) + (((t - (t / 2 &&& 1431655765)) &&& 858993459) + ((t - (t / 2 &&& 1431655765)) / 4 &&& 858993459)) / 16)
  rw [e4 _ (by omega), e5 _ (by omega)]
  rfl
theorem bc_ins {s s' : Int32} {w : Nat} (hw : w < 20) (h20 : ∀ i, 20 ≤ i → i < 32 → bt s i = false) (h : bt s w = false) (h' : ∀ i, i < 32 → bt s' i = (bt s i || decide (i = w))) : f_bc s' = f_bc s + 1 := by
  have asn : ∀ x : Int32, x = nI x.toBitVec.toNat := fun x => by
    apply b_ext
    intro i hi
    rw [bt_nI (by have := x.toBitVec.isLt; omega)]
    rfl
  have lt20 : ∀ x : Int32, (∀ i, 20 ≤ i → i < 32 → bt x i = false) → x.toBitVec.toNat < 1048576 := by
    intro x hx
    have h32 := x.toBitVec.isLt
    rcases Nat.lt_or_ge x.toBitVec.toNat (2 ^ 20) with q | q
    · exact q
    · obtain ⟨i, hi, hb⟩ := Nat.exists_ge_and_testBit_of_ge_two_pow q
      have hi32 : i < 32 := by
        rcases Nat.lt_or_ge i 32 with r | r
        · exact r
        · have : x.toBitVec.toNat < 2 ^ i := Nat.lt_of_lt_of_le h32 (Nat.pow_le_pow_right (by omega) r)
          rw [Nat.testBit_lt_two_pow this] at hb
          cases hb
      have := hx i hi hi32
      unfold bt at this
      rw [← BitVec.testBit_toNat] at this
      rw [this] at hb
      cases hb
  have l1 := lt20 s h20
  have l2 := lt20 s' (fun i a b => by rw [h' i b, h20 i a b]; simp; omega)
  have tb : ∀ i, i < 32 → s'.toBitVec.toNat.testBit i = (s.toBitVec.toNat.testBit i || decide (i = w)) := fun i hi => by
    rw [BitVec.testBit_toNat, BitVec.testBit_toNat]
    exact h' i hi
  have tw : s.toBitVec.toNat.testBit w = false := by rw [BitVec.testBit_toNat]; exact h
  rw [asn s, asn s', f_bc_nat l1, f_bc_nat l2]
  generalize s.toBitVec.toNat = t at l1 tb tw ⊢
  generalize s'.toBitVec.toNat = t' at l2 tb ⊢
  have m8 : ∀ x i : Nat, (x % 256).testBit i = (decide (i < 8) && x.testBit i) := fun x i => by rw [show (256 : Nat) = 2 ^ 8 from rfl, Nat.testBit_mod_two_pow]
  have d8 : ∀ x i : Nat, (x / 256).testBit i = x.testBit (8 + i) := fun x i => by rw [show (256 : Nat) = 2 ^ 8 from rfl, Nat.testBit_div_two_pow, Nat.add_comm]
  rw [show t = t % 256 + 256 * (t / 256) by omega, show t' = t' % 256 + 256 * (t' / 256) by omega, Bn_split (by omega) (by omega), Bn_split (by omega) (by omega), nI_1]
  congr 1
  by_cases q : w < 8
  · have e1 : sz (t' % 256) = sz (t % 256) + 1 := pcN_ins 12 (d := w) (by omega) (by rw [m8, tw]; simp) (fun i hi => by
      rw [m8, m8, tb i (by omega)]
      by_cases r : i < 8
      · simp [r]
      · have : i ≠ w := by omega
        simp [r, this])
    have e2 : sz (t' / 256) = sz (t / 256) := pcN_congr 12 (fun i hi => by
      rw [d8, d8, tb (8 + i) (by omega)]
      have : 8 + i ≠ w := by omega
      simp [this])
    omega
  · have e1 : sz (t' % 256) = sz (t % 256) := pcN_congr 12 (fun i hi => by
      rw [m8, m8, tb i (by omega)]
      by_cases r : i < 8
      · have : i ≠ w := by omega
        simp [r, this]
      · simp [r])
    have e2 : sz (t' / 256) = sz (t / 256) + 1 := pcN_ins 12 (d := w - 8) (by omega) (by rw [d8, show 8 + (w - 8) = w by omega]; exact tw) (fun i hi => by
      rw [d8, d8, tb (8 + i) (by omega)]
      by_cases r : i = w - 8
      · have : 8 + i = w := by omega
        rw [decide_eq_true this, decide_eq_true r]
      · have : 8 + i ≠ w := by omega
        simp [r, this])
    omega
