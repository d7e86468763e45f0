theorem nI_lt0 {n : Nat} (h : n < 2147483648) : (nI n < 0) = False := eq_false (nI_pos h)
theorem nI_ge0 {n : Nat} (h : n < 2147483648) : (0 ≤ nI n) = True := eq_true (nI_pos' h)
theorem lit_nI (k : Nat) : (OfNat.ofNat k : Int32) = nI k := rfl
theorem lit_nle {k n : Nat} (h : n < k) (hk : k < 2147483648) : ((OfNat.ofNat k : Int32) ≤ nI n) = False := eq_false (nI_ge h hk)
theorem lit_le {k n : Nat} (h : k ≤ n) (hn : n < 2147483648) : ((OfNat.ofNat k : Int32) ≤ nI n) = True := eq_true (nI_le h hn)
theorem lit_lt {k n : Nat} (h : k < n) (hn : n < 2147483648) : ((OfNat.ofNat k : Int32) < nI n) = True := eq_true (nI_lt h hn)
theorem lit_nlt {k n : Nat} (h : n ≤ k) (hk : k < 2147483648) : ((OfNat.ofNat k : Int32) < nI n) = False := eq_false (nI_nlt h hk)
theorem nI_muladd (a b k : Nat) : nI a * (OfNat.ofNat k : Int32) + nI b = nI (a * k + b) := by
  rw [lit_nI, pk_mul, nI_add]
theorem nI_litadd (a k : Nat) : nI a + (OfNat.ofNat k : Int32) = nI (a + k) := by rw [lit_nI, nI_add]
theorem nI_litmul (a k : Nat) : (OfNat.ofNat k : Int32) * nI a = nI (k * a) := by rw [lit_nI, pk_mul]
theorem aup_eq (m : AM) (r : Nat) (g : Nat → Int32) : aup m r g r = g := by simp [aup]
theorem aup_ne {m : AM} {r a : Nat} {g : Nat → Int32} (h : a ≠ r) : aup m r g a = m a := by simp [aup, h]
theorem upd_eq (f : Nat → Int32) (k : Nat) (x : Int32) : upd f k x k = x := by simp [upd]
theorem upd_ne {f : Nat → Int32} {k j : Nat} {x : Int32} (h : j ≠ k) : upd f k x j = f j := by simp [upd, h]
theorem nI_inj {a b : Nat} (ha : a < 2147483648) (hb : b < 2147483648) : (nI a = nI b) = (a = b) := propext (nI_eq ha hb)
theorem nI_of_range {x : Int32} {n : Nat} (h0 : ¬ x < 0) (h1 : ¬ nI n ≤ x) (hn : n < 2147483648) : ∃ j, j < n ∧ x = nI j := by
  rcases pk_ix x hn with h | h | h
  · exact absurd h h0
  · exact absurd h h1
  · exact h
def bt (x : Int32) (i : Nat) : Bool := x.toBitVec.getLsbD i
theorem b_ext {x y : Int32} (h : ∀ i, i < 32 → bt x i = bt y i) : x = y := Int32.toBitVec_inj.mp (BitVec.eq_of_getLsbD_eq (fun i hi => h i hi))
theorem b_or (x y : Int32) (i : Nat) : bt (x ||| y) i = (bt x i || bt y i) := by unfold bt; rw [Int32.toBitVec_or, BitVec.getLsbD_or]
theorem b_and (x y : Int32) (i : Nat) : bt (x &&& y) i = (bt x i && bt y i) := by unfold bt; rw [Int32.toBitVec_and, BitVec.getLsbD_and]
theorem b_xor (x y : Int32) (i : Nat) : bt (x ^^^ y) i = (bt x i ^^ bt y i) := by unfold bt; rw [Int32.toBitVec_xor, BitVec.getLsbD_xor]
theorem b_big {x : Int32} {i : Nat} (h : 32 ≤ i) : bt x i = false := BitVec.getLsbD_of_ge _ _ h
theorem b_255 (i : Nat) : bt 255 i = decide (i < 8) := by
  rcases Nat.lt_or_ge i 32 with h | h
  · exact (by decide +kernel : ∀ i, i < 32 → bt 255 i = decide (i < 8)) i h
  · rw [b_big h, decide_eq_false (by omega)]
theorem b_65535 (i : Nat) : bt 65535 i = decide (i < 16) := by
  rcases Nat.lt_or_ge i 32 with h | h
  · exact (by decide +kernel : ∀ i, i < 32 → bt 65535 i = decide (i < 16)) i h
  · rw [b_big h, decide_eq_false (by omega)]
theorem b_m1 : ∀ i, i < 32 → bt (-1) i = true := by decide +kernel
theorem b_0 (i : Nat) : bt 0 i = false := BitVec.getLsbD_zero
theorem s_l : ∀ n, n < 32 → ((nI n &&& 31).toBitVec.smod 32).toNat = n := by decide +kernel
theorem s_u : ∀ n, n < 32 → (((nI n).toUInt32 &&& Int32.toUInt32 31).toBitVec % 32).toNat = n := by decide +kernel
theorem b_shl (n : Nat) (hn : n < 32) (x : Int32) {i : Nat} (hi : i < 32) : bt (x <<< (nI n &&& 31)) i = (decide (n ≤ i) && bt x (i - n)) := by
  unfold bt
  rw [Int32.toBitVec_shiftLeft]
  show (x.toBitVec <<< ((nI n &&& 31).toBitVec.smod 32).toNat).getLsbD i = _
  rw [s_l n hn, BitVec.getLsbD_shiftLeft]
  rcases Nat.lt_or_ge i n with h | h
  · simp [h, Nat.not_le.mpr h]
  · simp [hi, h, Nat.not_lt.mpr h]
theorem b_ushr (n : Nat) (hn : n < 32) (x : Int32) (i : Nat) : bt ((x.toUInt32 >>> ((nI n).toUInt32 &&& Int32.toUInt32 31)).toInt32) i = bt x (n + i) := by
  show (x.toUInt32 >>> ((nI n).toUInt32 &&& Int32.toUInt32 31)).toBitVec.getLsbD i = x.toUInt32.toBitVec.getLsbD (n + i)
  rw [UInt32.toBitVec_shiftRight]
  show (x.toUInt32.toBitVec >>> (((nI n).toUInt32 &&& Int32.toUInt32 31).toBitVec % 32).toNat).getLsbD i = _
  rw [s_u n hn, BitVec.getLsbD_ushiftRight]
theorem b_sshr (n : Nat) (hn : n < 32) (x : Int32) {i : Nat} (hi : i < 32) : bt (x >>> (nI n &&& 31)) i = if n + i < 32 then bt x (n + i) else bt x 31 := by
  unfold bt
  rw [Int32.toBitVec_shiftRight]
  show (x.toBitVec.sshiftRight ((nI n &&& 31).toBitVec.smod 32).toNat).getLsbD i = _
  rw [s_l n hn, BitVec.getLsbD_sshiftRight, BitVec.msb_eq_getLsbD_last]
  simp [hi]
def b01 (b : Bool) : Int32 := match b with
  | true => 1
  | false => 0
theorem b01_0 (b : Bool) : (b01 b = 0) = (b = false) := by cases b <;> simp [b01]
theorem b01_1 (b : Bool) : (b01 b = 1) = (b = true) := by cases b <;> simp [b01]
theorem b01_01 (b : Bool) : b01 b = 0 ∨ b01 b = 1 := by cases b <;> simp [b01]
theorem b01_t : b01 true = 1 := rfl
theorem b01_f : b01 false = 0 := rfl
theorem b_1 : ∀ i, i < 32 → bt 1 i = decide (i = 0) := by decide +kernel
theorem and1_0 (x : Int32) : (x &&& 1 = 0) ↔ bt x 0 = false := by
  constructor
  · intro h
    have h2 := b_and x 1 0
    rw [h, b_0, b_1 0 (by omega)] at h2
    simpa using h2.symm
  · intro h
    apply b_ext
    intro i hi
    rw [b_and, b_1 i hi, b_0]
    by_cases h0 : i = 0
    · subst h0; simp [h]
    · simp [h0]
def f_holds (s i : Int32) : Int32 := if (s >>> (i &&& 31)) &&& 1 = 0 then 0 else 1
theorem holds_bt (s : Int32) {i : Nat} (h : i < 32) : f_holds s (nI i) = b01 (bt s i) := by
  unfold f_holds
  have h2 : bt (s >>> (nI i &&& 31)) 0 = bt s i := by rw [b_sshr i h s (by omega)]; simp [h]
  by_cases hb : bt s i = true
  · have h3 : ¬ ((s >>> (nI i &&& 31)) &&& 1 = 0) := by rw [and1_0, h2, hb]; simp
    rw [if_neg h3, hb]; rfl
  · have h3 : ((s >>> (nI i &&& 31)) &&& 1 = 0) := by rw [and1_0, h2]; simpa using hb
    rw [if_pos h3]
    have : bt s i = false := by simpa using hb
    rw [this]; rfl
theorem bt_shl1 {n i : Nat} (hn : n < 32) (hi : i < 32) : bt ((1 : Int32) <<< (nI n &&& 31)) i = decide (i = n) := by
  rw [b_shl n hn 1 hi]
  by_cases h : n ≤ i
  · rw [b_1 (i - n) (by omega)]
    by_cases h2 : i = n
    · subst h2; simp
    · have h3 : ¬ i - n = 0 := by omega
      simp [h2, h3]
  · have h2 : ¬ i = n := by omega
    simp [h, h2]
theorem bt_not (x : Int32) {i : Nat} (hi : i < 32) : bt (x ^^^ (-1)) i = !bt x i := by rw [b_xor, b_m1 i hi]; simp
