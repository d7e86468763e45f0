/-! ===== the law: its loop, its start (written by gen61.py) ===== -/
theorem and31 (x : Int32) : ∃ t : Nat, t < 32 ∧ x &&& 31 = nI t := by
  refine ⟨(x &&& 31).toBitVec.toNat, ?_, ?_⟩
  · rw [Int32.toBitVec_and, BitVec.toNat_and]
    exact Nat.lt_of_le_of_lt Nat.and_le_right (by decide)
  · apply b_ext
    intro i hi
    rw [bt_nI (by have := (x &&& 31).toBitVec.isLt; omega)]
    rfl
set_option maxRecDepth 100000 in
set_option maxHeartbeats 4000000 in
theorem law_loop {p : Program} {l : Launch} {e : Env} {s : State} {m : MethodId} {below : List Frame} {meth : Method} {c : Code} {G : aG} {b L : Nat} {xs : Nat → Int32} {cells slots : Nat} {Q : State → Prop} (hL : L ≤ 3072) (C0 : lw_At p s m meth c b L xs) (hK : va_K G.2.1 vwCl (atys G.2.2) s) (hc : cells ≤ 600000) (hs : slots ≤ 7302250) (hend : ∀ (H : Heap) (locs : List Loc) (ls : Array Slot), va_S (fun q : Nat => s.heap.size ≤ q) s.heap H locs → W p l e room_1 s m #[Value.ref b] below meth c H locs cells slots Q (F0 m 848 ls [])) :
    ∀ (n i : Nat) (mm : AM) (H : Heap) (locs : List Loc) (ls : Array Slot), i ≤ L → L < i + 6 + 6 * n → INV mm → va_P G.2.1 vwCl (wd G.1 G.2.2 mm) H → va_D (fun q : Nat => s.heap.size ≤ q) (wd G.1 G.2.2 mm) → va_S (fun q : Nat => s.heap.size ≤ q) s.heap H locs → lv_has ls 4 [(0, .ref b), (1, .ref (G.1 0)), (2, .ref (G.1 34)), (3, .int (nI i))] → W p l e room_1 s m #[Value.ref b] below meth c H locs cells slots Q (F0 m 18 ls []) := by
  obtain ⟨hx, hb, hr, hml, hown, hts, hX, hbl, hlocks, hgv⟩ := id C0
  have t6 : (6 : Int32).toInt = 6 := rfl
  have tL : (nI L).toInt = L := nI_toInt (by omega)
  have tsub : (nI L - 6).toInt = (L : Int) - 6 := by rw [i32_sub (by rw [tL, t6]; omega) (by rw [tL, t6]; omega), tL, t6]
  intro n
  induction n with
  | zero =>
    intro i mm H locs ls hi hn hI hP hD hS hl
    refine lv_iload_n hx hb dL_18 rfl (lv_at hl 3 rfl) ?_
    refine lv_aload_n hx hb dL_19 rfl (lv_at hl 0 rfl) ?_
    refine va_slen hx hb hX hbl (A := fun q : Nat => s.heap.size ≤ q) (Nat.not_le.mpr hbl) hS dL_20 ?_
    refine lv_bipush (v := 6) hx hb dL_21 (by decide) ?_
    refine lv_isub hx hb dL_23 ?_
    refine lv_icmp_gt (tgt := 848) hx hb dL_24 (by decide) (fun _ => hend H locs ls hS) (fun q => ?_)
    exfalso
    apply q
    have tL' : (Int32.ofNat L - 6).toInt = (L : Int) - 6 := tsub
    rw [Int32.lt_iff_toInt_lt, tL', nI_toInt (by omega)]
    omega
  | succ n ih =>
    intro i mm H locs ls hi hn hI hP hD hS hl
    refine lv_iload_n hx hb dL_18 rfl (lv_at hl 3 rfl) ?_
    refine lv_aload_n hx hb dL_19 rfl (lv_at hl 0 rfl) ?_
    refine va_slen hx hb hX hbl (A := fun q : Nat => s.heap.size ≤ q) (Nat.not_le.mpr hbl) hS dL_20 ?_
    refine lv_bipush (v := 6) hx hb dL_21 (by decide) ?_
    refine lv_isub hx hb dL_23 ?_
    refine lv_icmp_gt (tgt := 848) hx hb dL_24 (by decide) (fun _ => hend H locs ls hS) (fun q => ?_)
    have hi6 : i + 6 ≤ L := by
      have tL' : (Int32.ofNat L - 6).toInt = (L : Int) - 6 := tsub
      rw [Int32.lt_iff_toInt_lt, tL', nI_toInt (by omega)] at q
      omega
    refine lv_aload_n hx hb dL_27 rfl (lv_at hl 0 rfl) ?_
    refine lv_iload_n hx hb dL_28 rfl (lv_at hl 3 rfl) ?_
    refine va_sld hx hb hX hbl (A := fun q : Nat => s.heap.size ≤ q) (Nat.not_le.mpr hbl) hS (vp_in_nI (show i < L by omega) (by omega)) dL_29 ?_
    refine lv_bipush (v := 31) hx hb dL_30 (by decide) ?_
    refine lv_iand hx hb dL_32 ?_
    obtain ⟨t, ht, et⟩ := and31 (xs (nI i).toNatClampNeg)
    rw [et]
    have next : ∀ (mm' : AM) (H : Heap) (locs : List Loc), INV mm' → va_P G.2.1 vwCl (wd G.1 G.2.2 mm') H → va_D (fun q : Nat => s.heap.size ≤ q) (wd G.1 G.2.2 mm') → va_S (fun q : Nat => s.heap.size ≤ q) s.heap H locs → W p l e room_1 s m #[Value.ref b] below meth c H locs cells slots Q (F0 m 842 ls []) := by
      intro mm' H locs hI hP hD hS
      refine lv_iinc (v := nI (i + 6)) (lv' := [(3, .int (nI (i + 6))), (0, .ref b), (1, .ref (G.1 0)), (2, .ref (G.1 34))]) hx hb dL_842 hl (k := 3) rfl (by rw [← nI_add]; rfl) (by decide) rfl (fun ls hl => ?_)
      refine lv_goto (tgt := 18) hx hb dL_845 (by decide) ?_
      exact ih (i + 6) mm' H locs ls hi6 (by omega) hI hP hD hS (lv_sub hl [1, 2, 3, 0] rfl)
    have cs : t = 0 ∨ t = 1 ∨ t = 2 ∨ t = 3 ∨ t = 4 ∨ t = 5 ∨ t = 6 ∨ t = 7 ∨ t = 8 ∨ t = 9 ∨ t = 10 ∨ t = 11 ∨ t = 12 ∨ t = 13 ∨ t = 14 ∨ t = 15 ∨ t = 16 ∨ t = 17 ∨ t = 18 ∨ t = 19 ∨ t = 20 ∨ t = 21 ∨ 22 ≤ t := by omega
    rcases cs with rfl | rfl | rfl | rfl | rfl | rfl | rfl | rfl | rfl | rfl | rfl | rfl | rfl | rfl | rfl | rfl | rfl | rfl | rfl | rfl | rfl | rfl | ht2
    · refine lv_tableIn (tgt := 136) hx hb dL_33 (by decide) (by decide) (off := 103) (by decide +kernel) (by decide) ?_
      exact lc_0 hL C0 hK hc hs hi6 hI hP hD hS hl next
    · refine lv_tableIn (tgt := 169) hx hb dL_33 (by decide) (by decide) (off := 136) (by decide +kernel) (by decide) ?_
      exact lc_1 hL C0 hK hc hs hi6 hI hP hD hS hl next
    · refine lv_tableIn (tgt := 212) hx hb dL_33 (by decide) (by decide) (off := 179) (by decide +kernel) (by decide) ?_
      exact lc_2 hL C0 hK hc hs hi6 hI hP hD hS hl next
    · refine lv_tableIn (tgt := 245) hx hb dL_33 (by decide) (by decide) (off := 212) (by decide +kernel) (by decide) ?_
      exact lc_3 hL C0 hK hc hs hi6 hI hP hD hS hl next
    · refine lv_tableIn (tgt := 278) hx hb dL_33 (by decide) (by decide) (off := 245) (by decide +kernel) (by decide) ?_
      exact lc_4 hL C0 hK hc hs hi6 hI hP hD hS hl next
    · refine lv_tableIn (tgt := 301) hx hb dL_33 (by decide) (by decide) (off := 268) (by decide +kernel) (by decide) ?_
      exact lc_5 hL C0 hK hc hs hi6 hI hP hD hS hl next
    · refine lv_tableIn (tgt := 344) hx hb dL_33 (by decide) (by decide) (off := 311) (by decide +kernel) (by decide) ?_
      exact lc_6 hL C0 hK hc hs hi6 hI hP hD hS hl next
    · refine lv_tableIn (tgt := 387) hx hb dL_33 (by decide) (by decide) (off := 354) (by decide +kernel) (by decide) ?_
      exact lc_7 hL C0 hK hc hs hi6 hI hP hD hS hl next
    · refine lv_tableIn (tgt := 410) hx hb dL_33 (by decide) (by decide) (off := 377) (by decide +kernel) (by decide) ?_
      exact lc_8 hL C0 hK hc hs hi6 hI hP hD hS hl next
    · refine lv_tableIn (tgt := 423) hx hb dL_33 (by decide) (by decide) (off := 390) (by decide +kernel) (by decide) ?_
      exact lc_9 hL C0 hK hc hs hi6 hI hP hD hS hl next
    · refine lv_tableIn (tgt := 446) hx hb dL_33 (by decide) (by decide) (off := 413) (by decide +kernel) (by decide) ?_
      exact lc_10 hL C0 hK hc hs hi6 hI hP hD hS hl next
    · refine lv_tableIn (tgt := 479) hx hb dL_33 (by decide) (by decide) (off := 446) (by decide +kernel) (by decide) ?_
      exact lc_11 hL C0 hK hc hs hi6 hI hP hD hS hl next
    · refine lv_tableIn (tgt := 492) hx hb dL_33 (by decide) (by decide) (off := 459) (by decide +kernel) (by decide) ?_
      exact lc_12 hL C0 hK hc hs hi6 hI hP hD hS hl next
    · refine lv_tableIn (tgt := 525) hx hb dL_33 (by decide) (by decide) (off := 492) (by decide +kernel) (by decide) ?_
      exact lc_13 hL C0 hK hc hs hi6 hI hP hD hS hl next
    · refine lv_tableIn (tgt := 588) hx hb dL_33 (by decide) (by decide) (off := 555) (by decide +kernel) (by decide) ?_
      exact lc_14 hL C0 hK hc hs hi6 hI hP hD hS hl next
    · refine lv_tableIn (tgt := 621) hx hb dL_33 (by decide) (by decide) (off := 588) (by decide +kernel) (by decide) ?_
      exact lc_15 hL C0 hK hc hs hi6 hI hP hD hS hl next
    · refine lv_tableIn (tgt := 654) hx hb dL_33 (by decide) (by decide) (off := 621) (by decide +kernel) (by decide) ?_
      exact lc_16 hL C0 hK hc hs hi6 hI hP hD hS hl next
    · refine lv_tableIn (tgt := 697) hx hb dL_33 (by decide) (by decide) (off := 664) (by decide +kernel) (by decide) ?_
      exact lc_17 hL C0 hK hc hs hi6 hI hP hD hS hl next
    · refine lv_tableIn (tgt := 730) hx hb dL_33 (by decide) (by decide) (off := 697) (by decide +kernel) (by decide) ?_
      exact lc_18 hL C0 hK hc hs hi6 hI hP hD hS hl next
    · refine lv_tableIn (tgt := 763) hx hb dL_33 (by decide) (by decide) (off := 730) (by decide +kernel) (by decide) ?_
      exact lc_19 hL C0 hK hc hs hi6 hI hP hD hS hl next
    · refine lv_tableIn (tgt := 786) hx hb dL_33 (by decide) (by decide) (off := 753) (by decide +kernel) (by decide) ?_
      exact lc_20 hL C0 hK hc hs hi6 hI hP hD hS hl next
    · refine lv_tableIn (tgt := 819) hx hb dL_33 (by decide) (by decide) (off := 786) (by decide +kernel) (by decide) ?_
      exact lc_21 hL C0 hK hc hs hi6 hI hP hD hS hl next
    · refine lv_tableOut (tgt := 842) hx hb dL_33 (Or.inr (by rw [nI_toInt (by omega)]; omega)) (by decide) ?_
      exact next mm H locs hI hP hD hS
set_option maxRecDepth 100000 in
set_option maxHeartbeats 4000000 in
theorem whole_start {p : Program} {e : Env} {s : State} {m : MethodId} {below : List Frame} {meth : Method} {c : Code} (l : Launch) {b L : Nat} {xs : Nat → Int32} (hL : L ≤ 3072) (C0 : lw_At p s m meth c b L xs) : W p l e room_1 s m #[Value.ref b] below meth c s.heap [] 0 0 (lw_Z below #[Value.ref b] s) (entryFrame m ([Value.ref b] : List Value).toArray 4) := by
  obtain ⟨hx, hb, hr, hml, hownL, htsL, hX, hbl, hlocks, hgv⟩ := id C0
  obtain ⟨-, -, -, hown, hts, hN⟩ := law_ok C0
  have hA : ∀ q : Nat, s.heap.size ≤ q → (fun q : Nat => s.heap.size ≤ q) q := fun _ h => h
  obtain ⟨c0, s0, k0⟩ := u_known (C := RX0) (T := TX0) (N := 1) (n := 1) hts (aLay_ok (RX0, TX0, 1) (by simp [vwCl])) (hts _ (cwk (n := 48) rfl))
  obtain ⟨c1, s1, k1⟩ := u_known (C := RX1) (T := TX1) (N := 4) (n := 4) hts (aLay_ok (RX1, TX1, 4) (by simp [vwCl])) (hts _ (cwk (n := 58) rfl))
  obtain ⟨c2, s2, k2⟩ := u_known (C := RX2) (T := TX2) (N := 3) (n := 3) hts (aLay_ok (RX2, TX2, 3) (by simp [vwCl])) (hts _ (cwk (n := 39) rfl))
  obtain ⟨c3, s3, k3⟩ := u_known (C := RX3) (T := TX3) (N := 11) (n := 11) hts (aLay_ok (RX3, TX3, 11) (by simp [vwCl])) (hts _ (cwk (n := 53) rfl))
  obtain ⟨c4, s4, k4⟩ := u_known (C := RX4) (T := TX4) (N := 8) (n := 8) hts (aLay_ok (RX4, TX4, 8) (by simp [vwCl])) (hts _ (cwk (n := 64) rfl))
  obtain ⟨c5, s5, k5⟩ := u_known (C := RX5) (T := TX5) (N := 13) (n := 13) hts (aLay_ok (RX5, TX5, 13) (by simp [vwCl])) (hts _ (cwk (n := 101) rfl))
  obtain ⟨c6, s6, k6⟩ := u_known (C := RX6) (T := TX6) (N := 34) (n := 34) hts (aLay_ok (RX6, TX6, 34) (by simp [vwCl])) (hts _ (cwk (n := 106) rfl))
  obtain ⟨a0, r0⟩ := ra_ex (ty := .int) (Or.inl rfl) (hts _ (cwk (n := 0) rfl))
  obtain ⟨a1, r1⟩ := ra_ex (ty := .byte) (Or.inr (Or.inl rfl)) (hts _ (cwk (n := 1) rfl))
  obtain ⟨a2, r2⟩ := ra_ex (ty := .boolean) (Or.inr (Or.inr rfl)) (hts _ (cwk (n := 2) rfl))
  obtain ⟨D, hKc⟩ : ∃ D : va_G, ∀ (k : Nat) (q : vw_C), vwCl[k]? = some q → u_Kn s q.1 q.2.1 q.2.2 (D.1 k) (D.2 k) := by
    refine ⟨(fun k => match k with
      | 0 => c0
      | 1 => c1
      | 2 => c2
      | 3 => c3
      | 4 => c4
      | 5 => c5
      | _ => c6, fun k => match k with
      | 0 => s0
      | 1 => s1
      | 2 => s2
      | 3 => s3
      | 4 => s4
      | 5 => s5
      | _ => s6), ?_⟩
    intro k q hq
    match k, hq with
    | 0, hq => cases hq; exact k0
    | 1, hq => cases hq; exact k1
    | 2, hq => cases hq; exact k2
    | 3, hq => cases hq; exact k3
    | 4, hq => cases hq; exact k4
    | 5, hq => cases hq; exact k5
    | 6, hq => cases hq; exact k6
    | k + 7, hq => simp [vwCl] at hq
  obtain ⟨cA, hKa⟩ : ∃ cA : Nat → ClassId, ∀ (k : Nat) (q : ClassId × FieldType), (atys cA)[k]? = some q → ArrOfT s q.1 q.2 ∧ va_RA s q.1 q.2 := by
    refine ⟨fun k => match k with
      | 0 => a0
      | 1 => a1
      | _ => a2, ?_⟩
    intro k q hq
    match k, hq with
    | 0, hq => cases hq; exact r0
    | 1, hq => cases hq; exact r1
    | 2, hq => cases hq; exact r2
    | k + 3, hq => simp [atys] at hq
  have hK : va_K D vwCl (atys cA) s := ⟨hKc, hKa⟩
  have hS : va_S (fun q : Nat => s.heap.size ≤ q) s.heap s.heap [] := va_S.rf
  have hP : va_P D vwCl [] s.heap := fun k q h => by simp at h
  have hD : va_D (fun q : Nat => s.heap.size ≤ q) [] := ⟨fun i j p q h => by simp at h, fun k q h => by simp at h⟩
  have hl := lv_entry ([.ref b]) (n := 4) (Nat.le_of_ble_eq_true rfl)
  rw [lg_entry_eq]
  generalize (lg_sl ([.ref b]) ++ List.replicate (4 - (lg_sl ([.ref b])).length) Slot.unset).toArray = ls at hl ⊢
  have hl : lv_has ls 4 [(0, .ref b)] := hl
  refine k_new (ci := 5) (fs := [.null, .null, .null, .null, .null, .null, .null, .null, .null, .null, .null, .int 0, .int 0]) hx hb hts hown hK hP hD hS hA rfl tyX5 tyX5_ok (fun j hj => by rcases (show j = 0 ∨ j = 1 ∨ j = 2 ∨ j = 3 ∨ j = 4 ∨ j = 5 ∨ j = 6 ∨ j = 7 ∨ j = 8 ∨ j = 9 ∨ j = 10 ∨ j = 11 ∨ j = 12 by omega) with rfl | rfl | rfl | rfl | rfl | rfl | rfl | rfl | rfl | rfl | rfl | rfl | rfl <;> rfl) (cwk (n := 100) rfl) (cwk (n := 101) rfl) (cwk (n := 102) rfl) (Nat.le_of_ble_eq_true rfl) (Nat.le_of_ble_eq_true rfl) dL_0 (fun h0 H hP hD hS => ?_)
  have hP : va_P D vwCl [(h0, .inr (5, [.null, .null, .null, .null, .null, .null, .null, .null, .null, .null, .null, .int 0, .int 0]))] H := hP
  have hD : va_D (fun q : Nat => s.heap.size ≤ q) [(h0, .inr (5, [.null, .null, .null, .null, .null, .null, .null, .null, .null, .null, .null, .int 0, .int 0]))] := hD
  refine W.widen (k := 1) (n := 13) (Nat.le_of_ble_eq_true rfl) (Nat.le_of_ble_eq_true rfl) ?_
  refine lv_dup hx hb dL_3 rfl ?_
  refine k_ini (n := 0) (own := RL) (nL := 4) (y := yX5_init) (bytes := cX5_init) (maxL := 1) (mc := 33) (ms := 644) (As := []) (b := h0) (rest := [.ref h0]) (wc := [(h0, .inr (5, [.null, .null, .null, .null, .null, .null, .null, .null, .null, .null, .null, .int 0, .int 0]))]) (wr := []) (S := Nat → Nat) hx hb hml hown hts hN hK hP hD hS hA (i_X5 l D cA h0 H.size) cc_X5_init (cwk (n := 102) rfl) (cwk (n := 104) rfl) rfl ⟨by decide +kernel, by decide +kernel, by show _ = some 0; decide +kernel⟩ (Or.inl (cwk (n := 103) rfl)) rfl rfl ⟨(Nat.le_of_ble_eq_true rfl), (Nat.le_of_ble_eq_true rfl)⟩ hl.1 (Nat.le_of_ble_eq_true rfl) dL_4 ⟨(Nat.le_of_ble_eq_true rfl), (Nat.le_of_ble_eq_true rfl)⟩ [0] [] rfl rfl (by decide) (by decide) (by decide) (fun u H locs _ hP hD hS => ?_)
  refine W.widen (k := 34) (n := 657) (Nat.le_of_ble_eq_true rfl) (Nat.le_of_ble_eq_true rfl) ?_
  refine lv_astore_n (lv' := [(1, .ref h0), (0, .ref b)]) hx hb dL_7 rfl hl (by decide) rfl (fun ls hl => ?_)
  refine k_new (ci := 6) (fs := [.null, .int 0, .int 0, .int 0, .int 0, .int 0, .int 0, .null, .null, .null, .null, .null, .null, .null, .null, .null, .null, .null, .null, .null, .null, .null, .null, .null, .null, .null, .null, .null, .null, .null, .int 0, .null, .int 0, .int 0]) hx hb hts hown hK hP hD hS hA rfl tyX6 tyX6_ok (fun j hj => by rcases (show j = 0 ∨ j = 1 ∨ j = 2 ∨ j = 3 ∨ j = 4 ∨ j = 5 ∨ j = 6 ∨ j = 7 ∨ j = 8 ∨ j = 9 ∨ j = 10 ∨ j = 11 ∨ j = 12 ∨ j = 13 ∨ j = 14 ∨ j = 15 ∨ j = 16 ∨ j = 17 ∨ j = 18 ∨ j = 19 ∨ j = 20 ∨ j = 21 ∨ j = 22 ∨ j = 23 ∨ j = 24 ∨ j = 25 ∨ j = 26 ∨ j = 27 ∨ j = 28 ∨ j = 29 ∨ j = 30 ∨ j = 31 ∨ j = 32 ∨ j = 33 by omega) with rfl | rfl | rfl | rfl | rfl | rfl | rfl | rfl | rfl | rfl | rfl | rfl | rfl | rfl | rfl | rfl | rfl | rfl | rfl | rfl | rfl | rfl | rfl | rfl | rfl | rfl | rfl | rfl | rfl | rfl | rfl | rfl | rfl | rfl <;> rfl) (cwk (n := 105) rfl) (cwk (n := 106) rfl) (cwk (n := 107) rfl) (Nat.le_of_ble_eq_true rfl) (Nat.le_of_ble_eq_true rfl) dL_8 (fun h1 H hP hD hS => ?_)
  refine W.widen (k := 35) (n := 691) (Nat.le_of_ble_eq_true rfl) (Nat.le_of_ble_eq_true rfl) ?_
  refine lv_dup hx hb dL_11 rfl ?_
  refine k_ini (n := 0) (own := RL) (nL := 4) (y := yX6_init) (bytes := cX6_init) (maxL := 2) (mc := 25) (ms := 5076) (As := []) (b := h1) (rest := [.ref h1]) (wc := [(h1, .inr (6, [.null, .int 0, .int 0, .int 0, .int 0, .int 0, .int 0, .null, .null, .null, .null, .null, .null, .null, .null, .null, .null, .null, .null, .null, .null, .null, .null, .null, .null, .null, .null, .null, .null, .null, .int 0, .null, .int 0, .int 0]))]) (wr := wX5 cA h0 u) (S := (Nat → Nat) × (Nat → Int32)) hx hb hml hown hts hN hK hP hD hS hA (i_X6 l D cA h1 H.size) cc_X6_init (cwk (n := 107) rfl) (cwk (n := 109) rfl) rfl ⟨by decide +kernel, by decide +kernel, by show _ = some 0; decide +kernel⟩ (Or.inl (cwk (n := 108) rfl)) rfl rfl ⟨(Nat.le_of_ble_eq_true rfl), (Nat.le_of_ble_eq_true rfl)⟩ hl.1 (Nat.le_of_ble_eq_true rfl) dL_12 ⟨(Nat.le_of_ble_eq_true rfl), (Nat.le_of_ble_eq_true rfl)⟩ [34] [0, 1, 2, 3, 4, 5, 6, 7, 8, 9, 10, 11, 12, 13, 14, 15, 16, 17, 18, 19, 20, 21, 22, 23, 24, 25, 26, 27, 28, 29, 30, 31, 32, 33] rfl rfl (by decide) (by decide) (by decide) (fun v H locs hf hP hD hS => ?_)
  obtain ⟨v, f⟩ := v
  rw [← wd0] at hP hD
  refine W.widen (k := 600000) (n := 7302250) (Nat.le_of_ble_eq_true rfl) (Nat.le_of_ble_eq_true rfl) ?_
  refine lv_astore_n (lv' := [(2, .ref h1), (1, .ref h0), (0, .ref b)]) hx hb dL_15 rfl hl (by decide) rfl (fun ls hl => ?_)
  refine lv_iconst (v := nI 0) hx hb dL_16 (by decide) ?_
  refine lv_istore_n (lv' := [(3, .int (nI 0)), (2, .ref h1), (1, .ref h0), (0, .ref b)]) hx hb dL_17 rfl hl (by decide) rfl (fun ls hl => ?_)
  refine law_loop (G := (adr0 h0 h1 u v, D, cA)) hL C0 hK (Nat.le_refl _) (Nat.le_refl _) (fun H locs ls hS => ?_) (L + 1) 0 (m0 f) H locs ls (Nat.zero_le _) (by omega) (INV_new hf) hP hD hS (lv_sub hl [3, 2, 1, 0] rfl)
  refine lv_iconst (v := 1) hx hb dL_848 (by decide) ?_
  refine va_forget (fun q hq => hS.2.2 q hq) ?_
  exact lw_ret hx hb hr hlocks dL_849
