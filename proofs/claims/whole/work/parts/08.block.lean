section STEP2
variable {D y : Nat} {Q : APost} {p : Program} {l : Launch} {e : Env} {R : Room} {s : State} {mm : MethodId} {args : Array Value} {below : List Frame} {meth : Method} {c : Code} {cells slots : Nat} {Qm : State → Prop} {A : Nat → Prop} {G : aG}
variable {pc : Nat} {v : Int32} {a b : Nat} {ts : List (Nat × List Bool)} {ls : AL} {st : List AV} {m : AM} {K : AL → List AV → AM → Prop} {k : Nat → AL → List AV → AM → Prop}
set_option maxHeartbeats 4000000 in
theorem a_step (hok : AOk D y Q p l e R s mm args below meth c cells slots Qm A G) {len : Nat} {i : Instr} (hdec : decode (mCode y) pc = .ok (i, len)) (hchk : chkI (mOwn y) (mMax y) (mRet y) i len v a b pc ts = true)
    (hK : ∀ ls st m, K ls st m → AAt y p l e R s mm args below meth c cells slots Qm A G (pc + len) ls st m) (hk : ∀ t ls st m, k t ls st m → AAt y p l e R s mm args below meth c cells slots Qm A G t ls st m)
    (h : stP (aCC D) D (mZr y) k Q i v a b ts ls st m K) (hnop : i ≠ .nop) : AAt y p l e R s mm args below meth c cells slots Qm A G pc ls st m := by
  have hok0 := hok
  obtain ⟨hx, hb, hml, hown, hts, hN, hk0, hA, hroom, hret⟩ := hok
  cases i
  case iconst n =>
    simp only [chkI, Bool.and_eq_true, beq_iff_eq, decide_eq_true_eq] at hchk
    obtain ⟨rfl, hv⟩ := hchk
    intro H locs lsA hP hD hS hl
    exact lv_iconst hx hb hdec hv (hK _ _ _ h H locs lsA hP hD hS hl)
  case bipush n =>
    simp only [chkI, Bool.and_eq_true, beq_iff_eq, decide_eq_true_eq] at hchk
    obtain ⟨rfl, hv⟩ := hchk
    intro H locs lsA hP hD hS hl
    exact lv_bipush hx hb hdec hv (hK _ _ _ h H locs lsA hP hD hS hl)
  case sipush n =>
    simp only [chkI, Bool.and_eq_true, beq_iff_eq, decide_eq_true_eq] at hchk
    obtain ⟨rfl, hv⟩ := hchk
    intro H locs lsA hP hD hS hl
    exact lv_sipush hx hb hdec hv (hK _ _ _ h H locs lsA hP hD hS hl)
  case ldc_w n =>
    simp only [chkI, Bool.and_eq_true, beq_iff_eq, decide_eq_true_eq] at hchk
    obtain ⟨rfl, hv⟩ := hchk
    intro H locs lsA hP hD hS hl
    obtain ⟨j, hj⟩ := pos_mem (f := fun q => Cond.constant (cNm q.1) q.2.1 q.2.2) aKT_pos hv
    exact lv_ldcw hx hb hown (hts _ (aGW_of hj rfl)) hdec (hK _ _ _ h H locs lsA hP hD hS hl)
  case iload n =>
    simp only [chkI, Bool.and_eq_true, beq_iff_eq, decide_eq_true_eq] at hchk
    obtain ⟨rfl, rfl⟩ := hchk
    intro H locs lsA hP hD hS hl
    simp only [stP] at h
    split at h
    · rename_i x hx2
      exact lv_iload hx hb hdec (hl.2.2 _ _ hx2) (hK _ _ _ h H locs lsA hP hD hS hl)
    · exact h.elim
  case iload_n n =>
    simp only [chkI, Bool.and_eq_true, beq_iff_eq, decide_eq_true_eq] at hchk
    obtain ⟨rfl, hn⟩ := hchk
    intro H locs lsA hP hD hS hl
    simp only [stP] at h
    split at h
    · rename_i x hx2
      exact lv_iload_n hx hb hdec hn (hl.2.2 _ _ hx2) (hK _ _ _ h H locs lsA hP hD hS hl)
    · exact h.elim
  case aload_n n =>
    simp only [chkI, Bool.and_eq_true, beq_iff_eq, decide_eq_true_eq] at hchk
    obtain ⟨rfl, hn⟩ := hchk
    intro H locs lsA hP hD hS hl
    simp only [stP] at h
    split at h
    · rename_i x hx2
      exact lv_aload_n hx hb hdec hn (hl.2.2 _ _ hx2) (hK _ _ _ h H locs lsA hP hD hS hl)
    · exact h.elim
  case istore n =>
    simp only [chkI, Bool.and_eq_true, beq_iff_eq, decide_eq_true_eq] at hchk
    obtain ⟨⟨rfl, rfl⟩, hn⟩ := hchk
    intro H locs lsA hP hD hS hl
    obtain ⟨x, r, rfl, h⟩ := p1_of h
    exact lv_istore hx hb hdec hl.lv hn rfl (fun ls' hl' => hK _ _ _ h H locs ls' hP hD hS (alh.set hl'))
  case istore_n n =>
    simp only [chkI, Bool.and_eq_true, beq_iff_eq, decide_eq_true_eq] at hchk
    obtain ⟨⟨rfl, ha⟩, hn⟩ := hchk
    intro H locs lsA hP hD hS hl
    obtain ⟨x, r, rfl, h⟩ := p1_of h
    exact lv_istore_n hx hb hdec ha hl.lv hn rfl (fun ls' hl' => hK _ _ _ h H locs ls' hP hD hS (alh.set hl'))
  case iinc n j =>
    simp only [chkI, Bool.and_eq_true, beq_iff_eq, decide_eq_true_eq] at hchk
    obtain ⟨⟨⟨rfl, rfl⟩, hn⟩, hv⟩ := hchk
    intro H locs lsA hP hD hS hl
    simp only [stP] at h
    split at h
    · rename_i x hx2
      obtain ⟨kk, hkk⟩ := List.mem_iff_getElem?.mp (mem_als (adr := G.1) hx2)
      exact lv_iinc (k := kk) (x := x) (v := x + v) hx hb hdec hl.lv hkk (by rw [hv]) hn rfl (fun ls' hl' => hK _ _ _ h H locs ls' hP hD hS (alh.set (v := .inl (x + v)) hl'))
    · exact h.elim
  case iadd =>
    simp only [chkI, beq_iff_eq] at hchk
    obtain rfl := hchk
    intro H locs lsA hP hD hS hl
    obtain ⟨x, y, r, rfl, h⟩ := p2_of h
    exact lv_iadd hx hb hdec (hK _ _ _ h H locs lsA hP hD hS hl)
  case isub =>
    simp only [chkI, beq_iff_eq] at hchk
    obtain rfl := hchk
    intro H locs lsA hP hD hS hl
    obtain ⟨x, y, r, rfl, h⟩ := p2_of h
    exact lv_isub hx hb hdec (hK _ _ _ h H locs lsA hP hD hS hl)
  case imul =>
    simp only [chkI, beq_iff_eq] at hchk
    obtain rfl := hchk
    intro H locs lsA hP hD hS hl
    obtain ⟨x, y, r, rfl, h⟩ := p2_of h
    exact lv_imul hx hb hdec (hK _ _ _ h H locs lsA hP hD hS hl)
  case iand =>
    simp only [chkI, beq_iff_eq] at hchk
    obtain rfl := hchk
    intro H locs lsA hP hD hS hl
    obtain ⟨x, y, r, rfl, h⟩ := p2_of h
    exact lv_iand hx hb hdec (hK _ _ _ h H locs lsA hP hD hS hl)
  case ior =>
    simp only [chkI, beq_iff_eq] at hchk
    obtain rfl := hchk
    intro H locs lsA hP hD hS hl
    obtain ⟨x, y, r, rfl, h⟩ := p2_of h
    exact lv_ior hx hb hdec (hK _ _ _ h H locs lsA hP hD hS hl)
  case ixor =>
    simp only [chkI, beq_iff_eq] at hchk
    obtain rfl := hchk
    intro H locs lsA hP hD hS hl
    obtain ⟨x, y, r, rfl, h⟩ := p2_of h
    exact lv_ixor hx hb hdec (hK _ _ _ h H locs lsA hP hD hS hl)
  case ishl =>
    simp only [chkI, beq_iff_eq] at hchk
    obtain rfl := hchk
    intro H locs lsA hP hD hS hl
    obtain ⟨x, y, r, rfl, h⟩ := p2_of h
    exact lv_ishl hx hb hdec (hK _ _ _ h H locs lsA hP hD hS hl)
  case ishr =>
    simp only [chkI, beq_iff_eq] at hchk
    obtain rfl := hchk
    intro H locs lsA hP hD hS hl
    obtain ⟨x, y, r, rfl, h⟩ := p2_of h
    exact lv_ishr hx hb hdec (hK _ _ _ h H locs lsA hP hD hS hl)
  case iushr =>
    simp only [chkI, beq_iff_eq] at hchk
    obtain rfl := hchk
    intro H locs lsA hP hD hS hl
    obtain ⟨x, y, r, rfl, h⟩ := p2_of h
    exact lv_iushr hx hb hdec rfl (hK _ _ _ h H locs lsA hP hD hS hl)
  case i2b =>
    simp only [chkI, beq_iff_eq] at hchk
    obtain rfl := hchk
    intro H locs lsA hP hD hS hl
    obtain ⟨x, r, rfl, h⟩ := p1_of h
    exact lv_i2b hx hb hdec rfl (hK _ _ _ h H locs lsA hP hD hS hl)
  case dup =>
    simp only [chkI, beq_iff_eq] at hchk
    obtain rfl := hchk
    intro H locs lsA hP hD hS hl
    simp only [stP] at h
    split at h
    · exact lv_dup hx hb hdec (atr_cat _ _) (hK _ _ _ h H locs lsA hP hD hS hl)
    · exact h.elim
  case dup2 =>
    simp only [chkI, beq_iff_eq] at hchk
    obtain rfl := hchk
    intro H locs lsA hP hD hS hl
    simp only [stP] at h
    split at h
    · exact lv_dup2_11 hx hb hdec (atr_cat _ _) (atr_cat _ _) (hK _ _ _ h H locs lsA hP hD hS hl)
    · exact h.elim
  case pop =>
    simp only [chkI, beq_iff_eq] at hchk
    obtain rfl := hchk
    intro H locs lsA hP hD hS hl
    simp only [stP] at h
    split at h
    · exact lv_pop hx hb hdec (atr_cat _ _) (hK _ _ _ h H locs lsA hP hD hS hl)
    · exact h.elim
  case getfield n =>
    simp only [chkI, Bool.and_eq_true, Bool.or_eq_true, beq_iff_eq, decide_eq_true_eq] at hchk
    obtain ⟨rfl, hm⟩ := hchk
    exact a_get hok0 hdec hm hK h
  case putfield n =>
    simp only [chkI, Bool.and_eq_true, Bool.or_eq_true, beq_iff_eq, decide_eq_true_eq] at hchk
    obtain ⟨⟨rfl, hm⟩, ht⟩ := hchk
    refine a_put hok0 hdec hm ?_ hK h ?_
    · intro C T N hc
      rw [hc] at ht
      simp only [Bool.and_eq_true, Bool.or_eq_true, beq_iff_eq, decide_eq_true_eq] at ht
      exact ⟨ht.1, ht.2.imp id (fun q => q.2)⟩
    · intro C T N hc hbool
      rw [hc] at ht
      simp only [Bool.and_eq_true, Bool.or_eq_true, beq_iff_eq, decide_eq_true_eq] at ht
      rcases ht.2 with ⟨-, q⟩ | ⟨q, -⟩
      · rw [q] at hbool; cases hbool
      · rw [q]; decide
  case arraylength =>
    simp only [chkI, beq_iff_eq] at hchk
    obtain rfl := hchk
    intro H locs lsA hP hD hS hl
    obtain ⟨q, r, rfl, h⟩ := pr_of h
    obtain ⟨t, n, hs, h⟩ := parr_of h
    have htt : t < 3 := by
      have hall : shp.all (fun e => match e with | .inl (t, _) => decide (t < 3) | .inr _ => true) = true := by decide +kernel
      simpa using List.all_eq_true.mp hall _ (List.mem_of_getElem? hs)
    have h3 : ∃ ty, (atys G.2.2)[t]? = some (G.2.2 t, ty) := by
      have : t = 0 ∨ t = 1 ∨ t = 2 := by omega
      rcases this with rfl | rfl | rfl <;> exact ⟨_, rfl⟩
    obtain ⟨ty, hty⟩ := h3
    exact va_alen hx hb hk0 hP q t (wd_arr hs) hty rfl hdec (hK _ _ _ h H locs lsA hP hD hS hl)
  case iaload =>
    simp only [chkI, beq_iff_eq] at hchk
    obtain rfl := hchk
    intro H locs lsA hP hD hS hl
    obtain ⟨j, r0, rfl, h⟩ := p1_of h
    obtain ⟨q, r, rfl, h⟩ := pr_of h
    obtain ⟨t, n, hs, rfl, hin, h⟩ := parr_of h
    exact va_iald hx hb hk0 hP q 0 (wd_arr hs) rfl hin hdec (hK _ _ _ h H locs lsA hP hD hS hl)
  case baload =>
    simp only [chkI, beq_iff_eq] at hchk
    obtain rfl := hchk
    intro H locs lsA hP hD hS hl
    obtain ⟨j, r0, rfl, h⟩ := p1_of h
    obtain ⟨q, r, rfl, h⟩ := pr_of h
    obtain ⟨t, n, hs, ht, hin, h⟩ := parr_of h
    rcases ht with rfl | rfl
    · exact va_bald hx hb hk0 hP q 1 (wd_arr hs) rfl hin hdec (hK _ _ _ h H locs lsA hP hD hS hl)
    · exact va_zald hx hb hk0 hP q 2 (wd_arr hs) rfl hin hdec (hK _ _ _ h H locs lsA hP hD hS hl)
  case iastore =>
    simp only [chkI, beq_iff_eq] at hchk
    obtain rfl := hchk
    intro H locs lsA hP hD hS hl
    obtain ⟨j, x, r0, rfl, h⟩ := p2_of h
    obtain ⟨q, r, rfl, h⟩ := pr_of h
    obtain ⟨t, n, hs, rfl, hin, h⟩ := parr_of h
    refine va_iast hx hb hk0 hP hD hS q 0 (wd_arr hs) rfl hin hdec (fun H1 locs1 hP1 hD1 hS1 => ?_)
    rw [wd_set_arr hs] at hP1 hD1
    exact hK _ _ _ h H1 locs1 lsA hP1 hD1 hS1 hl
  case bastore =>
    simp only [chkI, beq_iff_eq] at hchk
    obtain rfl := hchk
    intro H locs lsA hP hD hS hl
    obtain ⟨j, x, r0, rfl, h⟩ := p2_of h
    obtain ⟨q, r, rfl, h⟩ := pr_of h
    obtain ⟨t, n, hs, hin, h1, h2, ht⟩ := parr_of h
    rcases ht with rfl | rfl
    · refine va_bast hx hb hk0 hP hD hS q 1 (wd_arr hs) rfl hin hdec (fun H1 locs1 hP1 hD1 hS1 => ?_)
      rw [wd_set_arr hs] at hP1 hD1
      exact hK _ _ _ (h1 rfl) H1 locs1 lsA hP1 hD1 hS1 hl
    · refine va_zast hx hb hk0 hP hD hS q 2 (wd_arr hs) rfl hin hdec (fun H1 locs1 hP1 hD1 hS1 => ?_)
      rw [wd_set_arr hs] at hP1 hD1
      exact hK _ _ _ (h2 rfl) H1 locs1 lsA hP1 hD1 hS1 hl
  case if_icmp cnd off =>
    simp only [chkI, Bool.and_eq_true, beq_iff_eq] at hchk
    obtain ⟨rfl, hts2⟩ := hchk
    intro H locs lsA hP hD hS hl
    cases cnd
    case ne =>
      obtain ⟨x, y, r, rfl, h2⟩ := p2_of h
      obtain ⟨t, f, rfl, ht, hf⟩ := brN_of h2
      simp only [Bool.and_eq_true, beq_iff_eq, decide_eq_true_eq] at hts2
      exact lv_icmp_ne hx hb hdec hts2.1 (fun q => hk _ _ _ _ (ht q) H locs lsA hP hD hS (hl.mask _)) (fun q => hts2.2 ▸ hk _ _ _ _ (hf q) H locs lsA hP hD hS (hl.mask _))
    case eq =>
      obtain ⟨x, y, r, rfl, h2⟩ := p2_of h
      obtain ⟨t, f, rfl, ht, hf⟩ := brP_of h2
      simp only [Bool.and_eq_true, beq_iff_eq, decide_eq_true_eq] at hts2
      exact lv_icmp_eq hx hb hdec hts2.1 (fun q => hk _ _ _ _ (ht q) H locs lsA hP hD hS (hl.mask _)) (fun q => hts2.2 ▸ hk _ _ _ _ (hf q) H locs lsA hP hD hS (hl.mask _))
    case lt =>
      obtain ⟨x, y, r, rfl, h2⟩ := p2_of h
      obtain ⟨t, f, rfl, ht, hf⟩ := brP_of h2
      simp only [Bool.and_eq_true, beq_iff_eq, decide_eq_true_eq] at hts2
      exact lv_icmp_lt hx hb hdec hts2.1 (fun q => hk _ _ _ _ (ht q) H locs lsA hP hD hS (hl.mask _)) (fun q => hts2.2 ▸ hk _ _ _ _ (hf q) H locs lsA hP hD hS (hl.mask _))
    case ge =>
      obtain ⟨x, y, r, rfl, h2⟩ := p2_of h
      obtain ⟨t, f, rfl, ht, hf⟩ := brP_of h2
      simp only [Bool.and_eq_true, beq_iff_eq, decide_eq_true_eq] at hts2
      exact lv_icmp_ge hx hb hdec hts2.1 (fun q => hk _ _ _ _ (ht q) H locs lsA hP hD hS (hl.mask _)) (fun q => hts2.2 ▸ hk _ _ _ _ (hf q) H locs lsA hP hD hS (hl.mask _))
    case gt =>
      obtain ⟨x, y, r, rfl, h2⟩ := p2_of h
      obtain ⟨t, f, rfl, ht, hf⟩ := brP_of h2
      simp only [Bool.and_eq_true, beq_iff_eq, decide_eq_true_eq] at hts2
      exact lv_icmp_gt hx hb hdec hts2.1 (fun q => hk _ _ _ _ (ht q) H locs lsA hP hD hS (hl.mask _)) (fun q => hts2.2 ▸ hk _ _ _ _ (hf q) H locs lsA hP hD hS (hl.mask _))
    case le =>
      obtain ⟨x, y, r, rfl, h2⟩ := p2_of h
      obtain ⟨t, f, rfl, ht, hf⟩ := brP_of h2
      simp only [Bool.and_eq_true, beq_iff_eq, decide_eq_true_eq] at hts2
      exact lv_icmp_le hx hb hdec hts2.1 (fun q => hk _ _ _ _ (ht q) H locs lsA hP hD hS (hl.mask _)) (fun q => hts2.2 ▸ hk _ _ _ _ (hf q) H locs lsA hP hD hS (hl.mask _))
  case ifCond cnd off =>
    simp only [chkI, Bool.and_eq_true, beq_iff_eq] at hchk
    obtain ⟨rfl, hts2⟩ := hchk
    intro H locs lsA hP hD hS hl
    cases cnd
    case ne =>
      obtain ⟨x, r, rfl, h2⟩ := p1_of h
      obtain ⟨t, f, rfl, ht, hf⟩ := brN_of h2
      simp only [Bool.and_eq_true, beq_iff_eq, decide_eq_true_eq] at hts2
      exact lv_if_ne hx hb hdec hts2.1 (fun q => hk _ _ _ _ (ht q) H locs lsA hP hD hS (hl.mask _)) (fun q => hts2.2 ▸ hk _ _ _ _ (hf q) H locs lsA hP hD hS (hl.mask _))
    case eq =>
      obtain ⟨x, r, rfl, h2⟩ := p1_of h
      obtain ⟨t, f, rfl, ht, hf⟩ := brP_of h2
      simp only [Bool.and_eq_true, beq_iff_eq, decide_eq_true_eq] at hts2
      exact lv_if_eq hx hb hdec hts2.1 (fun q => hk _ _ _ _ (ht q) H locs lsA hP hD hS (hl.mask _)) (fun q => hts2.2 ▸ hk _ _ _ _ (hf q) H locs lsA hP hD hS (hl.mask _))
    case lt =>
      obtain ⟨x, r, rfl, h2⟩ := p1_of h
      obtain ⟨t, f, rfl, ht, hf⟩ := brP_of h2
      simp only [Bool.and_eq_true, beq_iff_eq, decide_eq_true_eq] at hts2
      exact lv_if_lt hx hb hdec hts2.1 (fun q => hk _ _ _ _ (ht q) H locs lsA hP hD hS (hl.mask _)) (fun q => hts2.2 ▸ hk _ _ _ _ (hf q) H locs lsA hP hD hS (hl.mask _))
    case ge =>
      obtain ⟨x, r, rfl, h2⟩ := p1_of h
      obtain ⟨t, f, rfl, ht, hf⟩ := brP_of h2
      simp only [Bool.and_eq_true, beq_iff_eq, decide_eq_true_eq] at hts2
      exact lv_if_ge hx hb hdec hts2.1 (fun q => hk _ _ _ _ (ht q) H locs lsA hP hD hS (hl.mask _)) (fun q => hts2.2 ▸ hk _ _ _ _ (hf q) H locs lsA hP hD hS (hl.mask _))
    case gt => exact h.elim
    case le => exact h.elim
  case goto off =>
    simp only [chkI, Bool.and_eq_true, beq_iff_eq] at hchk
    obtain ⟨rfl, hts2⟩ := hchk
    intro H locs lsA hP hD hS hl
    simp only [stP] at h
    split at h
    · simp only [decide_eq_true_eq] at hts2
      exact lv_goto hx hb hdec hts2 (hk _ _ _ _ h H locs lsA hP hD hS (hl.mask _))
    · exact h.elim
  case tableswitch d lo hi offs =>
    simp only [chkI, Bool.and_eq_true, beq_iff_eq, decide_eq_true_eq] at hchk
    obtain ⟨⟨⟨rfl, hhi⟩, hts2⟩, hsz⟩ := hchk
    intro H locs lsA hP hD hS hl
    obtain ⟨x, r, rfl, h⟩ := p1_of h
    have hlen : ts.length = offs.size + 1 := by
      have := congrArg List.length hts2
      simpa using this
    by_cases hin : 0 ≤ x.toInt ∧ x.toInt < (offs.size : Int)
    · obtain ⟨j, hj⟩ : ∃ j : Nat, x.toInt = (j : Int) := ⟨x.toInt.toNat, by omega⟩
      have hjl : j < offs.size := by omega
      have hxj : x = nI j := by
        have h1 := nI_toInt (n := j) (by omega)
        have : x.toInt = (nI j).toInt := by rw [h1, hj]
        exact Int32.toInt_inj.mp this
      obtain ⟨t, ht, hkt⟩ := sw_in ts 0 j h (by omega) (by rw [hxj]; congr 1; omega)
      have ho : (ts.map (fun t => (t.1 : Int)))[j]? = some (t.1 : Int) := by rw [List.getElem?_map, ht]; rfl
      rw [hts2, List.getElem?_map, List.getElem?_append_left (by simpa using hjl)] at ho
      cases hoj : offs.toList[j]? with
      | none => rw [hoj] at ho; cases ho
      | some off =>
        rw [hoj] at ho
        have ho2 : (pc : Int) + off = (t.1 : Int) := Option.some.inj ho
        exact lv_tableIn (tgt := t.1) hx hb hdec (by omega) (by omega) (by rw [hj]; simpa using hoj) ho2 (hk _ _ _ _ hkt H locs lsA hP hD hS (hl.mask _))
    · obtain ⟨t, ht, hkt⟩ := sw_out ts 0 h (by rw [hlen]; simpa using hin)
      have ho : (ts.map (fun t => (t.1 : Int)))[ts.length - 1]? = some (t.1 : Int) := by rw [List.getElem?_map, ht]; rfl
      rw [hts2, hlen, List.getElem?_map] at ho
      have ho2 : (offs.toList ++ [d])[offs.size + 1 - 1]? = some d := by
        rw [List.getElem?_append_right (by simp)]
        simp
      rw [ho2] at ho
      have ho3 : (pc : Int) + d = (t.1 : Int) := Option.some.inj ho
      exact lv_tableOut (tgt := t.1) hx hb hdec (by omega) ho3 (hk _ _ _ _ hkt H locs lsA hP hD hS (hl.mask _))
  case invokevirtual n =>
    simp only [chkI, Bool.and_eq_true, beq_iff_eq, decide_eq_true_eq] at hchk
    obtain ⟨⟨⟨rfl, hm⟩, hpar⟩, ht⟩ := hchk
    refine a_callV hok0 hdec hm hpar ?_ hK h
    intro t htt
    subst htt
    simpa using ht
  case invokestatic n =>
    simp only [chkI, Bool.and_eq_true, beq_iff_eq] at hchk
    obtain ⟨rfl, ht⟩ := hchk
    cases ts with
    | nil =>
      simp only [Bool.and_eq_true, Bool.or_eq_true, decide_eq_true_eq] at ht
      exact a_callS hok0 hdec ht.1 ht.2 hK h
    | cons t0 ts =>
      obtain ⟨t1, t0⟩ := t0
      match t1, ht, h with
      | 0, ht, h => exact a_copy hok0 hdec (by simpa using ht) hK h
      | 1, ht, h => exact a_max hok0 hdec (by simpa using ht) hK h
      | 2, ht, h => exact a_min hok0 hdec (by simpa using ht) hK h
      | z + 3, ht, h => exact h.elim
  case ireturn =>
    simp only [chkI, Bool.and_eq_true, Bool.or_eq_true, beq_iff_eq, decide_eq_true_eq] at hchk
    obtain ⟨rfl, hr⟩ := hchk
    intro H locs lsA hP hD hS hl
    simp only [stP] at h
    split at h
    · rename_i x
      obtain ⟨hz, hq⟩ := h
      refine hret (some x) m H locs pc lsA hq hP hS ⟨hdec, ?_⟩
      rcases hr with hr | hr
      · exact Or.inl hr
      · refine Or.inr ⟨hr, ?_⟩
        rcases hz with hz | hz
        · unfold mZr at hz
          rw [hr] at hz
          exact absurd hz (by decide)
        · exact hz
    · exact h.elim
  case return_ =>
    simp only [chkI, Bool.and_eq_true, beq_iff_eq, decide_eq_true_eq] at hchk
    obtain ⟨rfl, hr⟩ := hchk
    intro H locs lsA hP hD hS hl
    simp only [stP] at h
    split at h
    · exact hret none m H locs pc lsA h hP hS ⟨hdec, hr⟩
    · exact h.elim
  all_goals first | exact absurd hchk (by simp [chkI]) | exact absurd rfl hnop
theorem a_block (hok : AOk D y Q p l e R s mm args below meth c cells slots Qm A G) (hk : ∀ t ls st m, k t ls st m → AAt y p l e R s mm args below meth c cells slots Qm A G t ls st m) : ∀ (ops : List AOp) (pc : Nat) (ls : AL) (st : List AV) (m : AM), chkO (mOwn y) (mMax y) (mRet y) (mCode y) pc ops = true → exP (aCC D) D (mZr y) k Q ops ls st m → AAt y p l e R s mm args below meth c cells slots Qm A G pc ls st m
  | [], pc, ls, st, m, hc, h => h.elim
  | (pc0, len, i, v, a, b, ts) :: rest, pc, ls, st, m, hc, h => by
    simp only [chkO, Bool.and_eq_true, beq_iff_eq] at hc
    obtain ⟨⟨rfl, hi⟩, hrest⟩ := hc
    by_cases hn : i = .nop
    · subst hn
      simp only [exP, stP] at h
      split at h
      · rename_i t
        simp only [beq_iff_eq] at hi
        intro H locs lsA hP hD hS hl
        rw [← hi]
        exact hk _ _ _ _ h H locs lsA hP hD hS (hl.mask _)
      · exact h.elim
    · have hi2 : decode (mCode y) pc = .ok (i, len) ∧ chkI (mOwn y) (mMax y) (mRet y) i len v a b pc ts = true := by
        revert hi
        split
        · intro _; exact absurd rfl hn
        · intro hi
          simp only [Bool.and_eq_true, decide_eq_true_eq] at hi
          exact hi
      exact a_step hok hi2.1 hi2.2 (fun ls st m h2 => a_block hok hk rest (pc + len) ls st m hrest h2) hk h hn
end STEP2
