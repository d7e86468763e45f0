/-! ===== one instruction ===== -/
theorem p1_of {st : List AV} {f : Int32 → List AV → Prop} (h : p1 st f) : ∃ x r, st = .inl x :: r ∧ f x r := by
  unfold p1 at h
  split at h
  · exact ⟨_, _, rfl, h⟩
  · exact h.elim
theorem p2_of {st : List AV} {f : Int32 → Int32 → List AV → Prop} (h : p2 st f) : ∃ x y r, st = .inl y :: .inl x :: r ∧ f x y r := by
  unfold p2 at h
  split at h
  · exact ⟨_, _, _, rfl, h⟩
  · exact h.elim
theorem pr_of {st : List AV} {f : Nat → List AV → Prop} (h : pr st f) : ∃ x r, st = .inr x :: r ∧ f x r := by
  unfold pr at h
  split at h
  · exact ⟨_, _, rfl, h⟩
  · exact h.elim
theorem pobj_of {r ci : Nat} {f : List (Option Nat) → Prop} (h : pobj r ci f) : ∃ fs, shp[r]? = some (.inr (ci, fs)) ∧ f fs := by
  unfold pobj at h
  split at h
  · rename_i c fs hs
    obtain ⟨rfl, h⟩ := h
    exact ⟨fs, by rw [← shF_eq]; exact hs, h⟩
  · exact h.elim
theorem parr_of {r : Nat} {f : Nat → Nat → Prop} (h : parr r f) : ∃ t n, shp[r]? = some (.inl (t, n)) ∧ f t n := by
  unfold parr at h
  split at h
  · rename_i t n hs
    exact ⟨t, n, by rw [← shF_eq]; exact hs, h⟩
  · exact h.elim
theorem brP_of {k : Nat → AL → Prop} {c : Prop} {ls : AL} {ts : List (Nat × List Bool)} (h : brP k c ls ts) : ∃ t f, ts = [t, f] ∧ (c → k t.1 (amask t.2 ls)) ∧ (¬ c → k f.1 (amask f.2 ls)) := by
  unfold brP at h
  split at h
  · exact ⟨_, _, rfl, h⟩
  · exact h.elim
theorem brN_of {k : Nat → AL → Prop} {c : Prop} {ls : AL} {ts : List (Nat × List Bool)} (h : brN k c ls ts) : ∃ t f, ts = [t, f] ∧ (¬ c → k t.1 (amask t.2 ls)) ∧ (c → k f.1 (amask f.2 ls)) := by
  unfold brN at h
  split at h
  · exact ⟨_, _, rfl, h⟩
  · exact h.elim
theorem sw_in {k : Nat → AL → Prop} {x : Int32} {ls : AL} : ∀ (ts : List (Nat × List Bool)) (i j : Nat), swP k x ls i ts → j + 1 < ts.length → x = nI (i + j) → ∃ t, ts[j]? = some t ∧ k t.1 (amask t.2 ls)
  | [], _, _, h, _, _ => h.elim
  | [t], _, j, h, hj, _ => by simp at hj
  | t :: t' :: ts, i, 0, h, hj, hx => ⟨t, rfl, h.1 hx⟩
  | t :: t' :: ts, i, j + 1, h, hj, hx => by
    obtain ⟨q, h1, h2⟩ := sw_in (t' :: ts) (i + 1) j h.2 (by simp at hj ⊢; omega) (by rw [hx]; congr 1; omega)
    exact ⟨q, by simpa using h1, h2⟩
theorem sw_out {k : Nat → AL → Prop} {x : Int32} {ls : AL} : ∀ (ts : List (Nat × List Bool)) (i : Nat), swP k x ls i ts → ¬ (0 ≤ x.toInt ∧ x.toInt < ((i + (ts.length - 1) : Nat) : Int)) → ∃ t, ts[ts.length - 1]? = some t ∧ k t.1 (amask t.2 ls)
  | [], _, h, _ => h.elim
  | [t], i, h, hx => ⟨t, rfl, h (by simpa using hx)⟩
  | t :: t' :: ts, i, h, hx => by
    obtain ⟨q, h1, h2⟩ := sw_out (t' :: ts) (i + 1) h.2 (by simp at hx ⊢; omega)
    refine ⟨q, ?_, h2⟩
    simpa using h1
theorem cNm_cl : ∀ ci, ci < 7 → ∃ q, vwCl[ci]? = some q ∧ q.1 = cNm ci := by
  intro ci h
  have h2 : ci = 0 ∨ ci = 1 ∨ ci = 2 ∨ ci = 3 ∨ ci = 4 ∨ ci = 5 ∨ ci = 6 := by omega
  rcases h2 with rfl | rfl | rfl | rfl | rfl | rfl | rfl <;> exact ⟨_, rfl, rfl⟩
theorem wsY_good {y : Nat} (h : Cond.code (mNm y) (mCode y) (mMax y) (mRet y) ∈ aGW) : GoodIn aGW (wsY y) := by
  intro w hw
  rcases List.mem_cons.mp hw with rfl | h2
  · exact aGood h
  · exact aGood h2
section STEP
variable {D y : Nat} {Q : APost} {p : Program} {l : Launch} {e : Env} {R : Room} {s : State} {mm : MethodId} {args : Array Value} {below : List Frame} {meth : Method} {c : Code} {cells slots : Nat} {Qm : State → Prop} {A : Nat → Prop} {G : aG}
variable {pc : Nat} {v : Int32} {a b : Nat} {ts : List (Nat × List Bool)} {ls : AL} {st : List AV} {m : AM} {K : AL → List AV → AM → Prop} {k : Nat → AL → List AV → AM → Prop}
theorem a_get (hok : AOk D y Q p l e R s mm args below meth c cells slots Qm A G) {n : Nat} (hdec : decode (mCode y) pc = .ok (.getfield n, 3)) (hm : (mOwn y, n, a, b, false) ∈ aFT ∨ (mOwn y, n, a, b, true) ∈ aFT)
    (hK : ∀ ls st m, K ls st m → AAt y p l e R s mm args below meth c cells slots Qm A G (pc + 3) ls st m) (h : stP (aCC D) D (mZr y) k Q (.getfield n) v a b ts ls st m K) : AAt y p l e R s mm args below meth c cells slots Qm A G pc ls st m := by
  intro H locs lsA hP hD hS hl
  obtain ⟨hx, hb, hml, hown, hts, hN, hk0, hA, hroom, hret⟩ := hok
  obtain ⟨q, r, rfl, h⟩ := pr_of h
  obtain ⟨fs, hs, h⟩ := pobj_of h
  have key : ∀ (f : Bool) (v : Value), (mOwn y, n, a, b, f) ∈ aFT → (fs.mapIdx (afl G.1 (m q)))[b]? = some v → W p l e R s mm args below meth c H locs cells slots Qm (F0 mm (pc + 3) lsA (v :: r.map (atr G.1))) → W p l e R s mm args below meth c H locs cells slots Qm (F0 mm pc lsA (.ref (G.1 q) :: r.map (atr G.1))) := by
    intro f v hm hv kk
    obtain ⟨C, T, N, hc, hbN, hT, hw⟩ := aFT_link hm
    have hin := aLay_ok _ (List.mem_of_getElem? hc)
    rcases hw with ⟨rfl, hw⟩ | ⟨rfl, hw⟩
    · exact va_get (ref := C) hx hb hts hin hown hk0 hP q (wd_obj hs) hc b hbN (hts _ hw) (fun x h9 => by rw [hT] at h9; exact h9) hv hdec kk
    · exact va_getN (ref := C) (host := RX5) hx hb hts hin hown hk0 hP q (wd_obj hs) hc b hbN (va_Nw.use rfl (hN _ hw)) (fun x h9 => by rw [hT] at h9; exact h9) hv hdec kk
  split at h
  · rename_i hfb
    have hv : (fs.mapIdx (afl G.1 (m q)))[b]? = some (.int (m q b)) := by rw [List.getElem?_mapIdx, hfb]; rfl
    rcases hm with hm | hm <;> exact key _ _ hm hv (hK _ _ _ h H locs lsA hP hD hS hl)
  · rename_i q' hfb
    have hv : (fs.mapIdx (afl G.1 (m q)))[b]? = some (.ref (G.1 q')) := by rw [List.getElem?_mapIdx, hfb]; rfl
    rcases hm with hm | hm <;> exact key _ _ hm hv (hK _ _ _ h H locs lsA hP hD hS hl)
  · exact h.elim
theorem a_put (hok : AOk D y Q p l e R s mm args below meth c cells slots Qm A G) {n : Nat} (hdec : decode (mCode y) pc = .ok (.putfield n, 3)) (hm : (mOwn y, n, a, b, false) ∈ aFT ∨ (mOwn y, n, a, b, true) ∈ aFT)
    (hty : ∀ (C : String) (T : u_T) (N : Nat), vwCl[a]? = some (C, T, N) → (T b).2.2.2 = false ∧ ((v = 0 ∧ parseFieldDescriptor (T b).2.2.1 = some .int) ∨ parseFieldDescriptor (T b).2.2.1 = some .boolean))
    (hK : ∀ ls st m, K ls st m → AAt y p l e R s mm args below meth c cells slots Qm A G (pc + 3) ls st m) (h : stP (aCC D) D (mZr y) k Q (.putfield n) v a b ts ls st m K) (hv0 : ∀ (C : String) (T : u_T) (N : Nat), vwCl[a]? = some (C, T, N) → parseFieldDescriptor (T b).2.2.1 = some .boolean → v ≠ 0) : AAt y p l e R s mm args below meth c cells slots Qm A G pc ls st m := by
  intro H locs lsA hP hD hS hl
  obtain ⟨hx, hb, hml, hown, hts, hN, hk0, hA, hroom, hret⟩ := hok
  obtain ⟨x, r0, rfl, h⟩ := p1_of h
  obtain ⟨q, r, rfl, h⟩ := pr_of h
  obtain ⟨fs, hs, h⟩ := pobj_of h
  split at h
  · rename_i hfb
    obtain ⟨hz, h⟩ := h
    have hlen : b < (fs.mapIdx (afl G.1 (m q))).length := by simp; exact (List.getElem?_eq_some_iff.mp hfb).1
    have fin : ∀ (H1 : Heap) (locs1 : List Loc), va_P G.2.1 vwCl ((wd G.1 G.2.2 m).set q (G.1 q, .inr (a, (fs.mapIdx (afl G.1 (m q))).set b (.int x)))) H1 → va_D A ((wd G.1 G.2.2 m).set q (G.1 q, .inr (a, (fs.mapIdx (afl G.1 (m q))).set b (.int x)))) → va_S A s.heap H1 locs1 → W p l e R s mm args below meth c H1 locs1 cells slots Qm (F0 mm (pc + 3) lsA (r.map (atr G.1))) := by
      intro H1 locs1 hP1 hD1 hS1
      rw [wd_set_obj hs hfb] at hP1 hD1
      exact hK _ _ _ h H1 locs1 lsA hP1 hD1 hS1 hl
    have key : ∀ f : Bool, (mOwn y, n, a, b, f) ∈ aFT → W p l e R s mm args below meth c H locs cells slots Qm (F0 mm pc lsA (.int x :: .ref (G.1 q) :: r.map (atr G.1))) := by
      intro f hm
      obtain ⟨C, T, N, hc, hbN, hT, hw⟩ := aFT_link hm
      have hin := aLay_ok _ (List.mem_of_getElem? hc)
      obtain ⟨ty0, hty0, hnm⟩ := aTy_ok _ (List.mem_of_getElem? hc)
      obtain ⟨hfin, hd⟩ := hty C T N hc
      have hd2 : ∃ ty : FieldType, parseFieldDescriptor (T b).2.2.1 = some ty ∧ narrow ty (.int x) = .int x ∧ fits ty (.int x) = true := by
        rcases hd with ⟨-, hd⟩ | hd
        · exact ⟨.int, hd, rfl, rfl⟩
        · refine ⟨.boolean, hd, ?_⟩
          have hv1 := hv0 C T N hc hd
          rcases hz with hz | rfl | rfl
          · exact absurd hz hv1
          · exact ⟨rfl, rfl⟩
          · exact ⟨rfl, rfl⟩
      obtain ⟨ty, hd, hn, hfit⟩ := hd2
      rcases hw with ⟨rfl, hw⟩ | ⟨rfl, hw⟩
      · exact va_put (ref := C) hx hb hts hin ty0 hty0 hnm hown hk0 hP hD hS q (wd_obj hs) hc b hbN (hts _ hw) (fun x h9 => by rw [hT] at h9; exact h9) hfin hd hn hfit hlen hdec fin
      · exact va_putN (ref := C) (host := RX5) hx hb hts hin ty0 hty0 hnm hown hk0 hP hD hS q (wd_obj hs) hc b hbN (va_Nw.use rfl (hN _ hw)) (fun x h9 => by rw [hT] at h9; exact h9) hfin hd hn hfit hlen hdec fin
    rcases hm with hm | hm <;> exact key _ hm
  · exact h.elim
theorem a_join {A : Nat → Prop} {H : Heap} {locs : List Loc} (hD : va_D A (wd G.1 G.2.2 m)) (hS : va_S A s.heap H locs) (hA : ∀ q, s.heap.size ≤ q → A q) : ∀ q, va_A (wd G.1 G.2.2 m) H.size q → A q := by
  intro q h
  rcases h with ⟨k, e, h⟩ | h
  · exact hD.2 k (q, e) h
  · exact hA q (Nat.le_trans hS.1 h)
theorem a_room {d : Nat} (hd : d < D) (hr : D ≤ R.frames ∧ 100 * D ≤ R.locals ∧ cells ≤ R.cells ∧ slots ≤ R.slots) {x : Nat} (hx : x ≤ 60) : (aRm d).frames + 1 ≤ R.frames ∧ 8 + (x + 11) + (aRm d).locals ≤ R.locals := by
  obtain ⟨h1, h2, -, -⟩ := hr
  refine ⟨?_, ?_⟩
  · show d + 1 ≤ R.frames
    omega
  · show 8 + (x + 11) + 100 * d ≤ R.locals
    omega
theorem a_cat (adr : Nat → Nat) (st : List AV) (h : st.length ≤ 8) : ((st.map (atr adr)).map fun v => v.category).sum ≤ 8 := by
  have e : ∀ st : List AV, ((st.map (atr adr)).map fun v => v.category).sum = st.length := by
    intro st
    induction st with
    | nil => rfl
    | cons x t ih => simp only [List.map_cons, List.sum_cons, List.length_cons, atr_cat, ih]; omega
  rw [e]; exact h
theorem a_pushed (adr : Nat → Nat) (r : Option Int32) (st : List AV) : (apush r st).map (atr adr) = (r.map Value.int).toList ++ st.map (atr adr) := by cases r <;> rfl
theorem a_pre {G : aG} {H : Heap} (hk0 : va_K G.2.1 vwCl (atys G.2.2) s) (hN : ∀ w ∈ aNW, va_Nw w s) (hP : va_P G.2.1 vwCl (wd G.1 G.2.2 m) H) (hD : va_D A (wd G.1 G.2.2 m)) (as : List AV) (U : State) (hU : U.heap = H) (hW : s.WarmedH U.vm) : aPre G H.size as m (as.map (atr G.1)).toArray U :=
  ⟨rfl, by rw [hU], by rw [hU]; exact hP, va_K.moved hW.alike hk0, hD.weaken (fun _ _ _ _ => trivial), fun w hw => aNW_warm hw hW (hN w hw)⟩
theorem a_callV (hok : AOk D y Q p l e R s mm args below meth c cells slots Qm A G) {n : Nat} (hdec : decode (mCode y) pc = .ok (.invokevirtual n, 3)) (hm : (mOwn y, n, a, 0) ∈ aMT) (hpar : ((parseMethodDescriptor (mNm a).desc).map (fun d => d.parameters.length)) = some (b - 1)) (hts1 : ∀ t, ts = [t] → t.1 = mOwn a)
    (hK : ∀ ls st m, K ls st m → AAt y p l e R s mm args below meth c cells slots Qm A G (pc + 3) ls st m) (h : stP (aCC D) D (mZr y) k Q (.invokevirtual n) v a b ts ls st m K) : AAt y p l e R s mm args below meth c cells slots Qm A G pc ls st m := by
  intro H locs lsA hP hD hS hl
  obtain ⟨hx, hb, hml, hown, hts, hN, hk0, hA, hroom, hret⟩ := hok
  simp only [stP] at h
  split at h
  · rename_i t
    split at h
    · rename_i q as hst
      obtain ⟨fs, hs, hlen, hrest, Q', ⟨d, hd, hC⟩, hcont⟩ := pobj_of h
      have ht1 : t.1 = mOwn a := hts1 t rfl
      obtain ⟨hcode, hini, ⟨hcls, hd1, hd2, hmax, hown7⟩, hkind⟩ := aMT_link hm
      rcases hkind with ⟨-, hl1, hl2, hl3⟩ | ⟨h0, -⟩ | ⟨h0, -⟩
      · have ho7 : mOwn a < 7 := by rcases hown7 with h | h; exact h; exact absurd rfl h
        obtain ⟨qc, hqc, hqn⟩ := cNm_cl (mOwn a) ho7
        have hst2 : st.map (atr G.1) = (as.map (atr G.1)).reverse ++ .ref (G.1 q) :: (st.drop b).map (atr G.1) := by
          have e1 : st.take b = as.reverse ++ [.inr q] := by
            have := congrArg List.reverse hst
            simpa using this
          have e2 : st = as.reverse ++ .inr q :: st.drop b := by
            have := (List.take_append_drop b st).symm
            rw [e1] at this
            simpa using this
          conv => lhs; rw [e2]
          simp [atr]
        rw [hst2]
        refine a_call (A := A) (G := G) (m := m) (Q := Q') (a := (Value.ref (G.1 q) :: as.map (atr G.1)).toArray) (va_runV (As := as.map (atr G.1)) (C := (mNm a).cls) (b := G.1 q) (Ts := aGW) (own := cNm (mOwn y)) (nL := mMax y) (n := b - 1) (bytes := mCode a) (maxL := mMax a) (ret := mRet a) ⟨hx, hb, hml, hown, hts⟩ (hC l G H.size) ⟨callB_of (b - 1) hts (wsY_good hcode) rfl rfl rfl (hts _ hini) (hts _ hl1) ⟨hd1, hd2, hpar⟩ (a_room hd hroom hmax), hts _ hl2, hts _ hl3⟩ ⟨aPre_blind _ _ _ _, ?_, fun U hU hW => a_pre hk0 hN hP hD (.inr q :: as) U hU hW⟩ rfl (by rw [List.length_map]; omega) (hl.1) rfl (lv_room (a_cat _ _ hrest)) hdec ⟨by simpa using hroom.2.2.1, by simpa using hroom.2.2.2⟩) hS (a_join hD hS hA) (fun r u H1 locs1 hq hP1 hS1 => ?_)
        · rw [hcls, ← hqn]
          rw [ht1] at hs
          exact va_recv hk0 hP hqc (wd_obj hs)
        · have := hK _ _ _ (hcont r u hq) H1 locs1 lsA hP1 (wd_D _ hD) hS1 hl
          rw [a_pushed] at this
          exact this
      · exact absurd h0 (by decide)
      · exact absurd rfl h0
    · exact h.elim
  · exact h.elim
theorem a_callS (hok : AOk D y Q p l e R s mm args below meth c cells slots Qm A G) {n : Nat} (hdec : decode (mCode y) pc = .ok (.invokestatic n, 3)) (hm : (mOwn y, n, a, 1) ∈ aMT ∨ (mOwn y, n, a, 2) ∈ aMT) (hpar : ((parseMethodDescriptor (mNm a).desc).map (fun d => d.parameters.length)) = some b)
    (hK : ∀ ls st m, K ls st m → AAt y p l e R s mm args below meth c cells slots Qm A G (pc + 3) ls st m) (h : stP (aCC D) D (mZr y) k Q (.invokestatic n) v a b [] ls st m K) : AAt y p l e R s mm args below meth c cells slots Qm A G pc ls st m := by
  intro H locs lsA hP hD hS hl
  obtain ⟨hx, hb, hml, hown, hts, hN, hk0, hA, hroom, hret⟩ := hok
  simp only [stP] at h
  obtain ⟨hlen, hrest, Q', ⟨d, hd, hC⟩, hcont⟩ := h
  have hst2 : st.map (atr G.1) = (((st.take b).reverse).map (atr G.1)).reverse ++ (st.drop b).map (atr G.1) := by
    rw [← List.map_reverse, List.reverse_reverse, ← List.map_append, List.take_append_drop]
  rw [hst2]
  have fin : ∀ (r : Option Int32) (u : AM) (H1 : Heap) (locs1 : List Loc), Q' r u → va_P G.2.1 vwCl (wd G.1 G.2.2 u) H1 → va_S A s.heap H1 locs1 → W p l e R s mm args below meth c H1 locs1 cells slots Qm (F0 mm (pc + 3) lsA ((r.map Value.int).toList ++ (st.drop b).map (atr G.1))) := by
    intro r u H1 locs1 hq hP1 hS1
    have := hK _ _ _ (hcont r u hq) H1 locs1 lsA hP1 (wd_D _ hD) hS1 hl
    rw [a_pushed] at this
    exact this
  have hln : (((st.take b).reverse).map (atr G.1)).length = b := by simp only [List.length_map, List.length_reverse]; exact hlen
  rcases hm with hm | hm
  · obtain ⟨hcode, hini, ⟨hcls, hd1, hd2, hmax, hown7⟩, hkind⟩ := aMT_link hm
    rcases hkind with ⟨h0, -⟩ | ⟨-, hl1, hl2⟩ | ⟨-, h0, -⟩
    · exact absurd h0 (by decide)
    · exact a_call (A := A) (G := G) (m := m) (Q := Q') (a := (((st.take b).reverse).map (atr G.1)).toArray) (va_runS (As := ((st.take b).reverse).map (atr G.1)) (Ts := aGW) (own := cNm (mOwn y)) (nL := mMax y) (n := b) (bytes := mCode a) (maxL := mMax a) (ret := mRet a) ⟨hx, hb, hml, hown, hts⟩ (hC l G H.size) ⟨callB_of b hts (wsY_good hcode) rfl rfl rfl (hts _ hini) (hts _ hl1) ⟨hd1, hd2, hpar⟩ (a_room hd hroom hmax), hts _ hl2⟩ ⟨aPre_blind _ _ _ _, fun U hU hW => a_pre hk0 hN hP hD _ U hU hW⟩ rfl hln (hl.1) rfl (lv_room (a_cat _ _ hrest)) hdec ⟨by simpa using hroom.2.2.1, by simpa using hroom.2.2.2⟩) hS (a_join hD hS hA) fin
    · exact absurd rfl h0
  · obtain ⟨hcode, hini, ⟨hcls, hd1, hd2, hmax, hown7⟩, hkind⟩ := aMT_link hm
    rcases hkind with ⟨h0, -⟩ | ⟨h0, -⟩ | ⟨-, -, hl1, hl2⟩
    · exact absurd h0 (by decide)
    · exact absurd h0 (by decide)
    · exact a_call (A := A) (G := G) (m := m) (Q := Q') (a := (((st.take b).reverse).map (atr G.1)).toArray) (va_runSN (As := ((st.take b).reverse).map (atr G.1)) (Ts := aGW) (own := cNm (mOwn y)) (host := RX5) (nL := mMax y) (n := b) (bytes := mCode a) (maxL := mMax a) (ret := mRet a) ⟨hx, hb, hml, hown, hts⟩ (hC l G H.size) ⟨va_cnB b hts (wsY_good hcode) rfl rfl rfl (hN _ hl1) (hts _ hini) ⟨hd1, hd2, hpar⟩ (a_room hd hroom hmax), hts _ hl2, trivial⟩ ⟨aPre_blind _ _ _ _, fun U hU hW => a_pre hk0 hN hP hD _ U hU hW⟩ rfl hln (hl.1) rfl (lv_room (a_cat _ _ hrest)) hdec ⟨by simpa using hroom.2.2.1, by simpa using hroom.2.2.2⟩) hS (a_join hD hS hA) fin
theorem a_copy (hok : AOk D y Q p l e R s mm args below meth c cells slots Qm A G) {n : Nat} (hdec : decode (mCode y) pc = .ok (.invokestatic n, 3)) (hm : (mOwn y, n) ∈ aAT) {t0 : List Bool}
    (hK : ∀ ls st m, K ls st m → AAt y p l e R s mm args below meth c cells slots Qm A G (pc + 3) ls st m) (h : stP (aCC D) D (mZr y) k Q (.invokestatic n) v a b ((0, t0) :: ts) ls st m K) : AAt y p l e R s mm args below meth c cells slots Qm A G pc ls st m := by
  intro H locs lsA hP hD hS hl
  obtain ⟨hx, hb, hml, hown, hts, hN, hk0, hA, hroom, hret⟩ := hok
  simp only [stP] at h
  obtain ⟨i, hi⟩ := pos_mem (f := fun q => Cond.methodLink (cNm q.1) q.2 arraycopyName) aAT_pos hm
  have hlink : Cond.methodLink (cNm (mOwn y)) n arraycopyName ∈ aGW := aGW_of hi rfl
  have hc3 : ∀ w ∈ [Cond.native arraycopyName, Cond.static arraycopyName, Cond.initialized "java/lang/System"], w ∈ aGW := by
    intro w hw
    obtain ⟨j, hj⟩ := pos_mem (f := id) aCp_pos hw
    have hg : goodWord w = true := by
      simp only [List.mem_cons, List.not_mem_nil, or_false] at hw
      rcases hw with rfl | rfl | rfl <;> rfl
    exact aGW_of hj hg
  split at h
  · rename_i n dp q1 sp q0 r
    obtain ⟨hrest, hD1, h⟩ := h
    obtain ⟨t0, n0, hs0, h⟩ := parr_of h
    obtain ⟨t1, n1, hs1, h⟩ := parr_of h
    obtain ⟨rfl, rfl, h1, h2, h3, h4, h5, h⟩ := h
    refine va_copyi (ty := .int) hx hb (hml.trans hl.1.symm) hown (hts _ hlink) (hts _ (hc3 _ (by simp))) (hts _ (hc3 _ (by simp))) (hts _ (hc3 _ (by simp))) hk0 hP hD hS q0 q1 0 0 (wd_arr hs0) (wd_arr hs1) rfl rfl rfl h1 h2 h3 h4 h5 (fun _ _ => rfl) (by omega) ?_ hdec (fun H1 locs1 hP1 hD1 hS1 => ?_)
    · have := a_cat G.1 r hrest
      have e : nativeFrameWords "java/lang/System" "arraycopy" 5 = 7 := by decide
      rw [e]
      omega
    · rw [wd_set_arr hs1] at hP1 hD1
      exact hK _ _ _ h H1 locs1 lsA hP1 hD1 hS1 hl
  · exact h.elim
theorem a_max (hok : AOk D y Q p l e R s mm args below meth c cells slots Qm A G) {n : Nat} (hdec : decode (mCode y) pc = .ok (.invokestatic n, 3)) (hm : (mOwn y, n) ∈ aXT) {t0 : List Bool}
    (hK : ∀ ls st m, K ls st m → AAt y p l e R s mm args below meth c cells slots Qm A G (pc + 3) ls st m) (h : stP (aCC D) D (mZr y) k Q (.invokestatic n) v a b ((1, t0) :: ts) ls st m K) : AAt y p l e R s mm args below meth c cells slots Qm A G pc ls st m := by
  intro H locs lsA hP hD hS hl
  obtain ⟨hx, hb, hml, hown, hts, hN, hk0, hA, hroom, hret⟩ := hok
  simp only [stP] at h
  obtain ⟨x, z, r, rfl, hrest, hD1, h2⟩ := p2_of h
  obtain ⟨i, hi⟩ := pos_mem (f := fun q => Cond.methodLink (cNm q.1) q.2 Lib.Math.max.name) aXT_pos hm
  have hlink : Cond.methodLink (cNm (mOwn y)) n Lib.Math.max.name ∈ aGW := aGW_of hi rfl
  have hc3 : ∀ w ∈ [Cond.static Lib.Math.max.name, Cond.initialized "java/lang/Math", Cond.code Lib.Math.max.name Lib.Math.max.code 2 (some .int)], w ∈ aGW := by
    intro w hw
    obtain ⟨j, hj⟩ := pos_mem (f := id) aXT_w hw
    have hg : goodWord w = true := by
      simp only [List.mem_cons, List.not_mem_nil, or_false] at hw
      rcases hw with rfl | rfl | rfl <;> rfl
    exact aGW_of hj hg
  have := a_cat G.1 r hrest
  exact va_mmax hx hb (hml.trans hl.1.symm) hown (hts _ hlink) (hts _ (hc3 _ (by simp))) (hts _ (hc3 _ (by simp))) (hts _ (hc3 _ (by simp))) (by omega) (by omega) hroom.2.2.1 hroom.2.2.2 hdec (hK _ _ _ h2 H locs lsA hP hD hS hl)
theorem a_min (hok : AOk D y Q p l e R s mm args below meth c cells slots Qm A G) {n : Nat} (hdec : decode (mCode y) pc = .ok (.invokestatic n, 3)) (hm : (mOwn y, n) ∈ aNT) {t0 : List Bool}
    (hK : ∀ ls st m, K ls st m → AAt y p l e R s mm args below meth c cells slots Qm A G (pc + 3) ls st m) (h : stP (aCC D) D (mZr y) k Q (.invokestatic n) v a b ((2, t0) :: ts) ls st m K) : AAt y p l e R s mm args below meth c cells slots Qm A G pc ls st m := by
  intro H locs lsA hP hD hS hl
  obtain ⟨hx, hb, hml, hown, hts, hN, hk0, hA, hroom, hret⟩ := hok
  simp only [stP] at h
  obtain ⟨x, z, r, rfl, hrest, hD1, h2⟩ := p2_of h
  obtain ⟨i, hi⟩ := pos_mem (f := fun q => Cond.methodLink (cNm q.1) q.2 Lib.Math.min.name) aNT_pos hm
  have hlink : Cond.methodLink (cNm (mOwn y)) n Lib.Math.min.name ∈ aGW := aGW_of hi rfl
  have hc3 : ∀ w ∈ [Cond.static Lib.Math.min.name, Cond.initialized "java/lang/Math", Cond.code Lib.Math.min.name Lib.Math.min.code 2 (some .int)], w ∈ aGW := by
    intro w hw
    obtain ⟨j, hj⟩ := pos_mem (f := id) aNT_w hw
    have hg : goodWord w = true := by
      simp only [List.mem_cons, List.not_mem_nil, or_false] at hw
      rcases hw with rfl | rfl | rfl <;> rfl
    exact aGW_of hj hg
  have := a_cat G.1 r hrest
  exact va_mmin hx hb (hml.trans hl.1.symm) hown (hts _ hlink) (hts _ (hc3 _ (by simp))) (hts _ (hc3 _ (by simp))) (hts _ (hc3 _ (by simp))) (by omega) (by omega) hroom.2.2.1 hroom.2.2.2 hdec (hK _ _ _ h2 H locs lsA hP hD hS hl)
end STEP
