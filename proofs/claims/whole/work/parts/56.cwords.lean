/-! ===== words of the constructors and of the law (written by gen56.py) ===== -/
def cwL : List Cond := [Cond.arrayClass .int, Cond.arrayClass .byte, Cond.arrayClass .boolean, Cond.instanceMethod objectInit, Cond.code objectInit ⟨#[0xb1]⟩ 1 none, Cond.methodLink RX0 3 objectInit, Cond.fieldLink RX0 9 RX0 "sets" "[I", Cond.methodLink RX1 3 objectInit, Cond.fieldLink RX1 9 RX1 "weights" "[I", Cond.fieldLink RX1 15 RX1 "timeline" "LDeedBench$Timeline;", Cond.fieldLink RX1 19 RX1 "best" "I", Cond.fieldLink RX1 23 RX1 "bestWeight" "I", Cond.methodLink RX2 3 objectInit, Cond.fieldLink RX2 15 RX2 "from" "[I", Cond.fieldLink RX2 21 RX2 "to" "[I", Cond.fieldLink RX2 24 RX2 "size" "I", Cond.methodLink RX3 3 objectInit, Cond.fieldLink RX3 9 RX3 "first" "[I", Cond.fieldLink RX3 15 RX3 "last" "[I", Cond.fieldLink RX3 18 RX3 "near" "[I", Cond.fieldLink RX3 21 RX3 "named" "[I", Cond.fieldLink RX3 24 RX3 "least" "[I", Cond.fieldLink RX3 27 RX3 "greatest" "[I", Cond.fieldLink RX3 30 RX3 "latest" "[I", Cond.fieldLink RX3 33 RX3 "before" "[I", Cond.fieldLink RX3 36 RX3 "cause" "[I", Cond.fieldLink RX3 39 RX3 "w" "I", Cond.fieldLink RX3 43 RX3 "broken" "I", Cond.methodLink RX4 3 objectInit, Cond.fieldLink RX4 9 RX4 "tape" "[I", Cond.fieldLink RX4 15 RX4 "letters" "[I", Cond.fieldLink RX4 18 RX4 "sizes" "[I", Cond.fieldLink RX4 21 RX4 "tapeSize" "I", Cond.fieldLink RX4 25 RX4 "modelDeed" "I", Cond.fieldLink RX4 28 RX4 "modelLetters" "I", Cond.fieldLink RX4 31 RX4 "modelHere" "I", Cond.fieldLink RX4 34 RX4 "modelThere" "I", Cond.methodLink RX5 1 objectInit, Cond.classLink RX5 7 RX2, Cond.instantiable RX2 3, Cond.initialized RX2, Cond.methodLink RX5 11 yX2_init, Cond.instanceMethod yX2_init, Cond.fieldLink RX5 14 RX5 "people" "LDeedBench$Spans;", Cond.fieldLink RX5 18 RX5 "formulas" "LDeedBench$Spans;", Cond.fieldLink RX5 21 RX5 "seals" "LDeedBench$Spans;", Cond.fieldLink RX5 24 RX5 "deeds" "LDeedBench$Spans;", Cond.classLink RX5 27 RX0, Cond.instantiable RX0 1, Cond.initialized RX0, Cond.instanceMethod yX0_init, Cond.fieldLink RX5 30 RX5 "marks" "LDeedBench$Marks;", Cond.classLink RX5 34 RX3, Cond.instantiable RX3 11, Cond.initialized RX3, Cond.instanceMethod yX3_init, Cond.fieldLink RX5 37 RX5 "timeline" "LDeedBench$Timeline;", Cond.classLink RX5 41 RX1, Cond.instantiable RX1 4, Cond.initialized RX1, Cond.methodLink RX5 43 yX1_init, Cond.instanceMethod yX1_init, Cond.fieldLink RX5 46 RX5 "search" "LDeedBench$Search;", Cond.classLink RX5 50 RX4, Cond.instantiable RX4 8, Cond.initialized RX4, Cond.instanceMethod yX4_init, Cond.fieldLink RX5 53 RX5 "writing" "LDeedBench$Writing;", Cond.fieldLink RX5 57 RX5 "house" "[I", Cond.fieldLink RX5 61 RX5 "parcels" "[I", Cond.fieldLink RX5 64 RX5 "verdict" "[I", Cond.fieldLink RX5 67 RX5 "trueOnes" "I", Cond.fieldLink RX5 71 RX5 "settled" "Z", Cond.methodLink RX6 1 objectInit, Cond.fieldLink RX6 7 RX6 "tape" "[B", Cond.fieldLink RX6 13 RX6 "wide" "I", Cond.fieldLink RX6 17 RX6 "lifeFrom" "[I", Cond.fieldLink RX6 21 RX6 "lifeTo" "[I", Cond.fieldLink RX6 24 RX6 "formulaFrom" "[I", Cond.fieldLink RX6 27 RX6 "formulaTo" "[I", Cond.fieldLink RX6 30 RX6 "sealFrom" "[I", Cond.fieldLink RX6 33 RX6 "sealTo" "[I", Cond.fieldLink RX6 36 RX6 "from" "[I", Cond.fieldLink RX6 39 RX6 "to" "[I", Cond.fieldLink RX6 42 RX6 "weight" "[I", Cond.fieldLink RX6 45 RX6 "marks" "[I", Cond.fieldLink RX6 48 RX6 "kind" "[I", Cond.fieldLink RX6 51 RX6 "which" "[I", Cond.fieldLink RX6 54 RX6 "letters" "[I", Cond.fieldLink RX6 57 RX6 "words" "[B", Cond.fieldLink RX6 60 RX6 "house" "[I", Cond.fieldLink RX6 63 RX6 "parcels" "[I", Cond.fieldLink RX6 66 RX6 "court" "[I", Cond.fieldLink RX6 69 RX6 "low" "[I", Cond.fieldLink RX6 72 RX6 "high" "[I", Cond.fieldLink RX6 75 RX6 "isHand" "[Z", Cond.fieldLink RX6 79 RX6 "isNaming" "[Z", Cond.fieldLink RX6 82 RX6 "least" "[I", Cond.fieldLink RX6 85 RX6 "most" "[I", Cond.fieldLink RX6 88 RX6 "isGood" "[Z", Cond.classLink RL 7 RX5, Cond.instantiable RX5 13, Cond.initialized RX5, Cond.methodLink RL 9 yX5_init, Cond.instanceMethod yX5_init, Cond.classLink RL 10 RX6, Cond.instantiable RX6 34, Cond.initialized RX6, Cond.methodLink RL 12 yX6_init, Cond.instanceMethod yX6_init]
def cwLp : List Nat := [74, 613, 614, 50, 51, 80, 81, 137, 139, 138, 141, 142, 57, 61, 63, 65, 90, 91, 93, 95, 97, 99, 101, 103, 104, 105, 106, 108, 157, 158, 159, 160, 162, 164, 166, 168, 170, 49, 52, 53, 35, 54, 55, 189, 190, 191, 192, 75, 76, 37, 78, 193, 85, 86, 38, 88, 194, 132, 133, 39, 134, 135, 195, 152, 153, 40, 155, 196, 197, 198, 199, 200, 201, 509, 510, 512, 517, 518, 519, 520, 521, 522, 523, 524, 525, 526, 527, 528, 529, 530, 531, 532, 533, 534, 535, 536, 537, 538, 539, 541, 44, 45, 34, 46, 47, 504, 505, 41, 506, 507]
set_option maxRecDepth 100000 in
theorem cwL_pos : cwLp.map (fun i => lw_tbl[i]?) = cwL.map some := by decide +kernel
theorem cwL_good : cwL.all goodWord = true := by decide +kernel
theorem cwk {n : Nat} {w : Cond} (h : cwL[n]? = some w) : w ∈ aGW := by
  have hm := List.mem_of_getElem? h
  obtain ⟨i, hi⟩ := pos_mem (f := id) cwL_pos hm
  exact aGW_of hi (List.all_eq_true.mp cwL_good _ hm)
def cnL : List Cond := [Cond.methodLinkNest RX5 29 yX0_init RX5, Cond.methodLinkNest RX5 36 yX3_init RX5, Cond.methodLinkNest RX5 52 yX4_init RX5]
def cnLp : List Nat := [77, 87, 154]
set_option maxRecDepth 100000 in
theorem cnL_pos : cnLp.map (fun i => lw_tbl[i]?) = cnL.map some := by decide +kernel
theorem cnL_good : cnL.all isNestW = true := by decide +kernel
theorem cnk {n : Nat} {w : Cond} (h : cnL[n]? = some w) : w ∈ aNW := by
  have hm := List.mem_of_getElem? h
  obtain ⟨i, hi⟩ := pos_mem (f := id) cnL_pos hm
  exact aNW_of hi (List.all_eq_true.mp cnL_good _ hm)
set_option maxRecDepth 100000 in
theorem cc_X0_init : Cond.code yX0_init cX0_init 1 none ∈ aGW := aGW_of (i := 79) (by rfl) rfl
set_option maxRecDepth 100000 in
theorem cc_X1_init : Cond.code yX1_init cX1_init 2 none ∈ aGW := aGW_of (i := 136) (by rfl) rfl
set_option maxRecDepth 100000 in
theorem cc_X2_init : Cond.code yX2_init cX2_init 3 none ∈ aGW := aGW_of (i := 56) (by rfl) rfl
set_option maxRecDepth 100000 in
theorem cc_X3_init : Cond.code yX3_init cX3_init 1 none ∈ aGW := aGW_of (i := 89) (by rfl) rfl
set_option maxRecDepth 100000 in
theorem cc_X4_init : Cond.code yX4_init cX4_init 1 none ∈ aGW := aGW_of (i := 156) (by rfl) rfl
set_option maxRecDepth 100000 in
theorem cc_X5_init : Cond.code yX5_init cX5_init 1 none ∈ aGW := aGW_of (i := 48) (by rfl) rfl
set_option maxRecDepth 100000 in
theorem cc_X6_init : Cond.code yX6_init cX6_init 2 none ∈ aGW := aGW_of (i := 508) (by rfl) rfl
def lMT : List (Nat × Nat × Nat × Nat) := [(9, 13, 27, 0), (9, 17, 66, 0), (9, 18, 28, 0), (9, 22, 67, 0), (9, 23, 29, 0), (9, 26, 68, 0), (9, 27, 30, 0), (9, 30, 69, 0), (9, 31, 31, 0), (9, 35, 70, 0), (9, 36, 32, 0), (9, 40, 71, 0), (9, 41, 33, 0), (9, 44, 74, 0), (9, 45, 34, 0), (9, 49, 84, 0), (9, 50, 35, 0), (9, 54, 85, 0), (9, 55, 36, 0), (9, 58, 86, 0), (9, 59, 37, 0), (9, 62, 88, 0), (9, 63, 38, 0), (9, 66, 89, 0), (9, 67, 39, 0), (9, 70, 90, 0), (9, 71, 40, 0), (9, 75, 92, 0), (9, 76, 41, 0), (9, 80, 93, 0), (9, 81, 42, 0), (9, 84, 95, 0), (9, 85, 43, 0), (9, 88, 96, 0), (9, 89, 44, 0), (9, 92, 98, 0), (9, 93, 45, 0), (9, 96, 99, 0), (9, 97, 46, 0), (9, 100, 100, 0), (9, 101, 47, 0), (9, 104, 101, 0), (9, 105, 48, 0), (9, 108, 102, 0)]
def lMTp : List (List Nat) := [[34, 229, 230, 231], [41, 615, 616, 617], [34, 248, 249, 250], [41, 625, 626, 627], [34, 253, 254, 255], [41, 629, 630, 631], [34, 257, 258, 259], [41, 633, 634, 635], [34, 261, 262, 263], [41, 637, 638, 639], [34, 265, 266, 267], [41, 641, 642, 643], [34, 269, 270, 271], [41, 645, 646, 647], [34, 302, 303, 304], [41, 661, 662, 663], [34, 392, 393, 394], [41, 703, 704, 705], [34, 400, 401, 402], [41, 707, 708, 709], [34, 405, 406, 407], [41, 711, 712, 713], [34, 414, 415, 416], [41, 719, 720, 721], [34, 422, 423, 424], [41, 723, 724, 725], [34, 428, 429, 430], [41, 727, 728, 729], [34, 436, 437, 438], [41, 735, 736, 737], [34, 445, 446, 447], [41, 739, 740, 741], [34, 462, 463, 464], [41, 747, 748, 749], [34, 466, 467, 468], [41, 751, 752, 753], [34, 474, 475, 476], [41, 759, 760, 761], [34, 478, 479, 480], [41, 763, 764, 765], [34, 486, 487, 488], [41, 767, 768, 769], [34, 495, 496, 497], [41, 771, 772, 773]]
set_option maxRecDepth 100000 in
theorem lMT_pos : lMTp.map (fun ps => ps.map (fun i => lw_tbl[i]?)) = lMT.map (fun q => (needM q).map some) := by decide +kernel
set_option maxRecDepth 100000 in
theorem lMT_side : lMT.all (fun q => decide (q.2.2.2 = 0) && decide ((mNm q.2.2.1).cls = cNm (mOwn q.2.2.1)) && decide ((mNm q.2.2.1).cls ≠ "java/lang/invoke/MethodHandle") && decide ((mNm q.2.2.1).cls ≠ "java/lang/invoke/VarHandle") && decide (mMax q.2.2.1 ≤ 60) && decide (mOwn q.2.2.1 < 7) && decide (q.2.2.1 < mT.length) && decide (cNm q.1 = RL)) = true := by decide +kernel
theorem lMT_link {o n y kd : Nat} (h : (o, n, y, kd) ∈ lMT) : Cond.code (mNm y) (mCode y) (mMax y) (mRet y) ∈ aGW ∧ Cond.initialized (mNm y).cls ∈ aGW ∧ ((mNm y).cls = cNm (mOwn y) ∧ (mNm y).cls ≠ "java/lang/invoke/MethodHandle" ∧ (mNm y).cls ≠ "java/lang/invoke/VarHandle" ∧ mMax y ≤ 60 ∧ mOwn y < 7) ∧ Cond.methodLink RL n (mNm y) ∈ aGW ∧ Cond.instanceMethod (mNm y) ∈ aGW ∧ Cond.selects (mNm y).cls (mNm y) (mNm y) ∈ aGW := by
  have h1 := List.all_eq_true.mp lMT_side _ h
  simp only [Bool.and_eq_true, decide_eq_true_eq] at h1
  obtain ⟨⟨⟨⟨⟨⟨⟨a0, a1⟩, a2⟩, a3⟩, a4⟩, a5⟩, a6⟩, a7⟩ := h1
  have g : ∀ x ∈ needM (o, n, y, kd), ∃ i : Nat, lw_tbl[i]? = some x := fun x hx => pos_mem2 lMT_pos h hx
  subst a0
  obtain ⟨i0, hi0⟩ := g (.initialized (mNm y).cls) (by simp [needM])
  obtain ⟨i1, hi1⟩ := g (.methodLink (cNm o) n (mNm y)) (by simp [needM])
  obtain ⟨i2, hi2⟩ := g (.instanceMethod (mNm y)) (by simp [needM])
  obtain ⟨i3, hi3⟩ := g (.selects (mNm y).cls (mNm y) (mNm y)) (by simp [needM])
  rw [a7] at hi1
  exact ⟨aMC_code a6, aGW_of hi0 rfl, ⟨a1, a2, a3, a4, a5⟩, aGW_of hi1 rfl, aGW_of hi2 rfl, aGW_of hi3 rfl⟩
