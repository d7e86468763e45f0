/-! ===== every method's blocks are its bytes; the step of each block ===== -/
set_option maxRecDepth 100000 in
theorem chk_X0_isPlace : chkM 0 = true := by decide +kernel
set_option maxRecDepth 100000 in
theorem own_X0_isPlace : ((mNm 0).cls = cNm (mOwn 0) ∧ plainName (mNm 0).cls = true) ∧ mMax 0 = 2 := by decide +kernel
theorem st_X0_isPlace_0 {D : Nat} {Q : APost} {ls : AL} {st : List AV} {m : AM} (h : exP (aCC D) D true (AW D 0 Q) Q bX0_isPlace_0 ls st m) : AW D 0 Q 0 ls st m := AW_step chk_X0_isPlace h
theorem st_X0_isPlace_4 {D : Nat} {Q : APost} {ls : AL} {st : List AV} {m : AM} (h : exP (aCC D) D true (AW D 0 Q) Q bX0_isPlace_4 ls st m) : AW D 0 Q 4 ls st m := AW_step chk_X0_isPlace h
theorem st_X0_isPlace_10 {D : Nat} {Q : APost} {ls : AL} {st : List AV} {m : AM} (h : exP (aCC D) D true (AW D 0 Q) Q bX0_isPlace_10 ls st m) : AW D 0 Q 10 ls st m := AW_step chk_X0_isPlace h
theorem st_X0_isPlace_14 {D : Nat} {Q : APost} {ls : AL} {st : List AV} {m : AM} (h : exP (aCC D) D true (AW D 0 Q) Q bX0_isPlace_14 ls st m) : AW D 0 Q 14 ls st m := AW_step chk_X0_isPlace h
theorem st_X0_isPlace_19 {D : Nat} {Q : APost} {ls : AL} {st : List AV} {m : AM} (h : exP (aCC D) D true (AW D 0 Q) Q bX0_isPlace_19 ls st m) : AW D 0 Q 19 ls st m := AW_step chk_X0_isPlace h
theorem st_X0_isPlace_23 {D : Nat} {Q : APost} {ls : AL} {st : List AV} {m : AM} (h : exP (aCC D) D true (AW D 0 Q) Q bX0_isPlace_23 ls st m) : AW D 0 Q 23 ls st m := AW_step chk_X0_isPlace h
theorem st_X0_isPlace_24 {D : Nat} {Q : APost} {ls : AL} {st : List AV} {m : AM} (h : exP (aCC D) D true (AW D 0 Q) Q bX0_isPlace_24 ls st m) : AW D 0 Q 24 ls st m := AW_step chk_X0_isPlace h
set_option maxRecDepth 100000 in
theorem chk_X0_of : chkM 1 = true := by decide +kernel
set_option maxRecDepth 100000 in
theorem own_X0_of : ((mNm 1).cls = cNm (mOwn 1) ∧ plainName (mNm 1).cls = true) ∧ mMax 1 = 3 := by decide +kernel
theorem st_X0_of_0 {D : Nat} {Q : APost} {ls : AL} {st : List AV} {m : AM} (h : exP (aCC D) D false (AW D 1 Q) Q bX0_of_0 ls st m) : AW D 1 Q 0 ls st m := AW_step chk_X0_of h
theorem st_X0_of_8 {D : Nat} {Q : APost} {ls : AL} {st : List AV} {m : AM} (h : exP (aCC D) D false (AW D 1 Q) Q bX0_of_8 ls st m) : AW D 1 Q 8 ls st m := AW_step chk_X0_of h
theorem st_X0_of_22 {D : Nat} {Q : APost} {ls : AL} {st : List AV} {m : AM} (h : exP (aCC D) D false (AW D 1 Q) Q bX0_of_22 ls st m) : AW D 1 Q 22 ls st m := AW_step chk_X0_of h
theorem st_X0_of_23 {D : Nat} {Q : APost} {ls : AL} {st : List AV} {m : AM} (h : exP (aCC D) D false (AW D 1 Q) Q bX0_of_23 ls st m) : AW D 1 Q 23 ls st m := AW_step chk_X0_of h
set_option maxRecDepth 100000 in
theorem chk_X0_many : chkM 2 = true := by decide +kernel
set_option maxRecDepth 100000 in
theorem own_X0_many : ((mNm 2).cls = cNm (mOwn 2) ∧ plainName (mNm 2).cls = true) ∧ mMax 2 = 4 := by decide +kernel
theorem st_X0_many_0 {D : Nat} {Q : APost} {ls : AL} {st : List AV} {m : AM} (h : exP (aCC D) D false (AW D 2 Q) Q bX0_many_0 ls st m) : AW D 2 Q 0 ls st m := AW_step chk_X0_many h
theorem st_X0_many_4 {D : Nat} {Q : APost} {ls : AL} {st : List AV} {m : AM} (h : exP (aCC D) D false (AW D 2 Q) Q bX0_many_4 ls st m) : AW D 2 Q 4 ls st m := AW_step chk_X0_many h
theorem st_X0_many_9 {D : Nat} {Q : APost} {ls : AL} {st : List AV} {m : AM} (h : exP (aCC D) D false (AW D 2 Q) Q bX0_many_9 ls st m) : AW D 2 Q 9 ls st m := AW_step chk_X0_many h
theorem st_X0_many_27 {D : Nat} {Q : APost} {ls : AL} {st : List AV} {m : AM} (h : exP (aCC D) D false (AW D 2 Q) Q bX0_many_27 ls st m) : AW D 2 Q 27 ls st m := AW_step chk_X0_many h
set_option maxRecDepth 100000 in
theorem chk_X0_put : chkM 3 = true := by decide +kernel
set_option maxRecDepth 100000 in
theorem own_X0_put : ((mNm 3).cls = cNm (mOwn 3) ∧ plainName (mNm 3).cls = true) ∧ mMax 3 = 4 := by decide +kernel
theorem st_X0_put_0 {D : Nat} {Q : APost} {ls : AL} {st : List AV} {m : AM} (h : exP (aCC D) D true (AW D 3 Q) Q bX0_put_0 ls st m) : AW D 3 Q 0 ls st m := AW_step chk_X0_put h
theorem st_X0_put_8 {D : Nat} {Q : APost} {ls : AL} {st : List AV} {m : AM} (h : exP (aCC D) D true (AW D 3 Q) Q bX0_put_8 ls st m) : AW D 3 Q 8 ls st m := AW_step chk_X0_put h
theorem st_X0_put_21 {D : Nat} {Q : APost} {ls : AL} {st : List AV} {m : AM} (h : exP (aCC D) D true (AW D 3 Q) Q bX0_put_21 ls st m) : AW D 3 Q 21 ls st m := AW_step chk_X0_put h
theorem st_X0_put_31 {D : Nat} {Q : APost} {ls : AL} {st : List AV} {m : AM} (h : exP (aCC D) D true (AW D 3 Q) Q bX0_put_31 ls st m) : AW D 3 Q 31 ls st m := AW_step chk_X0_put h
theorem st_X0_put_33 {D : Nat} {Q : APost} {ls : AL} {st : List AV} {m : AM} (h : exP (aCC D) D true (AW D 3 Q) Q bX0_put_33 ls st m) : AW D 3 Q 33 ls st m := AW_step chk_X0_put h
set_option maxRecDepth 100000 in
theorem chk_X0_sharingHand : chkM 4 = true := by decide +kernel
set_option maxRecDepth 100000 in
theorem own_X0_sharingHand : ((mNm 4).cls = cNm (mOwn 4) ∧ plainName (mNm 4).cls = true) ∧ mMax 4 = 4 := by decide +kernel
theorem st_X0_sharingHand_0 {D : Nat} {Q : APost} {ls : AL} {st : List AV} {m : AM} (h : exP (aCC D) D false (AW D 4 Q) Q bX0_sharingHand_0 ls st m) : AW D 4 Q 0 ls st m := AW_step chk_X0_sharingHand h
theorem st_X0_sharingHand_4 {D : Nat} {Q : APost} {ls : AL} {st : List AV} {m : AM} (h : exP (aCC D) D false (AW D 4 Q) Q bX0_sharingHand_4 ls st m) : AW D 4 Q 4 ls st m := AW_step chk_X0_sharingHand h
theorem st_X0_sharingHand_10 {D : Nat} {Q : APost} {ls : AL} {st : List AV} {m : AM} (h : exP (aCC D) D false (AW D 4 Q) Q bX0_sharingHand_10 ls st m) : AW D 4 Q 10 ls st m := AW_step chk_X0_sharingHand h
theorem st_X0_sharingHand_15 {D : Nat} {Q : APost} {ls : AL} {st : List AV} {m : AM} (h : exP (aCC D) D false (AW D 4 Q) Q bX0_sharingHand_15 ls st m) : AW D 4 Q 15 ls st m := AW_step chk_X0_sharingHand h
theorem st_X0_sharingHand_31 {D : Nat} {Q : APost} {ls : AL} {st : List AV} {m : AM} (h : exP (aCC D) D false (AW D 4 Q) Q bX0_sharingHand_31 ls st m) : AW D 4 Q 31 ls st m := AW_step chk_X0_sharingHand h
theorem st_X0_sharingHand_37 {D : Nat} {Q : APost} {ls : AL} {st : List AV} {m : AM} (h : exP (aCC D) D false (AW D 4 Q) Q bX0_sharingHand_37 ls st m) : AW D 4 Q 37 ls st m := AW_step chk_X0_sharingHand h
theorem st_X0_sharingHand_43 {D : Nat} {Q : APost} {ls : AL} {st : List AV} {m : AM} (h : exP (aCC D) D false (AW D 4 Q) Q bX0_sharingHand_43 ls st m) : AW D 4 Q 43 ls st m := AW_step chk_X0_sharingHand h
set_option maxRecDepth 100000 in
theorem chk_X1_lightest : chkM 5 = true := by decide +kernel
set_option maxRecDepth 100000 in
theorem own_X1_lightest : ((mNm 5).cls = cNm (mOwn 5) ∧ plainName (mNm 5).cls = true) ∧ mMax 5 = 2 := by decide +kernel
theorem st_X1_lightest_0 {D : Nat} {Q : APost} {ls : AL} {st : List AV} {m : AM} (h : exP (aCC D) D false (AW D 5 Q) Q bX1_lightest_0 ls st m) : AW D 5 Q 0 ls st m := AW_step chk_X1_lightest h
set_option maxRecDepth 100000 in
theorem chk_X1_weigh : chkM 6 = true := by decide +kernel
set_option maxRecDepth 100000 in
theorem own_X1_weigh : ((mNm 6).cls = cNm (mOwn 6) ∧ plainName (mNm 6).cls = true) ∧ mMax 6 = 4 := by decide +kernel
theorem st_X1_weigh_0 {D : Nat} {Q : APost} {ls : AL} {st : List AV} {m : AM} (h : exP (aCC D) D false (AW D 6 Q) Q bX1_weigh_0 ls st m) : AW D 6 Q 0 ls st m := AW_step chk_X1_weigh h
theorem st_X1_weigh_4 {D : Nat} {Q : APost} {ls : AL} {st : List AV} {m : AM} (h : exP (aCC D) D false (AW D 6 Q) Q bX1_weigh_4 ls st m) : AW D 6 Q 4 ls st m := AW_step chk_X1_weigh h
theorem st_X1_weigh_10 {D : Nat} {Q : APost} {ls : AL} {st : List AV} {m : AM} (h : exP (aCC D) D false (AW D 6 Q) Q bX1_weigh_10 ls st m) : AW D 6 Q 10 ls st m := AW_step chk_X1_weigh h
theorem st_X1_weigh_18 {D : Nat} {Q : APost} {ls : AL} {st : List AV} {m : AM} (h : exP (aCC D) D false (AW D 6 Q) Q bX1_weigh_18 ls st m) : AW D 6 Q 18 ls st m := AW_step chk_X1_weigh h
theorem st_X1_weigh_27 {D : Nat} {Q : APost} {ls : AL} {st : List AV} {m : AM} (h : exP (aCC D) D false (AW D 6 Q) Q bX1_weigh_27 ls st m) : AW D 6 Q 27 ls st m := AW_step chk_X1_weigh h
theorem st_X1_weigh_33 {D : Nat} {Q : APost} {ls : AL} {st : List AV} {m : AM} (h : exP (aCC D) D false (AW D 6 Q) Q bX1_weigh_33 ls st m) : AW D 6 Q 33 ls st m := AW_step chk_X1_weigh h
set_option maxRecDepth 100000 in
theorem chk_X1_forge : chkM 7 = true := by decide +kernel
set_option maxRecDepth 100000 in
theorem own_X1_forge : ((mNm 7).cls = cNm (mOwn 7) ∧ plainName (mNm 7).cls = true) ∧ mMax 7 = 9 := by decide +kernel
theorem st_X1_forge_0 {D : Nat} {Q : APost} {ls : AL} {st : List AV} {m : AM} (h : exP (aCC D) D false (AW D 7 Q) Q bX1_forge_0 ls st m) : AW D 7 Q 0 ls st m := AW_step chk_X1_forge h
theorem st_X1_forge_7 {D : Nat} {Q : APost} {ls : AL} {st : List AV} {m : AM} (h : exP (aCC D) D false (AW D 7 Q) Q bX1_forge_7 ls st m) : AW D 7 Q 7 ls st m := AW_step chk_X1_forge h
theorem st_X1_forge_19 {D : Nat} {Q : APost} {ls : AL} {st : List AV} {m : AM} (h : exP (aCC D) D false (AW D 7 Q) Q bX1_forge_19 ls st m) : AW D 7 Q 19 ls st m := AW_step chk_X1_forge h
theorem st_X1_forge_20 {D : Nat} {Q : APost} {ls : AL} {st : List AV} {m : AM} (h : exP (aCC D) D false (AW D 7 Q) Q bX1_forge_20 ls st m) : AW D 7 Q 20 ls st m := AW_step chk_X1_forge h
theorem st_X1_forge_35 {D : Nat} {Q : APost} {ls : AL} {st : List AV} {m : AM} (h : exP (aCC D) D false (AW D 7 Q) Q bX1_forge_35 ls st m) : AW D 7 Q 35 ls st m := AW_step chk_X1_forge h
theorem st_X1_forge_41 {D : Nat} {Q : APost} {ls : AL} {st : List AV} {m : AM} (h : exP (aCC D) D false (AW D 7 Q) Q bX1_forge_41 ls st m) : AW D 7 Q 41 ls st m := AW_step chk_X1_forge h
theorem st_X1_forge_47 {D : Nat} {Q : APost} {ls : AL} {st : List AV} {m : AM} (h : exP (aCC D) D false (AW D 7 Q) Q bX1_forge_47 ls st m) : AW D 7 Q 47 ls st m := AW_step chk_X1_forge h
theorem st_X1_forge_54 {D : Nat} {Q : APost} {ls : AL} {st : List AV} {m : AM} (h : exP (aCC D) D false (AW D 7 Q) Q bX1_forge_54 ls st m) : AW D 7 Q 54 ls st m := AW_step chk_X1_forge h
theorem st_X1_forge_73 {D : Nat} {Q : APost} {ls : AL} {st : List AV} {m : AM} (h : exP (aCC D) D false (AW D 7 Q) Q bX1_forge_73 ls st m) : AW D 7 Q 73 ls st m := AW_step chk_X1_forge h
theorem st_X1_forge_100 {D : Nat} {Q : APost} {ls : AL} {st : List AV} {m : AM} (h : exP (aCC D) D false (AW D 7 Q) Q bX1_forge_100 ls st m) : AW D 7 Q 100 ls st m := AW_step chk_X1_forge h
theorem st_X1_forge_106 {D : Nat} {Q : APost} {ls : AL} {st : List AV} {m : AM} (h : exP (aCC D) D false (AW D 7 Q) Q bX1_forge_106 ls st m) : AW D 7 Q 106 ls st m := AW_step chk_X1_forge h
set_option maxRecDepth 100000 in
theorem chk_X1_keepBetter : chkM 8 = true := by decide +kernel
set_option maxRecDepth 100000 in
theorem own_X1_keepBetter : ((mNm 8).cls = cNm (mOwn 8) ∧ plainName (mNm 8).cls = true) ∧ mMax 8 = 3 := by decide +kernel
theorem st_X1_keepBetter_0 {D : Nat} {Q : APost} {ls : AL} {st : List AV} {m : AM} (h : exP (aCC D) D false (AW D 8 Q) Q bX1_keepBetter_0 ls st m) : AW D 8 Q 0 ls st m := AW_step chk_X1_keepBetter h
theorem st_X1_keepBetter_17 {D : Nat} {Q : APost} {ls : AL} {st : List AV} {m : AM} (h : exP (aCC D) D false (AW D 8 Q) Q bX1_keepBetter_17 ls st m) : AW D 8 Q 17 ls st m := AW_step chk_X1_keepBetter h
theorem st_X1_keepBetter_32 {D : Nat} {Q : APost} {ls : AL} {st : List AV} {m : AM} (h : exP (aCC D) D false (AW D 8 Q) Q bX1_keepBetter_32 ls st m) : AW D 8 Q 32 ls st m := AW_step chk_X1_keepBetter h
theorem st_X1_keepBetter_36 {D : Nat} {Q : APost} {ls : AL} {st : List AV} {m : AM} (h : exP (aCC D) D false (AW D 8 Q) Q bX1_keepBetter_36 ls st m) : AW D 8 Q 36 ls st m := AW_step chk_X1_keepBetter h
theorem st_X1_keepBetter_40 {D : Nat} {Q : APost} {ls : AL} {st : List AV} {m : AM} (h : exP (aCC D) D false (AW D 8 Q) Q bX1_keepBetter_40 ls st m) : AW D 8 Q 40 ls st m := AW_step chk_X1_keepBetter h
theorem st_X1_keepBetter_48 {D : Nat} {Q : APost} {ls : AL} {st : List AV} {m : AM} (h : exP (aCC D) D false (AW D 8 Q) Q bX1_keepBetter_48 ls st m) : AW D 8 Q 48 ls st m := AW_step chk_X1_keepBetter h
theorem st_X1_keepBetter_62 {D : Nat} {Q : APost} {ls : AL} {st : List AV} {m : AM} (h : exP (aCC D) D false (AW D 8 Q) Q bX1_keepBetter_62 ls st m) : AW D 8 Q 62 ls st m := AW_step chk_X1_keepBetter h
set_option maxRecDepth 100000 in
theorem chk_X2_areYears : chkM 9 = true := by decide +kernel
set_option maxRecDepth 100000 in
theorem own_X2_areYears : ((mNm 9).cls = cNm (mOwn 9) ∧ plainName (mNm 9).cls = true) ∧ mMax 9 = 2 := by decide +kernel
theorem st_X2_areYears_0 {D : Nat} {Q : APost} {ls : AL} {st : List AV} {m : AM} (h : exP (aCC D) D true (AW D 9 Q) Q bX2_areYears_0 ls st m) : AW D 9 Q 0 ls st m := AW_step chk_X2_areYears h
theorem st_X2_areYears_4 {D : Nat} {Q : APost} {ls : AL} {st : List AV} {m : AM} (h : exP (aCC D) D true (AW D 9 Q) Q bX2_areYears_4 ls st m) : AW D 9 Q 4 ls st m := AW_step chk_X2_areYears h
theorem st_X2_areYears_9 {D : Nat} {Q : APost} {ls : AL} {st : List AV} {m : AM} (h : exP (aCC D) D true (AW D 9 Q) Q bX2_areYears_9 ls st m) : AW D 9 Q 9 ls st m := AW_step chk_X2_areYears h
theorem st_X2_areYears_16 {D : Nat} {Q : APost} {ls : AL} {st : List AV} {m : AM} (h : exP (aCC D) D true (AW D 9 Q) Q bX2_areYears_16 ls st m) : AW D 9 Q 16 ls st m := AW_step chk_X2_areYears h
theorem st_X2_areYears_20 {D : Nat} {Q : APost} {ls : AL} {st : List AV} {m : AM} (h : exP (aCC D) D true (AW D 9 Q) Q bX2_areYears_20 ls st m) : AW D 9 Q 20 ls st m := AW_step chk_X2_areYears h
theorem st_X2_areYears_21 {D : Nat} {Q : APost} {ls : AL} {st : List AV} {m : AM} (h : exP (aCC D) D true (AW D 9 Q) Q bX2_areYears_21 ls st m) : AW D 9 Q 21 ls st m := AW_step chk_X2_areYears h
set_option maxRecDepth 100000 in
theorem chk_X2_has : chkM 10 = true := by decide +kernel
set_option maxRecDepth 100000 in
theorem own_X2_has : ((mNm 10).cls = cNm (mOwn 10) ∧ plainName (mNm 10).cls = true) ∧ mMax 10 = 2 := by decide +kernel
theorem st_X2_has_0 {D : Nat} {Q : APost} {ls : AL} {st : List AV} {m : AM} (h : exP (aCC D) D true (AW D 10 Q) Q bX2_has_0 ls st m) : AW D 10 Q 0 ls st m := AW_step chk_X2_has h
theorem st_X2_has_4 {D : Nat} {Q : APost} {ls : AL} {st : List AV} {m : AM} (h : exP (aCC D) D true (AW D 10 Q) Q bX2_has_4 ls st m) : AW D 10 Q 4 ls st m := AW_step chk_X2_has h
theorem st_X2_has_12 {D : Nat} {Q : APost} {ls : AL} {st : List AV} {m : AM} (h : exP (aCC D) D true (AW D 10 Q) Q bX2_has_12 ls st m) : AW D 10 Q 12 ls st m := AW_step chk_X2_has h
theorem st_X2_has_21 {D : Nat} {Q : APost} {ls : AL} {st : List AV} {m : AM} (h : exP (aCC D) D true (AW D 10 Q) Q bX2_has_21 ls st m) : AW D 10 Q 21 ls st m := AW_step chk_X2_has h
theorem st_X2_has_30 {D : Nat} {Q : APost} {ls : AL} {st : List AV} {m : AM} (h : exP (aCC D) D true (AW D 10 Q) Q bX2_has_30 ls st m) : AW D 10 Q 30 ls st m := AW_step chk_X2_has h
theorem st_X2_has_34 {D : Nat} {Q : APost} {ls : AL} {st : List AV} {m : AM} (h : exP (aCC D) D true (AW D 10 Q) Q bX2_has_34 ls st m) : AW D 10 Q 34 ls st m := AW_step chk_X2_has h
theorem st_X2_has_35 {D : Nat} {Q : APost} {ls : AL} {st : List AV} {m : AM} (h : exP (aCC D) D true (AW D 10 Q) Q bX2_has_35 ls st m) : AW D 10 Q 35 ls st m := AW_step chk_X2_has h
set_option maxRecDepth 100000 in
theorem chk_X2_add : chkM 11 = true := by decide +kernel
set_option maxRecDepth 100000 in
theorem own_X2_add : ((mNm 11).cls = cNm (mOwn 11) ∧ plainName (mNm 11).cls = true) ∧ mMax 11 = 3 := by decide +kernel
theorem st_X2_add_0 {D : Nat} {Q : APost} {ls : AL} {st : List AV} {m : AM} (h : exP (aCC D) D false (AW D 11 Q) Q bX2_add_0 ls st m) : AW D 11 Q 0 ls st m := AW_step chk_X2_add h
theorem st_X2_add_8 {D : Nat} {Q : APost} {ls : AL} {st : List AV} {m : AM} (h : exP (aCC D) D false (AW D 11 Q) Q bX2_add_8 ls st m) : AW D 11 Q 8 ls st m := AW_step chk_X2_add h
theorem st_X2_add_20 {D : Nat} {Q : APost} {ls : AL} {st : List AV} {m : AM} (h : exP (aCC D) D false (AW D 11 Q) Q bX2_add_20 ls st m) : AW D 11 Q 20 ls st m := AW_step chk_X2_add h
theorem st_X2_add_22 {D : Nat} {Q : APost} {ls : AL} {st : List AV} {m : AM} (h : exP (aCC D) D false (AW D 11 Q) Q bX2_add_22 ls st m) : AW D 11 Q 22 ls st m := AW_step chk_X2_add h
set_option maxRecDepth 100000 in
theorem chk_X2_change : chkM 12 = true := by decide +kernel
set_option maxRecDepth 100000 in
theorem own_X2_change : ((mNm 12).cls = cNm (mOwn 12) ∧ plainName (mNm 12).cls = true) ∧ mMax 12 = 4 := by decide +kernel
theorem st_X2_change_0 {D : Nat} {Q : APost} {ls : AL} {st : List AV} {m : AM} (h : exP (aCC D) D true (AW D 12 Q) Q bX2_change_0 ls st m) : AW D 12 Q 0 ls st m := AW_step chk_X2_change h
theorem st_X2_change_8 {D : Nat} {Q : APost} {ls : AL} {st : List AV} {m : AM} (h : exP (aCC D) D true (AW D 12 Q) Q bX2_change_8 ls st m) : AW D 12 Q 8 ls st m := AW_step chk_X2_change h
theorem st_X2_change_16 {D : Nat} {Q : APost} {ls : AL} {st : List AV} {m : AM} (h : exP (aCC D) D true (AW D 12 Q) Q bX2_change_16 ls st m) : AW D 12 Q 16 ls st m := AW_step chk_X2_change h
theorem st_X2_change_18 {D : Nat} {Q : APost} {ls : AL} {st : List AV} {m : AM} (h : exP (aCC D) D true (AW D 12 Q) Q bX2_change_18 ls st m) : AW D 12 Q 18 ls st m := AW_step chk_X2_change h
set_option maxRecDepth 100000 in
theorem chk_X2_latestStart : chkM 13 = true := by decide +kernel
set_option maxRecDepth 100000 in
theorem own_X2_latestStart : ((mNm 13).cls = cNm (mOwn 13) ∧ plainName (mNm 13).cls = true) ∧ mMax 13 = 5 := by decide +kernel
theorem st_X2_latestStart_0 {D : Nat} {Q : APost} {ls : AL} {st : List AV} {m : AM} (h : exP (aCC D) D false (AW D 13 Q) Q bX2_latestStart_0 ls st m) : AW D 13 Q 0 ls st m := AW_step chk_X2_latestStart h
theorem st_X2_latestStart_5 {D : Nat} {Q : APost} {ls : AL} {st : List AV} {m : AM} (h : exP (aCC D) D false (AW D 13 Q) Q bX2_latestStart_5 ls st m) : AW D 13 Q 5 ls st m := AW_step chk_X2_latestStart h
theorem st_X2_latestStart_15 {D : Nat} {Q : APost} {ls : AL} {st : List AV} {m : AM} (h : exP (aCC D) D false (AW D 13 Q) Q bX2_latestStart_15 ls st m) : AW D 13 Q 15 ls st m := AW_step chk_X2_latestStart h
theorem st_X2_latestStart_24 {D : Nat} {Q : APost} {ls : AL} {st : List AV} {m : AM} (h : exP (aCC D) D false (AW D 13 Q) Q bX2_latestStart_24 ls st m) : AW D 13 Q 24 ls st m := AW_step chk_X2_latestStart h
theorem st_X2_latestStart_36 {D : Nat} {Q : APost} {ls : AL} {st : List AV} {m : AM} (h : exP (aCC D) D false (AW D 13 Q) Q bX2_latestStart_36 ls st m) : AW D 13 Q 36 ls st m := AW_step chk_X2_latestStart h
theorem st_X2_latestStart_42 {D : Nat} {Q : APost} {ls : AL} {st : List AV} {m : AM} (h : exP (aCC D) D false (AW D 13 Q) Q bX2_latestStart_42 ls st m) : AW D 13 Q 42 ls st m := AW_step chk_X2_latestStart h
set_option maxRecDepth 100000 in
theorem chk_X2_earliestEnd : chkM 14 = true := by decide +kernel
set_option maxRecDepth 100000 in
theorem own_X2_earliestEnd : ((mNm 14).cls = cNm (mOwn 14) ∧ plainName (mNm 14).cls = true) ∧ mMax 14 = 5 := by decide +kernel
theorem st_X2_earliestEnd_0 {D : Nat} {Q : APost} {ls : AL} {st : List AV} {m : AM} (h : exP (aCC D) D false (AW D 14 Q) Q bX2_earliestEnd_0 ls st m) : AW D 14 Q 0 ls st m := AW_step chk_X2_earliestEnd h
theorem st_X2_earliestEnd_5 {D : Nat} {Q : APost} {ls : AL} {st : List AV} {m : AM} (h : exP (aCC D) D false (AW D 14 Q) Q bX2_earliestEnd_5 ls st m) : AW D 14 Q 5 ls st m := AW_step chk_X2_earliestEnd h
theorem st_X2_earliestEnd_15 {D : Nat} {Q : APost} {ls : AL} {st : List AV} {m : AM} (h : exP (aCC D) D false (AW D 14 Q) Q bX2_earliestEnd_15 ls st m) : AW D 14 Q 15 ls st m := AW_step chk_X2_earliestEnd h
theorem st_X2_earliestEnd_24 {D : Nat} {Q : APost} {ls : AL} {st : List AV} {m : AM} (h : exP (aCC D) D false (AW D 14 Q) Q bX2_earliestEnd_24 ls st m) : AW D 14 Q 24 ls st m := AW_step chk_X2_earliestEnd h
theorem st_X2_earliestEnd_36 {D : Nat} {Q : APost} {ls : AL} {st : List AV} {m : AM} (h : exP (aCC D) D false (AW D 14 Q) Q bX2_earliestEnd_36 ls st m) : AW D 14 Q 36 ls st m := AW_step chk_X2_earliestEnd h
theorem st_X2_earliestEnd_42 {D : Nat} {Q : APost} {ls : AL} {st : List AV} {m : AM} (h : exP (aCC D) D false (AW D 14 Q) Q bX2_earliestEnd_42 ls st m) : AW D 14 Q 42 ls st m := AW_step chk_X2_earliestEnd h
set_option maxRecDepth 100000 in
theorem chk_X3_roundsToBreak : chkM 15 = true := by decide +kernel
set_option maxRecDepth 100000 in
theorem own_X3_roundsToBreak : ((mNm 15).cls = cNm (mOwn 15) ∧ plainName (mNm 15).cls = true) ∧ mMax 15 = 3 := by decide +kernel
theorem st_X3_roundsToBreak_0 {D : Nat} {Q : APost} {ls : AL} {st : List AV} {m : AM} (h : exP (aCC D) D false (AW D 15 Q) Q bX3_roundsToBreak_0 ls st m) : AW D 15 Q 0 ls st m := AW_step chk_X3_roundsToBreak h
theorem st_X3_roundsToBreak_2 {D : Nat} {Q : APost} {ls : AL} {st : List AV} {m : AM} (h : exP (aCC D) D false (AW D 15 Q) Q bX3_roundsToBreak_2 ls st m) : AW D 15 Q 2 ls st m := AW_step chk_X3_roundsToBreak h
theorem st_X3_roundsToBreak_8 {D : Nat} {Q : APost} {ls : AL} {st : List AV} {m : AM} (h : exP (aCC D) D false (AW D 15 Q) Q bX3_roundsToBreak_8 ls st m) : AW D 15 Q 8 ls st m := AW_step chk_X3_roundsToBreak h
theorem st_X3_roundsToBreak_33 {D : Nat} {Q : APost} {ls : AL} {st : List AV} {m : AM} (h : exP (aCC D) D false (AW D 15 Q) Q bX3_roundsToBreak_33 ls st m) : AW D 15 Q 33 ls st m := AW_step chk_X3_roundsToBreak h
theorem st_X3_roundsToBreak_35 {D : Nat} {Q : APost} {ls : AL} {st : List AV} {m : AM} (h : exP (aCC D) D false (AW D 15 Q) Q bX3_roundsToBreak_35 ls st m) : AW D 15 Q 35 ls st m := AW_step chk_X3_roundsToBreak h
theorem st_X3_roundsToBreak_41 {D : Nat} {Q : APost} {ls : AL} {st : List AV} {m : AM} (h : exP (aCC D) D false (AW D 15 Q) Q bX3_roundsToBreak_41 ls st m) : AW D 15 Q 41 ls st m := AW_step chk_X3_roundsToBreak h
theorem st_X3_roundsToBreak_58 {D : Nat} {Q : APost} {ls : AL} {st : List AV} {m : AM} (h : exP (aCC D) D false (AW D 15 Q) Q bX3_roundsToBreak_58 ls st m) : AW D 15 Q 58 ls st m := AW_step chk_X3_roundsToBreak h
theorem st_X3_roundsToBreak_60 {D : Nat} {Q : APost} {ls : AL} {st : List AV} {m : AM} (h : exP (aCC D) D false (AW D 15 Q) Q bX3_roundsToBreak_60 ls st m) : AW D 15 Q 60 ls st m := AW_step chk_X3_roundsToBreak h
theorem st_X3_roundsToBreak_68 {D : Nat} {Q : APost} {ls : AL} {st : List AV} {m : AM} (h : exP (aCC D) D false (AW D 15 Q) Q bX3_roundsToBreak_68 ls st m) : AW D 15 Q 68 ls st m := AW_step chk_X3_roundsToBreak h
theorem st_X3_roundsToBreak_70 {D : Nat} {Q : APost} {ls : AL} {st : List AV} {m : AM} (h : exP (aCC D) D false (AW D 15 Q) Q bX3_roundsToBreak_70 ls st m) : AW D 15 Q 70 ls st m := AW_step chk_X3_roundsToBreak h
theorem st_X3_roundsToBreak_76 {D : Nat} {Q : APost} {ls : AL} {st : List AV} {m : AM} (h : exP (aCC D) D false (AW D 15 Q) Q bX3_roundsToBreak_76 ls st m) : AW D 15 Q 76 ls st m := AW_step chk_X3_roundsToBreak h
set_option maxRecDepth 100000 in
theorem chk_X3_firstBroken : chkM 16 = true := by decide +kernel
set_option maxRecDepth 100000 in
theorem own_X3_firstBroken : ((mNm 16).cls = cNm (mOwn 16) ∧ plainName (mNm 16).cls = true) ∧ mMax 16 = 3 := by decide +kernel
theorem st_X3_firstBroken_0 {D : Nat} {Q : APost} {ls : AL} {st : List AV} {m : AM} (h : exP (aCC D) D false (AW D 16 Q) Q bX3_firstBroken_0 ls st m) : AW D 16 Q 0 ls st m := AW_step chk_X3_firstBroken h
theorem st_X3_firstBroken_2 {D : Nat} {Q : APost} {ls : AL} {st : List AV} {m : AM} (h : exP (aCC D) D false (AW D 16 Q) Q bX3_firstBroken_2 ls st m) : AW D 16 Q 2 ls st m := AW_step chk_X3_firstBroken h
theorem st_X3_firstBroken_8 {D : Nat} {Q : APost} {ls : AL} {st : List AV} {m : AM} (h : exP (aCC D) D false (AW D 16 Q) Q bX3_firstBroken_8 ls st m) : AW D 16 Q 8 ls st m := AW_step chk_X3_firstBroken h
theorem st_X3_firstBroken_16 {D : Nat} {Q : APost} {ls : AL} {st : List AV} {m : AM} (h : exP (aCC D) D false (AW D 16 Q) Q bX3_firstBroken_16 ls st m) : AW D 16 Q 16 ls st m := AW_step chk_X3_firstBroken h
theorem st_X3_firstBroken_31 {D : Nat} {Q : APost} {ls : AL} {st : List AV} {m : AM} (h : exP (aCC D) D false (AW D 16 Q) Q bX3_firstBroken_31 ls st m) : AW D 16 Q 31 ls st m := AW_step chk_X3_firstBroken h
theorem st_X3_firstBroken_33 {D : Nat} {Q : APost} {ls : AL} {st : List AV} {m : AM} (h : exP (aCC D) D false (AW D 16 Q) Q bX3_firstBroken_33 ls st m) : AW D 16 Q 33 ls st m := AW_step chk_X3_firstBroken h
theorem st_X3_firstBroken_39 {D : Nat} {Q : APost} {ls : AL} {st : List AV} {m : AM} (h : exP (aCC D) D false (AW D 16 Q) Q bX3_firstBroken_39 ls st m) : AW D 16 Q 39 ls st m := AW_step chk_X3_firstBroken h
set_option maxRecDepth 100000 in
theorem chk_X3_lowerOnce : chkM 17 = true := by decide +kernel
set_option maxRecDepth 100000 in
theorem own_X3_lowerOnce : ((mNm 17).cls = cNm (mOwn 17) ∧ plainName (mNm 17).cls = true) ∧ mMax 17 = 7 := by decide +kernel
theorem st_X3_lowerOnce_0 {D : Nat} {Q : APost} {ls : AL} {st : List AV} {m : AM} (h : exP (aCC D) D true (AW D 17 Q) Q bX3_lowerOnce_0 ls st m) : AW D 17 Q 0 ls st m := AW_step chk_X3_lowerOnce h
theorem st_X3_lowerOnce_19 {D : Nat} {Q : APost} {ls : AL} {st : List AV} {m : AM} (h : exP (aCC D) D true (AW D 17 Q) Q bX3_lowerOnce_19 ls st m) : AW D 17 Q 19 ls st m := AW_step chk_X3_lowerOnce h
theorem st_X3_lowerOnce_25 {D : Nat} {Q : APost} {ls : AL} {st : List AV} {m : AM} (h : exP (aCC D) D true (AW D 17 Q) Q bX3_lowerOnce_25 ls st m) : AW D 17 Q 25 ls st m := AW_step chk_X3_lowerOnce h
theorem st_X3_lowerOnce_33 {D : Nat} {Q : APost} {ls : AL} {st : List AV} {m : AM} (h : exP (aCC D) D true (AW D 17 Q) Q bX3_lowerOnce_33 ls st m) : AW D 17 Q 33 ls st m := AW_step chk_X3_lowerOnce h
theorem st_X3_lowerOnce_51 {D : Nat} {Q : APost} {ls : AL} {st : List AV} {m : AM} (h : exP (aCC D) D true (AW D 17 Q) Q bX3_lowerOnce_51 ls st m) : AW D 17 Q 51 ls st m := AW_step chk_X3_lowerOnce h
theorem st_X3_lowerOnce_52 {D : Nat} {Q : APost} {ls : AL} {st : List AV} {m : AM} (h : exP (aCC D) D true (AW D 17 Q) Q bX3_lowerOnce_52 ls st m) : AW D 17 Q 52 ls st m := AW_step chk_X3_lowerOnce h
theorem st_X3_lowerOnce_57 {D : Nat} {Q : APost} {ls : AL} {st : List AV} {m : AM} (h : exP (aCC D) D true (AW D 17 Q) Q bX3_lowerOnce_57 ls st m) : AW D 17 Q 57 ls st m := AW_step chk_X3_lowerOnce h
theorem st_X3_lowerOnce_64 {D : Nat} {Q : APost} {ls : AL} {st : List AV} {m : AM} (h : exP (aCC D) D true (AW D 17 Q) Q bX3_lowerOnce_64 ls st m) : AW D 17 Q 64 ls st m := AW_step chk_X3_lowerOnce h
theorem st_X3_lowerOnce_69 {D : Nat} {Q : APost} {ls : AL} {st : List AV} {m : AM} (h : exP (aCC D) D true (AW D 17 Q) Q bX3_lowerOnce_69 ls st m) : AW D 17 Q 69 ls st m := AW_step chk_X3_lowerOnce h
theorem st_X3_lowerOnce_83 {D : Nat} {Q : APost} {ls : AL} {st : List AV} {m : AM} (h : exP (aCC D) D true (AW D 17 Q) Q bX3_lowerOnce_83 ls st m) : AW D 17 Q 83 ls st m := AW_step chk_X3_lowerOnce h
theorem st_X3_lowerOnce_92 {D : Nat} {Q : APost} {ls : AL} {st : List AV} {m : AM} (h : exP (aCC D) D true (AW D 17 Q) Q bX3_lowerOnce_92 ls st m) : AW D 17 Q 92 ls st m := AW_step chk_X3_lowerOnce h
theorem st_X3_lowerOnce_103 {D : Nat} {Q : APost} {ls : AL} {st : List AV} {m : AM} (h : exP (aCC D) D true (AW D 17 Q) Q bX3_lowerOnce_103 ls st m) : AW D 17 Q 103 ls st m := AW_step chk_X3_lowerOnce h
theorem st_X3_lowerOnce_115 {D : Nat} {Q : APost} {ls : AL} {st : List AV} {m : AM} (h : exP (aCC D) D true (AW D 17 Q) Q bX3_lowerOnce_115 ls st m) : AW D 17 Q 115 ls st m := AW_step chk_X3_lowerOnce h
theorem st_X3_lowerOnce_127 {D : Nat} {Q : APost} {ls : AL} {st : List AV} {m : AM} (h : exP (aCC D) D true (AW D 17 Q) Q bX3_lowerOnce_127 ls st m) : AW D 17 Q 127 ls st m := AW_step chk_X3_lowerOnce h
theorem st_X3_lowerOnce_146 {D : Nat} {Q : APost} {ls : AL} {st : List AV} {m : AM} (h : exP (aCC D) D true (AW D 17 Q) Q bX3_lowerOnce_146 ls st m) : AW D 17 Q 146 ls st m := AW_step chk_X3_lowerOnce h
theorem st_X3_lowerOnce_152 {D : Nat} {Q : APost} {ls : AL} {st : List AV} {m : AM} (h : exP (aCC D) D true (AW D 17 Q) Q bX3_lowerOnce_152 ls st m) : AW D 17 Q 152 ls st m := AW_step chk_X3_lowerOnce h
theorem st_X3_lowerOnce_158 {D : Nat} {Q : APost} {ls : AL} {st : List AV} {m : AM} (h : exP (aCC D) D true (AW D 17 Q) Q bX3_lowerOnce_158 ls st m) : AW D 17 Q 158 ls st m := AW_step chk_X3_lowerOnce h
set_option maxRecDepth 100000 in
theorem chk_X3_raiseOnce : chkM 18 = true := by decide +kernel
set_option maxRecDepth 100000 in
theorem own_X3_raiseOnce : ((mNm 18).cls = cNm (mOwn 18) ∧ plainName (mNm 18).cls = true) ∧ mMax 18 = 7 := by decide +kernel
theorem st_X3_raiseOnce_0 {D : Nat} {Q : APost} {ls : AL} {st : List AV} {m : AM} (h : exP (aCC D) D true (AW D 18 Q) Q bX3_raiseOnce_0 ls st m) : AW D 18 Q 0 ls st m := AW_step chk_X3_raiseOnce h
theorem st_X3_raiseOnce_4 {D : Nat} {Q : APost} {ls : AL} {st : List AV} {m : AM} (h : exP (aCC D) D true (AW D 18 Q) Q bX3_raiseOnce_4 ls st m) : AW D 18 Q 4 ls st m := AW_step chk_X3_raiseOnce h
theorem st_X3_raiseOnce_10 {D : Nat} {Q : APost} {ls : AL} {st : List AV} {m : AM} (h : exP (aCC D) D true (AW D 18 Q) Q bX3_raiseOnce_10 ls st m) : AW D 18 Q 10 ls st m := AW_step chk_X3_raiseOnce h
theorem st_X3_raiseOnce_18 {D : Nat} {Q : APost} {ls : AL} {st : List AV} {m : AM} (h : exP (aCC D) D true (AW D 18 Q) Q bX3_raiseOnce_18 ls st m) : AW D 18 Q 18 ls st m := AW_step chk_X3_raiseOnce h
theorem st_X3_raiseOnce_36 {D : Nat} {Q : APost} {ls : AL} {st : List AV} {m : AM} (h : exP (aCC D) D true (AW D 18 Q) Q bX3_raiseOnce_36 ls st m) : AW D 18 Q 36 ls st m := AW_step chk_X3_raiseOnce h
theorem st_X3_raiseOnce_37 {D : Nat} {Q : APost} {ls : AL} {st : List AV} {m : AM} (h : exP (aCC D) D true (AW D 18 Q) Q bX3_raiseOnce_37 ls st m) : AW D 18 Q 37 ls st m := AW_step chk_X3_raiseOnce h
theorem st_X3_raiseOnce_42 {D : Nat} {Q : APost} {ls : AL} {st : List AV} {m : AM} (h : exP (aCC D) D true (AW D 18 Q) Q bX3_raiseOnce_42 ls st m) : AW D 18 Q 42 ls st m := AW_step chk_X3_raiseOnce h
theorem st_X3_raiseOnce_49 {D : Nat} {Q : APost} {ls : AL} {st : List AV} {m : AM} (h : exP (aCC D) D true (AW D 18 Q) Q bX3_raiseOnce_49 ls st m) : AW D 18 Q 49 ls st m := AW_step chk_X3_raiseOnce h
theorem st_X3_raiseOnce_54 {D : Nat} {Q : APost} {ls : AL} {st : List AV} {m : AM} (h : exP (aCC D) D true (AW D 18 Q) Q bX3_raiseOnce_54 ls st m) : AW D 18 Q 54 ls st m := AW_step chk_X3_raiseOnce h
theorem st_X3_raiseOnce_68 {D : Nat} {Q : APost} {ls : AL} {st : List AV} {m : AM} (h : exP (aCC D) D true (AW D 18 Q) Q bX3_raiseOnce_68 ls st m) : AW D 18 Q 68 ls st m := AW_step chk_X3_raiseOnce h
theorem st_X3_raiseOnce_78 {D : Nat} {Q : APost} {ls : AL} {st : List AV} {m : AM} (h : exP (aCC D) D true (AW D 18 Q) Q bX3_raiseOnce_78 ls st m) : AW D 18 Q 78 ls st m := AW_step chk_X3_raiseOnce h
theorem st_X3_raiseOnce_90 {D : Nat} {Q : APost} {ls : AL} {st : List AV} {m : AM} (h : exP (aCC D) D true (AW D 18 Q) Q bX3_raiseOnce_90 ls st m) : AW D 18 Q 90 ls st m := AW_step chk_X3_raiseOnce h
theorem st_X3_raiseOnce_102 {D : Nat} {Q : APost} {ls : AL} {st : List AV} {m : AM} (h : exP (aCC D) D true (AW D 18 Q) Q bX3_raiseOnce_102 ls st m) : AW D 18 Q 102 ls st m := AW_step chk_X3_raiseOnce h
theorem st_X3_raiseOnce_113 {D : Nat} {Q : APost} {ls : AL} {st : List AV} {m : AM} (h : exP (aCC D) D true (AW D 18 Q) Q bX3_raiseOnce_113 ls st m) : AW D 18 Q 113 ls st m := AW_step chk_X3_raiseOnce h
theorem st_X3_raiseOnce_123 {D : Nat} {Q : APost} {ls : AL} {st : List AV} {m : AM} (h : exP (aCC D) D true (AW D 18 Q) Q bX3_raiseOnce_123 ls st m) : AW D 18 Q 123 ls st m := AW_step chk_X3_raiseOnce h
theorem st_X3_raiseOnce_129 {D : Nat} {Q : APost} {ls : AL} {st : List AV} {m : AM} (h : exP (aCC D) D true (AW D 18 Q) Q bX3_raiseOnce_129 ls st m) : AW D 18 Q 129 ls st m := AW_step chk_X3_raiseOnce h
theorem st_X3_raiseOnce_135 {D : Nat} {Q : APost} {ls : AL} {st : List AV} {m : AM} (h : exP (aCC D) D true (AW D 18 Q) Q bX3_raiseOnce_135 ls st m) : AW D 18 Q 135 ls st m := AW_step chk_X3_raiseOnce h
set_option maxRecDepth 100000 in
theorem chk_X3_conflictIn : chkM 19 = true := by decide +kernel
set_option maxRecDepth 100000 in
theorem own_X3_conflictIn : ((mNm 19).cls = cNm (mOwn 19) ∧ plainName (mNm 19).cls = true) ∧ mMax 19 = 5 := by decide +kernel
theorem st_X3_conflictIn_0 {D : Nat} {Q : APost} {ls : AL} {st : List AV} {m : AM} (h : exP (aCC D) D false (AW D 19 Q) Q bX3_conflictIn_0 ls st m) : AW D 19 Q 0 ls st m := AW_step chk_X3_conflictIn h
theorem st_X3_conflictIn_9 {D : Nat} {Q : APost} {ls : AL} {st : List AV} {m : AM} (h : exP (aCC D) D false (AW D 19 Q) Q bX3_conflictIn_9 ls st m) : AW D 19 Q 9 ls st m := AW_step chk_X3_conflictIn h
theorem st_X3_conflictIn_11 {D : Nat} {Q : APost} {ls : AL} {st : List AV} {m : AM} (h : exP (aCC D) D false (AW D 19 Q) Q bX3_conflictIn_11 ls st m) : AW D 19 Q 11 ls st m := AW_step chk_X3_conflictIn h
theorem st_X3_conflictIn_21 {D : Nat} {Q : APost} {ls : AL} {st : List AV} {m : AM} (h : exP (aCC D) D false (AW D 19 Q) Q bX3_conflictIn_21 ls st m) : AW D 19 Q 21 ls st m := AW_step chk_X3_conflictIn h
theorem st_X3_conflictIn_28 {D : Nat} {Q : APost} {ls : AL} {st : List AV} {m : AM} (h : exP (aCC D) D false (AW D 19 Q) Q bX3_conflictIn_28 ls st m) : AW D 19 Q 28 ls st m := AW_step chk_X3_conflictIn h
theorem st_X3_conflictIn_32 {D : Nat} {Q : APost} {ls : AL} {st : List AV} {m : AM} (h : exP (aCC D) D false (AW D 19 Q) Q bX3_conflictIn_32 ls st m) : AW D 19 Q 32 ls st m := AW_step chk_X3_conflictIn h
theorem st_X3_conflictIn_38 {D : Nat} {Q : APost} {ls : AL} {st : List AV} {m : AM} (h : exP (aCC D) D false (AW D 19 Q) Q bX3_conflictIn_38 ls st m) : AW D 19 Q 38 ls st m := AW_step chk_X3_conflictIn h
theorem st_X3_conflictIn_57 {D : Nat} {Q : APost} {ls : AL} {st : List AV} {m : AM} (h : exP (aCC D) D false (AW D 19 Q) Q bX3_conflictIn_57 ls st m) : AW D 19 Q 57 ls st m := AW_step chk_X3_conflictIn h
set_option maxRecDepth 100000 in
theorem chk_X3_quarrelIn : chkM 20 = true := by decide +kernel
set_option maxRecDepth 100000 in
theorem own_X3_quarrelIn : ((mNm 20).cls = cNm (mOwn 20) ∧ plainName (mNm 20).cls = true) ∧ mMax 20 = 6 := by decide +kernel
theorem st_X3_quarrelIn_0 {D : Nat} {Q : APost} {ls : AL} {st : List AV} {m : AM} (h : exP (aCC D) D false (AW D 20 Q) Q bX3_quarrelIn_0 ls st m) : AW D 20 Q 0 ls st m := AW_step chk_X3_quarrelIn h
theorem st_X3_quarrelIn_11 {D : Nat} {Q : APost} {ls : AL} {st : List AV} {m : AM} (h : exP (aCC D) D false (AW D 20 Q) Q bX3_quarrelIn_11 ls st m) : AW D 20 Q 11 ls st m := AW_step chk_X3_quarrelIn h
theorem st_X3_quarrelIn_13 {D : Nat} {Q : APost} {ls : AL} {st : List AV} {m : AM} (h : exP (aCC D) D false (AW D 20 Q) Q bX3_quarrelIn_13 ls st m) : AW D 20 Q 13 ls st m := AW_step chk_X3_quarrelIn h
theorem st_X3_quarrelIn_19 {D : Nat} {Q : APost} {ls : AL} {st : List AV} {m : AM} (h : exP (aCC D) D false (AW D 20 Q) Q bX3_quarrelIn_19 ls st m) : AW D 20 Q 19 ls st m := AW_step chk_X3_quarrelIn h
theorem st_X3_quarrelIn_24 {D : Nat} {Q : APost} {ls : AL} {st : List AV} {m : AM} (h : exP (aCC D) D false (AW D 20 Q) Q bX3_quarrelIn_24 ls st m) : AW D 20 Q 24 ls st m := AW_step chk_X3_quarrelIn h
theorem st_X3_quarrelIn_40 {D : Nat} {Q : APost} {ls : AL} {st : List AV} {m : AM} (h : exP (aCC D) D false (AW D 20 Q) Q bX3_quarrelIn_40 ls st m) : AW D 20 Q 40 ls st m := AW_step chk_X3_quarrelIn h
theorem st_X3_quarrelIn_50 {D : Nat} {Q : APost} {ls : AL} {st : List AV} {m : AM} (h : exP (aCC D) D false (AW D 20 Q) Q bX3_quarrelIn_50 ls st m) : AW D 20 Q 50 ls st m := AW_step chk_X3_quarrelIn h
theorem st_X3_quarrelIn_53 {D : Nat} {Q : APost} {ls : AL} {st : List AV} {m : AM} (h : exP (aCC D) D false (AW D 20 Q) Q bX3_quarrelIn_53 ls st m) : AW D 20 Q 53 ls st m := AW_step chk_X3_quarrelIn h
theorem st_X3_quarrelIn_59 {D : Nat} {Q : APost} {ls : AL} {st : List AV} {m : AM} (h : exP (aCC D) D false (AW D 20 Q) Q bX3_quarrelIn_59 ls st m) : AW D 20 Q 59 ls st m := AW_step chk_X3_quarrelIn h
set_option maxRecDepth 100000 in
theorem chk_X3_keepYears : chkM 21 = true := by decide +kernel
set_option maxRecDepth 100000 in
theorem own_X3_keepYears : ((mNm 21).cls = cNm (mOwn 21) ∧ plainName (mNm 21).cls = true) ∧ mMax 21 = 3 := by decide +kernel
theorem st_X3_keepYears_0 {D : Nat} {Q : APost} {ls : AL} {st : List AV} {m : AM} (h : exP (aCC D) D false (AW D 21 Q) Q bX3_keepYears_0 ls st m) : AW D 21 Q 0 ls st m := AW_step chk_X3_keepYears h
theorem st_X3_keepYears_38 {D : Nat} {Q : APost} {ls : AL} {st : List AV} {m : AM} (h : exP (aCC D) D false (AW D 21 Q) Q bX3_keepYears_38 ls st m) : AW D 21 Q 38 ls st m := AW_step chk_X3_keepYears h
theorem st_X3_keepYears_44 {D : Nat} {Q : APost} {ls : AL} {st : List AV} {m : AM} (h : exP (aCC D) D false (AW D 21 Q) Q bX3_keepYears_44 ls st m) : AW D 21 Q 44 ls st m := AW_step chk_X3_keepYears h
theorem st_X3_keepYears_52 {D : Nat} {Q : APost} {ls : AL} {st : List AV} {m : AM} (h : exP (aCC D) D false (AW D 21 Q) Q bX3_keepYears_52 ls st m) : AW D 21 Q 52 ls st m := AW_step chk_X3_keepYears h
theorem st_X3_keepYears_55 {D : Nat} {Q : APost} {ls : AL} {st : List AV} {m : AM} (h : exP (aCC D) D false (AW D 21 Q) Q bX3_keepYears_55 ls st m) : AW D 21 Q 55 ls st m := AW_step chk_X3_keepYears h
theorem st_X3_keepYears_61 {D : Nat} {Q : APost} {ls : AL} {st : List AV} {m : AM} (h : exP (aCC D) D false (AW D 21 Q) Q bX3_keepYears_61 ls st m) : AW D 21 Q 61 ls st m := AW_step chk_X3_keepYears h
set_option maxRecDepth 100000 in
theorem chk_X4_putBytes : chkM 22 = true := by decide +kernel
set_option maxRecDepth 100000 in
theorem own_X4_putBytes : ((mNm 22).cls = cNm (mOwn 22) ∧ plainName (mNm 22).cls = true) ∧ mMax 22 = 3 := by decide +kernel
theorem st_X4_putBytes_0 {D : Nat} {Q : APost} {ls : AL} {st : List AV} {m : AM} (h : exP (aCC D) D false (AW D 22 Q) Q bX4_putBytes_0 ls st m) : AW D 22 Q 0 ls st m := AW_step chk_X4_putBytes h
theorem st_X4_putBytes_3 {D : Nat} {Q : APost} {ls : AL} {st : List AV} {m : AM} (h : exP (aCC D) D false (AW D 22 Q) Q bX4_putBytes_3 ls st m) : AW D 22 Q 3 ls st m := AW_step chk_X4_putBytes h
theorem st_X4_putBytes_7 {D : Nat} {Q : APost} {ls : AL} {st : List AV} {m : AM} (h : exP (aCC D) D false (AW D 22 Q) Q bX4_putBytes_7 ls st m) : AW D 22 Q 7 ls st m := AW_step chk_X4_putBytes h
theorem st_X4_putBytes_14 {D : Nat} {Q : APost} {ls : AL} {st : List AV} {m : AM} (h : exP (aCC D) D false (AW D 22 Q) Q bX4_putBytes_14 ls st m) : AW D 22 Q 14 ls st m := AW_step chk_X4_putBytes h
theorem st_X4_putBytes_23 {D : Nat} {Q : APost} {ls : AL} {st : List AV} {m : AM} (h : exP (aCC D) D false (AW D 22 Q) Q bX4_putBytes_23 ls st m) : AW D 22 Q 23 ls st m := AW_step chk_X4_putBytes h
theorem st_X4_putBytes_49 {D : Nat} {Q : APost} {ls : AL} {st : List AV} {m : AM} (h : exP (aCC D) D false (AW D 22 Q) Q bX4_putBytes_49 ls st m) : AW D 22 Q 49 ls st m := AW_step chk_X4_putBytes h
theorem st_X4_putBytes_55 {D : Nat} {Q : APost} {ls : AL} {st : List AV} {m : AM} (h : exP (aCC D) D false (AW D 22 Q) Q bX4_putBytes_55 ls st m) : AW D 22 Q 55 ls st m := AW_step chk_X4_putBytes h
set_option maxRecDepth 100000 in
theorem chk_X4_take : chkM 23 = true := by decide +kernel
set_option maxRecDepth 100000 in
theorem own_X4_take : ((mNm 23).cls = cNm (mOwn 23) ∧ plainName (mNm 23).cls = true) ∧ mMax 23 = 4 := by decide +kernel
theorem st_X4_take_0 {D : Nat} {Q : APost} {ls : AL} {st : List AV} {m : AM} (h : exP (aCC D) D true (AW D 23 Q) Q bX4_take_0 ls st m) : AW D 23 Q 0 ls st m := AW_step chk_X4_take h
theorem st_X4_take_4 {D : Nat} {Q : APost} {ls : AL} {st : List AV} {m : AM} (h : exP (aCC D) D true (AW D 23 Q) Q bX4_take_4 ls st m) : AW D 23 Q 4 ls st m := AW_step chk_X4_take h
theorem st_X4_take_10 {D : Nat} {Q : APost} {ls : AL} {st : List AV} {m : AM} (h : exP (aCC D) D true (AW D 23 Q) Q bX4_take_10 ls st m) : AW D 23 Q 10 ls st m := AW_step chk_X4_take h
theorem st_X4_take_14 {D : Nat} {Q : APost} {ls : AL} {st : List AV} {m : AM} (h : exP (aCC D) D true (AW D 23 Q) Q bX4_take_14 ls st m) : AW D 23 Q 14 ls st m := AW_step chk_X4_take h
theorem st_X4_take_20 {D : Nat} {Q : APost} {ls : AL} {st : List AV} {m : AM} (h : exP (aCC D) D true (AW D 23 Q) Q bX4_take_20 ls st m) : AW D 23 Q 20 ls st m := AW_step chk_X4_take h
theorem st_X4_take_28 {D : Nat} {Q : APost} {ls : AL} {st : List AV} {m : AM} (h : exP (aCC D) D true (AW D 23 Q) Q bX4_take_28 ls st m) : AW D 23 Q 28 ls st m := AW_step chk_X4_take h
theorem st_X4_take_30 {D : Nat} {Q : APost} {ls : AL} {st : List AV} {m : AM} (h : exP (aCC D) D true (AW D 23 Q) Q bX4_take_30 ls st m) : AW D 23 Q 30 ls st m := AW_step chk_X4_take h
theorem st_X4_take_37 {D : Nat} {Q : APost} {ls : AL} {st : List AV} {m : AM} (h : exP (aCC D) D true (AW D 23 Q) Q bX4_take_37 ls st m) : AW D 23 Q 37 ls st m := AW_step chk_X4_take h
theorem st_X4_take_42 {D : Nat} {Q : APost} {ls : AL} {st : List AV} {m : AM} (h : exP (aCC D) D true (AW D 23 Q) Q bX4_take_42 ls st m) : AW D 23 Q 42 ls st m := AW_step chk_X4_take h
theorem st_X4_take_53 {D : Nat} {Q : APost} {ls : AL} {st : List AV} {m : AM} (h : exP (aCC D) D true (AW D 23 Q) Q bX4_take_53 ls st m) : AW D 23 Q 53 ls st m := AW_step chk_X4_take h
theorem st_X4_take_64 {D : Nat} {Q : APost} {ls : AL} {st : List AV} {m : AM} (h : exP (aCC D) D true (AW D 23 Q) Q bX4_take_64 ls st m) : AW D 23 Q 64 ls st m := AW_step chk_X4_take h
theorem st_X4_take_66 {D : Nat} {Q : APost} {ls : AL} {st : List AV} {m : AM} (h : exP (aCC D) D true (AW D 23 Q) Q bX4_take_66 ls st m) : AW D 23 Q 66 ls st m := AW_step chk_X4_take h
theorem st_X4_take_72 {D : Nat} {Q : APost} {ls : AL} {st : List AV} {m : AM} (h : exP (aCC D) D true (AW D 23 Q) Q bX4_take_72 ls st m) : AW D 23 Q 72 ls st m := AW_step chk_X4_take h
set_option maxRecDepth 100000 in
theorem chk_X4_findModel : chkM 24 = true := by decide +kernel
set_option maxRecDepth 100000 in
theorem own_X4_findModel : ((mNm 24).cls = cNm (mOwn 24) ∧ plainName (mNm 24).cls = true) ∧ mMax 24 = 3 := by decide +kernel
theorem st_X4_findModel_0 {D : Nat} {Q : APost} {ls : AL} {st : List AV} {m : AM} (h : exP (aCC D) D false (AW D 24 Q) Q bX4_findModel_0 ls st m) : AW D 24 Q 0 ls st m := AW_step chk_X4_findModel h
theorem st_X4_findModel_12 {D : Nat} {Q : APost} {ls : AL} {st : List AV} {m : AM} (h : exP (aCC D) D false (AW D 24 Q) Q bX4_findModel_12 ls st m) : AW D 24 Q 12 ls st m := AW_step chk_X4_findModel h
theorem st_X4_findModel_18 {D : Nat} {Q : APost} {ls : AL} {st : List AV} {m : AM} (h : exP (aCC D) D false (AW D 24 Q) Q bX4_findModel_18 ls st m) : AW D 24 Q 18 ls st m := AW_step chk_X4_findModel h
theorem st_X4_findModel_23 {D : Nat} {Q : APost} {ls : AL} {st : List AV} {m : AM} (h : exP (aCC D) D false (AW D 24 Q) Q bX4_findModel_23 ls st m) : AW D 24 Q 23 ls st m := AW_step chk_X4_findModel h
theorem st_X4_findModel_29 {D : Nat} {Q : APost} {ls : AL} {st : List AV} {m : AM} (h : exP (aCC D) D false (AW D 24 Q) Q bX4_findModel_29 ls st m) : AW D 24 Q 29 ls st m := AW_step chk_X4_findModel h
theorem st_X4_findModel_35 {D : Nat} {Q : APost} {ls : AL} {st : List AV} {m : AM} (h : exP (aCC D) D false (AW D 24 Q) Q bX4_findModel_35 ls st m) : AW D 24 Q 35 ls st m := AW_step chk_X4_findModel h
set_option maxRecDepth 100000 in
theorem chk_X4_compareWith : chkM 25 = true := by decide +kernel
set_option maxRecDepth 100000 in
theorem own_X4_compareWith : ((mNm 25).cls = cNm (mOwn 25) ∧ plainName (mNm 25).cls = true) ∧ mMax 25 = 6 := by decide +kernel
theorem st_X4_compareWith_0 {D : Nat} {Q : APost} {ls : AL} {st : List AV} {m : AM} (h : exP (aCC D) D false (AW D 25 Q) Q bX4_compareWith_0 ls st m) : AW D 25 Q 0 ls st m := AW_step chk_X4_compareWith h
theorem st_X4_compareWith_2 {D : Nat} {Q : APost} {ls : AL} {st : List AV} {m : AM} (h : exP (aCC D) D false (AW D 25 Q) Q bX4_compareWith_2 ls st m) : AW D 25 Q 2 ls st m := AW_step chk_X4_compareWith h
theorem st_X4_compareWith_8 {D : Nat} {Q : APost} {ls : AL} {st : List AV} {m : AM} (h : exP (aCC D) D false (AW D 25 Q) Q bX4_compareWith_8 ls st m) : AW D 25 Q 8 ls st m := AW_step chk_X4_compareWith h
theorem st_X4_compareWith_11 {D : Nat} {Q : APost} {ls : AL} {st : List AV} {m : AM} (h : exP (aCC D) D false (AW D 25 Q) Q bX4_compareWith_11 ls st m) : AW D 25 Q 11 ls st m := AW_step chk_X4_compareWith h
theorem st_X4_compareWith_18 {D : Nat} {Q : APost} {ls : AL} {st : List AV} {m : AM} (h : exP (aCC D) D false (AW D 25 Q) Q bX4_compareWith_18 ls st m) : AW D 25 Q 18 ls st m := AW_step chk_X4_compareWith h
theorem st_X4_compareWith_38 {D : Nat} {Q : APost} {ls : AL} {st : List AV} {m : AM} (h : exP (aCC D) D false (AW D 25 Q) Q bX4_compareWith_38 ls st m) : AW D 25 Q 38 ls st m := AW_step chk_X4_compareWith h
theorem st_X4_compareWith_60 {D : Nat} {Q : APost} {ls : AL} {st : List AV} {m : AM} (h : exP (aCC D) D false (AW D 25 Q) Q bX4_compareWith_60 ls st m) : AW D 25 Q 60 ls st m := AW_step chk_X4_compareWith h
theorem st_X4_compareWith_66 {D : Nat} {Q : APost} {ls : AL} {st : List AV} {m : AM} (h : exP (aCC D) D false (AW D 25 Q) Q bX4_compareWith_66 ls st m) : AW D 25 Q 66 ls st m := AW_step chk_X4_compareWith h
theorem st_X4_compareWith_72 {D : Nat} {Q : APost} {ls : AL} {st : List AV} {m : AM} (h : exP (aCC D) D false (AW D 25 Q) Q bX4_compareWith_72 ls st m) : AW D 25 Q 72 ls st m := AW_step chk_X4_compareWith h
set_option maxRecDepth 100000 in
theorem chk_X4_alike : chkM 26 = true := by decide +kernel
set_option maxRecDepth 100000 in
theorem own_X4_alike : ((mNm 26).cls = cNm (mOwn 26) ∧ plainName (mNm 26).cls = true) ∧ mMax 26 = 7 := by decide +kernel
theorem st_X4_alike_0 {D : Nat} {Q : APost} {ls : AL} {st : List AV} {m : AM} (h : exP (aCC D) D false (AW D 26 Q) Q bX4_alike_0 ls st m) : AW D 26 Q 0 ls st m := AW_step chk_X4_alike h
theorem st_X4_alike_4 {D : Nat} {Q : APost} {ls : AL} {st : List AV} {m : AM} (h : exP (aCC D) D false (AW D 26 Q) Q bX4_alike_4 ls st m) : AW D 26 Q 4 ls st m := AW_step chk_X4_alike h
theorem st_X4_alike_10 {D : Nat} {Q : APost} {ls : AL} {st : List AV} {m : AM} (h : exP (aCC D) D false (AW D 26 Q) Q bX4_alike_10 ls st m) : AW D 26 Q 10 ls st m := AW_step chk_X4_alike h
theorem st_X4_alike_14 {D : Nat} {Q : APost} {ls : AL} {st : List AV} {m : AM} (h : exP (aCC D) D false (AW D 26 Q) Q bX4_alike_14 ls st m) : AW D 26 Q 14 ls st m := AW_step chk_X4_alike h
theorem st_X4_alike_20 {D : Nat} {Q : APost} {ls : AL} {st : List AV} {m : AM} (h : exP (aCC D) D false (AW D 26 Q) Q bX4_alike_20 ls st m) : AW D 26 Q 20 ls st m := AW_step chk_X4_alike h
theorem st_X4_alike_22 {D : Nat} {Q : APost} {ls : AL} {st : List AV} {m : AM} (h : exP (aCC D) D false (AW D 26 Q) Q bX4_alike_22 ls st m) : AW D 26 Q 22 ls st m := AW_step chk_X4_alike h
theorem st_X4_alike_53 {D : Nat} {Q : APost} {ls : AL} {st : List AV} {m : AM} (h : exP (aCC D) D false (AW D 26 Q) Q bX4_alike_53 ls st m) : AW D 26 Q 53 ls st m := AW_step chk_X4_alike h
theorem st_X4_alike_55 {D : Nat} {Q : APost} {ls : AL} {st : List AV} {m : AM} (h : exP (aCC D) D false (AW D 26 Q) Q bX4_alike_55 ls st m) : AW D 26 Q 55 ls st m := AW_step chk_X4_alike h
theorem st_X4_alike_58 {D : Nat} {Q : APost} {ls : AL} {st : List AV} {m : AM} (h : exP (aCC D) D false (AW D 26 Q) Q bX4_alike_58 ls st m) : AW D 26 Q 58 ls st m := AW_step chk_X4_alike h
theorem st_X4_alike_65 {D : Nat} {Q : APost} {ls : AL} {st : List AV} {m : AM} (h : exP (aCC D) D false (AW D 26 Q) Q bX4_alike_65 ls st m) : AW D 26 Q 65 ls st m := AW_step chk_X4_alike h
theorem st_X4_alike_97 {D : Nat} {Q : APost} {ls : AL} {st : List AV} {m : AM} (h : exP (aCC D) D false (AW D 26 Q) Q bX4_alike_97 ls st m) : AW D 26 Q 97 ls st m := AW_step chk_X4_alike h
theorem st_X4_alike_103 {D : Nat} {Q : APost} {ls : AL} {st : List AV} {m : AM} (h : exP (aCC D) D false (AW D 26 Q) Q bX4_alike_103 ls st m) : AW D 26 Q 103 ls st m := AW_step chk_X4_alike h
set_option maxRecDepth 100000 in
theorem chk_X5_person : chkM 27 = true := by decide +kernel
set_option maxRecDepth 100000 in
theorem own_X5_person : ((mNm 27).cls = cNm (mOwn 27) ∧ plainName (mNm 27).cls = true) ∧ mMax 27 = 3 := by decide +kernel
theorem st_X5_person_0 {D : Nat} {Q : APost} {ls : AL} {st : List AV} {m : AM} (h : exP (aCC D) D false (AW D 27 Q) Q bX5_person_0 ls st m) : AW D 27 Q 0 ls st m := AW_step chk_X5_person h
set_option maxRecDepth 100000 in
theorem chk_X5_lived : chkM 28 = true := by decide +kernel
set_option maxRecDepth 100000 in
theorem own_X5_lived : ((mNm 28).cls = cNm (mOwn 28) ∧ plainName (mNm 28).cls = true) ∧ mMax 28 = 4 := by decide +kernel
theorem st_X5_lived_0 {D : Nat} {Q : APost} {ls : AL} {st : List AV} {m : AM} (h : exP (aCC D) D true (AW D 28 Q) Q bX5_lived_0 ls st m) : AW D 28 Q 0 ls st m := AW_step chk_X5_lived h
theorem st_X5_lived_13 {D : Nat} {Q : APost} {ls : AL} {st : List AV} {m : AM} (h : exP (aCC D) D true (AW D 28 Q) Q bX5_lived_13 ls st m) : AW D 28 Q 13 ls st m := AW_step chk_X5_lived h
theorem st_X5_lived_15 {D : Nat} {Q : APost} {ls : AL} {st : List AV} {m : AM} (h : exP (aCC D) D true (AW D 28 Q) Q bX5_lived_15 ls st m) : AW D 28 Q 15 ls st m := AW_step chk_X5_lived h
set_option maxRecDepth 100000 in
theorem chk_X5_formula : chkM 29 = true := by decide +kernel
set_option maxRecDepth 100000 in
theorem own_X5_formula : ((mNm 29).cls = cNm (mOwn 29) ∧ plainName (mNm 29).cls = true) ∧ mMax 29 = 3 := by decide +kernel
theorem st_X5_formula_0 {D : Nat} {Q : APost} {ls : AL} {st : List AV} {m : AM} (h : exP (aCC D) D false (AW D 29 Q) Q bX5_formula_0 ls st m) : AW D 29 Q 0 ls st m := AW_step chk_X5_formula h
set_option maxRecDepth 100000 in
theorem chk_X5_seal : chkM 30 = true := by decide +kernel
set_option maxRecDepth 100000 in
theorem own_X5_seal : ((mNm 30).cls = cNm (mOwn 30) ∧ plainName (mNm 30).cls = true) ∧ mMax 30 = 3 := by decide +kernel
theorem st_X5_seal_0 {D : Nat} {Q : APost} {ls : AL} {st : List AV} {m : AM} (h : exP (aCC D) D false (AW D 30 Q) Q bX5_seal_0 ls st m) : AW D 30 Q 0 ls st m := AW_step chk_X5_seal h
set_option maxRecDepth 100000 in
theorem chk_X5_span : chkM 31 = true := by decide +kernel
set_option maxRecDepth 100000 in
theorem own_X5_span : ((mNm 31).cls = cNm (mOwn 31) ∧ plainName (mNm 31).cls = true) ∧ mMax 31 = 2 := by decide +kernel
theorem st_X5_span_0 {D : Nat} {Q : APost} {ls : AL} {st : List AV} {m : AM} (h : exP (aCC D) D true (AW D 31 Q) Q bX5_span_0 ls st m) : AW D 31 Q 0 ls st m := AW_step chk_X5_span h
theorem st_X5_span_4 {D : Nat} {Q : APost} {ls : AL} {st : List AV} {m : AM} (h : exP (aCC D) D true (AW D 31 Q) Q bX5_span_4 ls st m) : AW D 31 Q 4 ls st m := AW_step chk_X5_span h
theorem st_X5_span_11 {D : Nat} {Q : APost} {ls : AL} {st : List AV} {m : AM} (h : exP (aCC D) D true (AW D 31 Q) Q bX5_span_11 ls st m) : AW D 31 Q 11 ls st m := AW_step chk_X5_span h
theorem st_X5_span_13 {D : Nat} {Q : APost} {ls : AL} {st : List AV} {m : AM} (h : exP (aCC D) D true (AW D 31 Q) Q bX5_span_13 ls st m) : AW D 31 Q 13 ls st m := AW_step chk_X5_span h
set_option maxRecDepth 100000 in
theorem chk_X5_deed : chkM 32 = true := by decide +kernel
set_option maxRecDepth 100000 in
theorem own_X5_deed : ((mNm 32).cls = cNm (mOwn 32) ∧ plainName (mNm 32).cls = true) ∧ mMax 32 = 5 := by decide +kernel
theorem st_X5_deed_0 {D : Nat} {Q : APost} {ls : AL} {st : List AV} {m : AM} (h : exP (aCC D) D false (AW D 32 Q) Q bX5_deed_0 ls st m) : AW D 32 Q 0 ls st m := AW_step chk_X5_deed h
theorem st_X5_deed_5 {D : Nat} {Q : APost} {ls : AL} {st : List AV} {m : AM} (h : exP (aCC D) D false (AW D 32 Q) Q bX5_deed_5 ls st m) : AW D 32 Q 5 ls st m := AW_step chk_X5_deed h
theorem st_X5_deed_11 {D : Nat} {Q : APost} {ls : AL} {st : List AV} {m : AM} (h : exP (aCC D) D false (AW D 32 Q) Q bX5_deed_11 ls st m) : AW D 32 Q 11 ls st m := AW_step chk_X5_deed h
theorem st_X5_deed_13 {D : Nat} {Q : APost} {ls : AL} {st : List AV} {m : AM} (h : exP (aCC D) D false (AW D 32 Q) Q bX5_deed_13 ls st m) : AW D 32 Q 13 ls st m := AW_step chk_X5_deed h
theorem st_X5_deed_29 {D : Nat} {Q : APost} {ls : AL} {st : List AV} {m : AM} (h : exP (aCC D) D false (AW D 32 Q) Q bX5_deed_29 ls st m) : AW D 32 Q 29 ls st m := AW_step chk_X5_deed h
theorem st_X5_deed_36 {D : Nat} {Q : APost} {ls : AL} {st : List AV} {m : AM} (h : exP (aCC D) D false (AW D 32 Q) Q bX5_deed_36 ls st m) : AW D 32 Q 36 ls st m := AW_step chk_X5_deed h
theorem st_X5_deed_38 {D : Nat} {Q : APost} {ls : AL} {st : List AV} {m : AM} (h : exP (aCC D) D false (AW D 32 Q) Q bX5_deed_38 ls st m) : AW D 32 Q 38 ls st m := AW_step chk_X5_deed h
set_option maxRecDepth 100000 in
theorem chk_X5_mark : chkM 33 = true := by decide +kernel
set_option maxRecDepth 100000 in
theorem own_X5_mark : ((mNm 33).cls = cNm (mOwn 33) ∧ plainName (mNm 33).cls = true) ∧ mMax 33 = 4 := by decide +kernel
theorem st_X5_mark_0 {D : Nat} {Q : APost} {ls : AL} {st : List AV} {m : AM} (h : exP (aCC D) D true (AW D 33 Q) Q bX5_mark_0 ls st m) : AW D 33 Q 0 ls st m := AW_step chk_X5_mark h
theorem st_X5_mark_11 {D : Nat} {Q : APost} {ls : AL} {st : List AV} {m : AM} (h : exP (aCC D) D true (AW D 33 Q) Q bX5_mark_11 ls st m) : AW D 33 Q 11 ls st m := AW_step chk_X5_mark h
theorem st_X5_mark_20 {D : Nat} {Q : APost} {ls : AL} {st : List AV} {m : AM} (h : exP (aCC D) D true (AW D 33 Q) Q bX5_mark_20 ls st m) : AW D 33 Q 20 ls st m := AW_step chk_X5_mark h
theorem st_X5_mark_25 {D : Nat} {Q : APost} {ls : AL} {st : List AV} {m : AM} (h : exP (aCC D) D true (AW D 33 Q) Q bX5_mark_25 ls st m) : AW D 33 Q 25 ls st m := AW_step chk_X5_mark h
theorem st_X5_mark_30 {D : Nat} {Q : APost} {ls : AL} {st : List AV} {m : AM} (h : exP (aCC D) D true (AW D 33 Q) Q bX5_mark_30 ls st m) : AW D 33 Q 30 ls st m := AW_step chk_X5_mark h
theorem st_X5_mark_32 {D : Nat} {Q : APost} {ls : AL} {st : List AV} {m : AM} (h : exP (aCC D) D true (AW D 33 Q) Q bX5_mark_32 ls st m) : AW D 33 Q 32 ls st m := AW_step chk_X5_mark h
theorem st_X5_mark_45 {D : Nat} {Q : APost} {ls : AL} {st : List AV} {m : AM} (h : exP (aCC D) D true (AW D 33 Q) Q bX5_mark_45 ls st m) : AW D 33 Q 45 ls st m := AW_step chk_X5_mark h
theorem st_X5_mark_47 {D : Nat} {Q : APost} {ls : AL} {st : List AV} {m : AM} (h : exP (aCC D) D true (AW D 33 Q) Q bX5_mark_47 ls st m) : AW D 33 Q 47 ls st m := AW_step chk_X5_mark h
set_option maxRecDepth 100000 in
theorem chk_X5_agree : chkM 34 = true := by decide +kernel
set_option maxRecDepth 100000 in
theorem own_X5_agree : ((mNm 34).cls = cNm (mOwn 34) ∧ plainName (mNm 34).cls = true) ∧ mMax 34 = 2 := by decide +kernel
theorem st_X5_agree_0 {D : Nat} {Q : APost} {ls : AL} {st : List AV} {m : AM} (h : exP (aCC D) D false (AW D 34 Q) Q bX5_agree_0 ls st m) : AW D 34 Q 0 ls st m := AW_step chk_X5_agree h
theorem st_X5_agree_8 {D : Nat} {Q : APost} {ls : AL} {st : List AV} {m : AM} (h : exP (aCC D) D false (AW D 34 Q) Q bX5_agree_8 ls st m) : AW D 34 Q 8 ls st m := AW_step chk_X5_agree h
theorem st_X5_agree_10 {D : Nat} {Q : APost} {ls : AL} {st : List AV} {m : AM} (h : exP (aCC D) D false (AW D 34 Q) Q bX5_agree_10 ls st m) : AW D 34 Q 10 ls st m := AW_step chk_X5_agree h
theorem st_X5_agree_26 {D : Nat} {Q : APost} {ls : AL} {st : List AV} {m : AM} (h : exP (aCC D) D false (AW D 34 Q) Q bX5_agree_26 ls st m) : AW D 34 Q 26 ls st m := AW_step chk_X5_agree h
theorem st_X5_agree_30 {D : Nat} {Q : APost} {ls : AL} {st : List AV} {m : AM} (h : exP (aCC D) D false (AW D 34 Q) Q bX5_agree_30 ls st m) : AW D 34 Q 30 ls st m := AW_step chk_X5_agree h
theorem st_X5_agree_31 {D : Nat} {Q : APost} {ls : AL} {st : List AV} {m : AM} (h : exP (aCC D) D false (AW D 34 Q) Q bX5_agree_31 ls st m) : AW D 34 Q 31 ls st m := AW_step chk_X5_agree h
set_option maxRecDepth 100000 in
theorem chk_X5_forged : chkM 35 = true := by decide +kernel
set_option maxRecDepth 100000 in
theorem own_X5_forged : ((mNm 35).cls = cNm (mOwn 35) ∧ plainName (mNm 35).cls = true) ∧ mMax 35 = 1 := by decide +kernel
theorem st_X5_forged_0 {D : Nat} {Q : APost} {ls : AL} {st : List AV} {m : AM} (h : exP (aCC D) D false (AW D 35 Q) Q bX5_forged_0 ls st m) : AW D 35 Q 0 ls st m := AW_step chk_X5_forged h
set_option maxRecDepth 100000 in
theorem chk_X5_weight : chkM 36 = true := by decide +kernel
set_option maxRecDepth 100000 in
theorem own_X5_weight : ((mNm 36).cls = cNm (mOwn 36) ∧ plainName (mNm 36).cls = true) ∧ mMax 36 = 2 := by decide +kernel
theorem st_X5_weight_0 {D : Nat} {Q : APost} {ls : AL} {st : List AV} {m : AM} (h : exP (aCC D) D false (AW D 36 Q) Q bX5_weight_0 ls st m) : AW D 36 Q 0 ls st m := AW_step chk_X5_weight h
theorem st_X5_weight_8 {D : Nat} {Q : APost} {ls : AL} {st : List AV} {m : AM} (h : exP (aCC D) D false (AW D 36 Q) Q bX5_weight_8 ls st m) : AW D 36 Q 8 ls st m := AW_step chk_X5_weight h
theorem st_X5_weight_19 {D : Nat} {Q : APost} {ls : AL} {st : List AV} {m : AM} (h : exP (aCC D) D false (AW D 36 Q) Q bX5_weight_19 ls st m) : AW D 36 Q 19 ls st m := AW_step chk_X5_weight h
theorem st_X5_weight_20 {D : Nat} {Q : APost} {ls : AL} {st : List AV} {m : AM} (h : exP (aCC D) D false (AW D 36 Q) Q bX5_weight_20 ls st m) : AW D 36 Q 20 ls st m := AW_step chk_X5_weight h
set_option maxRecDepth 100000 in
theorem chk_X5_year : chkM 37 = true := by decide +kernel
set_option maxRecDepth 100000 in
theorem own_X5_year : ((mNm 37).cls = cNm (mOwn 37) ∧ plainName (mNm 37).cls = true) ∧ mMax 37 = 3 := by decide +kernel
theorem st_X5_year_0 {D : Nat} {Q : APost} {ls : AL} {st : List AV} {m : AM} (h : exP (aCC D) D false (AW D 37 Q) Q bX5_year_0 ls st m) : AW D 37 Q 0 ls st m := AW_step chk_X5_year h
theorem st_X5_year_11 {D : Nat} {Q : APost} {ls : AL} {st : List AV} {m : AM} (h : exP (aCC D) D false (AW D 37 Q) Q bX5_year_11 ls st m) : AW D 37 Q 11 ls st m := AW_step chk_X5_year h
theorem st_X5_year_15 {D : Nat} {Q : APost} {ls : AL} {st : List AV} {m : AM} (h : exP (aCC D) D false (AW D 37 Q) Q bX5_year_15 ls st m) : AW D 37 Q 15 ls st m := AW_step chk_X5_year h
theorem st_X5_year_20 {D : Nat} {Q : APost} {ls : AL} {st : List AV} {m : AM} (h : exP (aCC D) D false (AW D 37 Q) Q bX5_year_20 ls st m) : AW D 37 Q 20 ls st m := AW_step chk_X5_year h
theorem st_X5_year_22 {D : Nat} {Q : APost} {ls : AL} {st : List AV} {m : AM} (h : exP (aCC D) D false (AW D 37 Q) Q bX5_year_22 ls st m) : AW D 37 Q 22 ls st m := AW_step chk_X5_year h
theorem st_X5_year_34 {D : Nat} {Q : APost} {ls : AL} {st : List AV} {m : AM} (h : exP (aCC D) D false (AW D 37 Q) Q bX5_year_34 ls st m) : AW D 37 Q 34 ls st m := AW_step chk_X5_year h
theorem st_X5_year_36 {D : Nat} {Q : APost} {ls : AL} {st : List AV} {m : AM} (h : exP (aCC D) D false (AW D 37 Q) Q bX5_year_36 ls st m) : AW D 37 Q 36 ls st m := AW_step chk_X5_year h
theorem st_X5_year_40 {D : Nat} {Q : APost} {ls : AL} {st : List AV} {m : AM} (h : exP (aCC D) D false (AW D 37 Q) Q bX5_year_40 ls st m) : AW D 37 Q 40 ls st m := AW_step chk_X5_year h
theorem st_X5_year_52 {D : Nat} {Q : APost} {ls : AL} {st : List AV} {m : AM} (h : exP (aCC D) D false (AW D 37 Q) Q bX5_year_52 ls st m) : AW D 37 Q 52 ls st m := AW_step chk_X5_year h
theorem st_X5_year_61 {D : Nat} {Q : APost} {ls : AL} {st : List AV} {m : AM} (h : exP (aCC D) D false (AW D 37 Q) Q bX5_year_61 ls st m) : AW D 37 Q 61 ls st m := AW_step chk_X5_year h
set_option maxRecDepth 100000 in
theorem chk_X5_quarrel : chkM 38 = true := by decide +kernel
set_option maxRecDepth 100000 in
theorem own_X5_quarrel : ((mNm 38).cls = cNm (mOwn 38) ∧ plainName (mNm 38).cls = true) ∧ mMax 38 = 1 := by decide +kernel
theorem st_X5_quarrel_0 {D : Nat} {Q : APost} {ls : AL} {st : List AV} {m : AM} (h : exP (aCC D) D false (AW D 38 Q) Q bX5_quarrel_0 ls st m) : AW D 38 Q 0 ls st m := AW_step chk_X5_quarrel h
set_option maxRecDepth 100000 in
theorem chk_X5_sure : chkM 39 = true := by decide +kernel
set_option maxRecDepth 100000 in
theorem own_X5_sure : ((mNm 39).cls = cNm (mOwn 39) ∧ plainName (mNm 39).cls = true) ∧ mMax 39 = 6 := by decide +kernel
theorem st_X5_sure_0 {D : Nat} {Q : APost} {ls : AL} {st : List AV} {m : AM} (h : exP (aCC D) D false (AW D 39 Q) Q bX5_sure_0 ls st m) : AW D 39 Q 0 ls st m := AW_step chk_X5_sure h
theorem st_X5_sure_11 {D : Nat} {Q : APost} {ls : AL} {st : List AV} {m : AM} (h : exP (aCC D) D false (AW D 39 Q) Q bX5_sure_11 ls st m) : AW D 39 Q 11 ls st m := AW_step chk_X5_sure h
theorem st_X5_sure_15 {D : Nat} {Q : APost} {ls : AL} {st : List AV} {m : AM} (h : exP (aCC D) D false (AW D 39 Q) Q bX5_sure_15 ls st m) : AW D 39 Q 15 ls st m := AW_step chk_X5_sure h
theorem st_X5_sure_20 {D : Nat} {Q : APost} {ls : AL} {st : List AV} {m : AM} (h : exP (aCC D) D false (AW D 39 Q) Q bX5_sure_20 ls st m) : AW D 39 Q 20 ls st m := AW_step chk_X5_sure h
theorem st_X5_sure_22 {D : Nat} {Q : APost} {ls : AL} {st : List AV} {m : AM} (h : exP (aCC D) D false (AW D 39 Q) Q bX5_sure_22 ls st m) : AW D 39 Q 22 ls st m := AW_step chk_X5_sure h
theorem st_X5_sure_36 {D : Nat} {Q : APost} {ls : AL} {st : List AV} {m : AM} (h : exP (aCC D) D false (AW D 39 Q) Q bX5_sure_36 ls st m) : AW D 39 Q 36 ls st m := AW_step chk_X5_sure h
theorem st_X5_sure_43 {D : Nat} {Q : APost} {ls : AL} {st : List AV} {m : AM} (h : exP (aCC D) D false (AW D 39 Q) Q bX5_sure_43 ls st m) : AW D 39 Q 43 ls st m := AW_step chk_X5_sure h
theorem st_X5_sure_52 {D : Nat} {Q : APost} {ls : AL} {st : List AV} {m : AM} (h : exP (aCC D) D false (AW D 39 Q) Q bX5_sure_52 ls st m) : AW D 39 Q 52 ls st m := AW_step chk_X5_sure h
theorem st_X5_sure_69 {D : Nat} {Q : APost} {ls : AL} {st : List AV} {m : AM} (h : exP (aCC D) D false (AW D 39 Q) Q bX5_sure_69 ls st m) : AW D 39 Q 69 ls st m := AW_step chk_X5_sure h
theorem st_X5_sure_101 {D : Nat} {Q : APost} {ls : AL} {st : List AV} {m : AM} (h : exP (aCC D) D false (AW D 39 Q) Q bX5_sure_101 ls st m) : AW D 39 Q 101 ls st m := AW_step chk_X5_sure h
theorem st_X5_sure_107 {D : Nat} {Q : APost} {ls : AL} {st : List AV} {m : AM} (h : exP (aCC D) D false (AW D 39 Q) Q bX5_sure_107 ls st m) : AW D 39 Q 107 ls st m := AW_step chk_X5_sure h
theorem st_X5_sure_113 {D : Nat} {Q : APost} {ls : AL} {st : List AV} {m : AM} (h : exP (aCC D) D false (AW D 39 Q) Q bX5_sure_113 ls st m) : AW D 39 Q 113 ls st m := AW_step chk_X5_sure h
theorem st_X5_sure_115 {D : Nat} {Q : APost} {ls : AL} {st : List AV} {m : AM} (h : exP (aCC D) D false (AW D 39 Q) Q bX5_sure_115 ls st m) : AW D 39 Q 115 ls st m := AW_step chk_X5_sure h
theorem st_X5_sure_119 {D : Nat} {Q : APost} {ls : AL} {st : List AV} {m : AM} (h : exP (aCC D) D false (AW D 39 Q) Q bX5_sure_119 ls st m) : AW D 39 Q 119 ls st m := AW_step chk_X5_sure h
theorem st_X5_sure_123 {D : Nat} {Q : APost} {ls : AL} {st : List AV} {m : AM} (h : exP (aCC D) D false (AW D 39 Q) Q bX5_sure_123 ls st m) : AW D 39 Q 123 ls st m := AW_step chk_X5_sure h
theorem st_X5_sure_125 {D : Nat} {Q : APost} {ls : AL} {st : List AV} {m : AM} (h : exP (aCC D) D false (AW D 39 Q) Q bX5_sure_125 ls st m) : AW D 39 Q 125 ls st m := AW_step chk_X5_sure h
set_option maxRecDepth 100000 in
theorem chk_X5_feed : chkM 40 = true := by decide +kernel
set_option maxRecDepth 100000 in
theorem own_X5_feed : ((mNm 40).cls = cNm (mOwn 40) ∧ plainName (mNm 40).cls = true) ∧ mMax 40 = 6 := by decide +kernel
theorem st_X5_feed_0 {D : Nat} {Q : APost} {ls : AL} {st : List AV} {m : AM} (h : exP (aCC D) D false (AW D 40 Q) Q bX5_feed_0 ls st m) : AW D 40 Q 0 ls st m := AW_step chk_X5_feed h
theorem st_X5_feed_15 {D : Nat} {Q : APost} {ls : AL} {st : List AV} {m : AM} (h : exP (aCC D) D false (AW D 40 Q) Q bX5_feed_15 ls st m) : AW D 40 Q 15 ls st m := AW_step chk_X5_feed h
theorem st_X5_feed_17 {D : Nat} {Q : APost} {ls : AL} {st : List AV} {m : AM} (h : exP (aCC D) D false (AW D 40 Q) Q bX5_feed_17 ls st m) : AW D 40 Q 17 ls st m := AW_step chk_X5_feed h
set_option maxRecDepth 100000 in
theorem chk_X5_words : chkM 41 = true := by decide +kernel
set_option maxRecDepth 100000 in
theorem own_X5_words : ((mNm 41).cls = cNm (mOwn 41) ∧ plainName (mNm 41).cls = true) ∧ mMax 41 = 3 := by decide +kernel
theorem st_X5_words_0 {D : Nat} {Q : APost} {ls : AL} {st : List AV} {m : AM} (h : exP (aCC D) D true (AW D 41 Q) Q bX5_words_0 ls st m) : AW D 41 Q 0 ls st m := AW_step chk_X5_words h
theorem st_X5_words_11 {D : Nat} {Q : APost} {ls : AL} {st : List AV} {m : AM} (h : exP (aCC D) D true (AW D 41 Q) Q bX5_words_11 ls st m) : AW D 41 Q 11 ls st m := AW_step chk_X5_words h
theorem st_X5_words_23 {D : Nat} {Q : APost} {ls : AL} {st : List AV} {m : AM} (h : exP (aCC D) D true (AW D 41 Q) Q bX5_words_23 ls st m) : AW D 41 Q 23 ls st m := AW_step chk_X5_words h
theorem st_X5_words_27 {D : Nat} {Q : APost} {ls : AL} {st : List AV} {m : AM} (h : exP (aCC D) D true (AW D 41 Q) Q bX5_words_27 ls st m) : AW D 41 Q 27 ls st m := AW_step chk_X5_words h
theorem st_X5_words_28 {D : Nat} {Q : APost} {ls : AL} {st : List AV} {m : AM} (h : exP (aCC D) D true (AW D 41 Q) Q bX5_words_28 ls st m) : AW D 41 Q 28 ls st m := AW_step chk_X5_words h
set_option maxRecDepth 100000 in
theorem chk_X5_model : chkM 42 = true := by decide +kernel
set_option maxRecDepth 100000 in
theorem own_X5_model : ((mNm 42).cls = cNm (mOwn 42) ∧ plainName (mNm 42).cls = true) ∧ mMax 42 = 3 := by decide +kernel
theorem st_X5_model_0 {D : Nat} {Q : APost} {ls : AL} {st : List AV} {m : AM} (h : exP (aCC D) D false (AW D 42 Q) Q bX5_model_0 ls st m) : AW D 42 Q 0 ls st m := AW_step chk_X5_model h
theorem st_X5_model_11 {D : Nat} {Q : APost} {ls : AL} {st : List AV} {m : AM} (h : exP (aCC D) D false (AW D 42 Q) Q bX5_model_11 ls st m) : AW D 42 Q 11 ls st m := AW_step chk_X5_model h
theorem st_X5_model_15 {D : Nat} {Q : APost} {ls : AL} {st : List AV} {m : AM} (h : exP (aCC D) D false (AW D 42 Q) Q bX5_model_15 ls st m) : AW D 42 Q 15 ls st m := AW_step chk_X5_model h
theorem st_X5_model_20 {D : Nat} {Q : APost} {ls : AL} {st : List AV} {m : AM} (h : exP (aCC D) D false (AW D 42 Q) Q bX5_model_20 ls st m) : AW D 42 Q 20 ls st m := AW_step chk_X5_model h
theorem st_X5_model_22 {D : Nat} {Q : APost} {ls : AL} {st : List AV} {m : AM} (h : exP (aCC D) D false (AW D 42 Q) Q bX5_model_22 ls st m) : AW D 42 Q 22 ls st m := AW_step chk_X5_model h
theorem st_X5_model_41 {D : Nat} {Q : APost} {ls : AL} {st : List AV} {m : AM} (h : exP (aCC D) D false (AW D 42 Q) Q bX5_model_41 ls st m) : AW D 42 Q 41 ls st m := AW_step chk_X5_model h
theorem st_X5_model_43 {D : Nat} {Q : APost} {ls : AL} {st : List AV} {m : AM} (h : exP (aCC D) D false (AW D 42 Q) Q bX5_model_43 ls st m) : AW D 42 Q 43 ls st m := AW_step chk_X5_model h
theorem st_X5_model_72 {D : Nat} {Q : APost} {ls : AL} {st : List AV} {m : AM} (h : exP (aCC D) D false (AW D 42 Q) Q bX5_model_72 ls st m) : AW D 42 Q 72 ls st m := AW_step chk_X5_model h
theorem st_X5_model_80 {D : Nat} {Q : APost} {ls : AL} {st : List AV} {m : AM} (h : exP (aCC D) D false (AW D 42 Q) Q bX5_model_80 ls st m) : AW D 42 Q 80 ls st m := AW_step chk_X5_model h
theorem st_X5_model_88 {D : Nat} {Q : APost} {ls : AL} {st : List AV} {m : AM} (h : exP (aCC D) D false (AW D 42 Q) Q bX5_model_88 ls st m) : AW D 42 Q 88 ls st m := AW_step chk_X5_model h
theorem st_X5_model_96 {D : Nat} {Q : APost} {ls : AL} {st : List AV} {m : AM} (h : exP (aCC D) D false (AW D 42 Q) Q bX5_model_96 ls st m) : AW D 42 Q 96 ls st m := AW_step chk_X5_model h
set_option maxRecDepth 100000 in
theorem chk_X5_claim : chkM 43 = true := by decide +kernel
set_option maxRecDepth 100000 in
theorem own_X5_claim : ((mNm 43).cls = cNm (mOwn 43) ∧ plainName (mNm 43).cls = true) ∧ mMax 43 = 4 := by decide +kernel
theorem st_X5_claim_0 {D : Nat} {Q : APost} {ls : AL} {st : List AV} {m : AM} (h : exP (aCC D) D true (AW D 43 Q) Q bX5_claim_0 ls st m) : AW D 43 Q 0 ls st m := AW_step chk_X5_claim h
theorem st_X5_claim_11 {D : Nat} {Q : APost} {ls : AL} {st : List AV} {m : AM} (h : exP (aCC D) D true (AW D 43 Q) Q bX5_claim_11 ls st m) : AW D 43 Q 11 ls st m := AW_step chk_X5_claim h
theorem st_X5_claim_15 {D : Nat} {Q : APost} {ls : AL} {st : List AV} {m : AM} (h : exP (aCC D) D true (AW D 43 Q) Q bX5_claim_15 ls st m) : AW D 43 Q 15 ls st m := AW_step chk_X5_claim h
theorem st_X5_claim_20 {D : Nat} {Q : APost} {ls : AL} {st : List AV} {m : AM} (h : exP (aCC D) D true (AW D 43 Q) Q bX5_claim_20 ls st m) : AW D 43 Q 20 ls st m := AW_step chk_X5_claim h
theorem st_X5_claim_24 {D : Nat} {Q : APost} {ls : AL} {st : List AV} {m : AM} (h : exP (aCC D) D true (AW D 43 Q) Q bX5_claim_24 ls st m) : AW D 43 Q 24 ls st m := AW_step chk_X5_claim h
theorem st_X5_claim_31 {D : Nat} {Q : APost} {ls : AL} {st : List AV} {m : AM} (h : exP (aCC D) D true (AW D 43 Q) Q bX5_claim_31 ls st m) : AW D 43 Q 31 ls st m := AW_step chk_X5_claim h
theorem st_X5_claim_33 {D : Nat} {Q : APost} {ls : AL} {st : List AV} {m : AM} (h : exP (aCC D) D true (AW D 43 Q) Q bX5_claim_33 ls st m) : AW D 43 Q 33 ls st m := AW_step chk_X5_claim h
set_option maxRecDepth 100000 in
theorem chk_X5_clash : chkM 44 = true := by decide +kernel
set_option maxRecDepth 100000 in
theorem own_X5_clash : ((mNm 44).cls = cNm (mOwn 44) ∧ plainName (mNm 44).cls = true) ∧ mMax 44 = 7 := by decide +kernel
theorem st_X5_clash_0 {D : Nat} {Q : APost} {ls : AL} {st : List AV} {m : AM} (h : exP (aCC D) D false (AW D 44 Q) Q bX5_clash_0 ls st m) : AW D 44 Q 0 ls st m := AW_step chk_X5_clash h
theorem st_X5_clash_4 {D : Nat} {Q : APost} {ls : AL} {st : List AV} {m : AM} (h : exP (aCC D) D false (AW D 44 Q) Q bX5_clash_4 ls st m) : AW D 44 Q 4 ls st m := AW_step chk_X5_clash h
theorem st_X5_clash_8 {D : Nat} {Q : APost} {ls : AL} {st : List AV} {m : AM} (h : exP (aCC D) D false (AW D 44 Q) Q bX5_clash_8 ls st m) : AW D 44 Q 8 ls st m := AW_step chk_X5_clash h
theorem st_X5_clash_13 {D : Nat} {Q : APost} {ls : AL} {st : List AV} {m : AM} (h : exP (aCC D) D false (AW D 44 Q) Q bX5_clash_13 ls st m) : AW D 44 Q 13 ls st m := AW_step chk_X5_clash h
theorem st_X5_clash_15 {D : Nat} {Q : APost} {ls : AL} {st : List AV} {m : AM} (h : exP (aCC D) D false (AW D 44 Q) Q bX5_clash_15 ls st m) : AW D 44 Q 15 ls st m := AW_step chk_X5_clash h
theorem st_X5_clash_24 {D : Nat} {Q : APost} {ls : AL} {st : List AV} {m : AM} (h : exP (aCC D) D false (AW D 44 Q) Q bX5_clash_24 ls st m) : AW D 44 Q 24 ls st m := AW_step chk_X5_clash h
theorem st_X5_clash_31 {D : Nat} {Q : APost} {ls : AL} {st : List AV} {m : AM} (h : exP (aCC D) D false (AW D 44 Q) Q bX5_clash_31 ls st m) : AW D 44 Q 31 ls st m := AW_step chk_X5_clash h
theorem st_X5_clash_37 {D : Nat} {Q : APost} {ls : AL} {st : List AV} {m : AM} (h : exP (aCC D) D false (AW D 44 Q) Q bX5_clash_37 ls st m) : AW D 44 Q 37 ls st m := AW_step chk_X5_clash h
theorem st_X5_clash_44 {D : Nat} {Q : APost} {ls : AL} {st : List AV} {m : AM} (h : exP (aCC D) D false (AW D 44 Q) Q bX5_clash_44 ls st m) : AW D 44 Q 44 ls st m := AW_step chk_X5_clash h
theorem st_X5_clash_59 {D : Nat} {Q : APost} {ls : AL} {st : List AV} {m : AM} (h : exP (aCC D) D false (AW D 44 Q) Q bX5_clash_59 ls st m) : AW D 44 Q 59 ls st m := AW_step chk_X5_clash h
theorem st_X5_clash_63 {D : Nat} {Q : APost} {ls : AL} {st : List AV} {m : AM} (h : exP (aCC D) D false (AW D 44 Q) Q bX5_clash_63 ls st m) : AW D 44 Q 63 ls st m := AW_step chk_X5_clash h
theorem st_X5_clash_67 {D : Nat} {Q : APost} {ls : AL} {st : List AV} {m : AM} (h : exP (aCC D) D false (AW D 44 Q) Q bX5_clash_67 ls st m) : AW D 44 Q 67 ls st m := AW_step chk_X5_clash h
theorem st_X5_clash_72 {D : Nat} {Q : APost} {ls : AL} {st : List AV} {m : AM} (h : exP (aCC D) D false (AW D 44 Q) Q bX5_clash_72 ls st m) : AW D 44 Q 72 ls st m := AW_step chk_X5_clash h
theorem st_X5_clash_77 {D : Nat} {Q : APost} {ls : AL} {st : List AV} {m : AM} (h : exP (aCC D) D false (AW D 44 Q) Q bX5_clash_77 ls st m) : AW D 44 Q 77 ls st m := AW_step chk_X5_clash h
theorem st_X5_clash_82 {D : Nat} {Q : APost} {ls : AL} {st : List AV} {m : AM} (h : exP (aCC D) D false (AW D 44 Q) Q bX5_clash_82 ls st m) : AW D 44 Q 82 ls st m := AW_step chk_X5_clash h
theorem st_X5_clash_84 {D : Nat} {Q : APost} {ls : AL} {st : List AV} {m : AM} (h : exP (aCC D) D false (AW D 44 Q) Q bX5_clash_84 ls st m) : AW D 44 Q 84 ls st m := AW_step chk_X5_clash h
theorem st_X5_clash_85 {D : Nat} {Q : APost} {ls : AL} {st : List AV} {m : AM} (h : exP (aCC D) D false (AW D 44 Q) Q bX5_clash_85 ls st m) : AW D 44 Q 85 ls st m := AW_step chk_X5_clash h
theorem st_X5_clash_90 {D : Nat} {Q : APost} {ls : AL} {st : List AV} {m : AM} (h : exP (aCC D) D false (AW D 44 Q) Q bX5_clash_90 ls st m) : AW D 44 Q 90 ls st m := AW_step chk_X5_clash h
theorem st_X5_clash_93 {D : Nat} {Q : APost} {ls : AL} {st : List AV} {m : AM} (h : exP (aCC D) D false (AW D 44 Q) Q bX5_clash_93 ls st m) : AW D 44 Q 93 ls st m := AW_step chk_X5_clash h
theorem st_X5_clash_99 {D : Nat} {Q : APost} {ls : AL} {st : List AV} {m : AM} (h : exP (aCC D) D false (AW D 44 Q) Q bX5_clash_99 ls st m) : AW D 44 Q 99 ls st m := AW_step chk_X5_clash h
theorem st_X5_clash_105 {D : Nat} {Q : APost} {ls : AL} {st : List AV} {m : AM} (h : exP (aCC D) D false (AW D 44 Q) Q bX5_clash_105 ls st m) : AW D 44 Q 105 ls st m := AW_step chk_X5_clash h
set_option maxRecDepth 100000 in
theorem chk_X5_court : chkM 45 = true := by decide +kernel
set_option maxRecDepth 100000 in
theorem own_X5_court : ((mNm 45).cls = cNm (mOwn 45) ∧ plainName (mNm 45).cls = true) ∧ mMax 45 = 3 := by decide +kernel
theorem st_X5_court_0 {D : Nat} {Q : APost} {ls : AL} {st : List AV} {m : AM} (h : exP (aCC D) D true (AW D 45 Q) Q bX5_court_0 ls st m) : AW D 45 Q 0 ls st m := AW_step chk_X5_court h
theorem st_X5_court_11 {D : Nat} {Q : APost} {ls : AL} {st : List AV} {m : AM} (h : exP (aCC D) D true (AW D 45 Q) Q bX5_court_11 ls st m) : AW D 45 Q 11 ls st m := AW_step chk_X5_court h
theorem st_X5_court_15 {D : Nat} {Q : APost} {ls : AL} {st : List AV} {m : AM} (h : exP (aCC D) D true (AW D 45 Q) Q bX5_court_15 ls st m) : AW D 45 Q 15 ls st m := AW_step chk_X5_court h
theorem st_X5_court_20 {D : Nat} {Q : APost} {ls : AL} {st : List AV} {m : AM} (h : exP (aCC D) D true (AW D 45 Q) Q bX5_court_20 ls st m) : AW D 45 Q 20 ls st m := AW_step chk_X5_court h
theorem st_X5_court_22 {D : Nat} {Q : APost} {ls : AL} {st : List AV} {m : AM} (h : exP (aCC D) D true (AW D 45 Q) Q bX5_court_22 ls st m) : AW D 45 Q 22 ls st m := AW_step chk_X5_court h
set_option maxRecDepth 100000 in
theorem chk_X5_otherwise : chkM 46 = true := by decide +kernel
set_option maxRecDepth 100000 in
theorem own_X5_otherwise : ((mNm 46).cls = cNm (mOwn 46) ∧ plainName (mNm 46).cls = true) ∧ mMax 46 = 4 := by decide +kernel
theorem st_X5_otherwise_0 {D : Nat} {Q : APost} {ls : AL} {st : List AV} {m : AM} (h : exP (aCC D) D false (AW D 46 Q) Q bX5_otherwise_0 ls st m) : AW D 46 Q 0 ls st m := AW_step chk_X5_otherwise h
theorem st_X5_otherwise_4 {D : Nat} {Q : APost} {ls : AL} {st : List AV} {m : AM} (h : exP (aCC D) D false (AW D 46 Q) Q bX5_otherwise_4 ls st m) : AW D 46 Q 4 ls st m := AW_step chk_X5_otherwise h
theorem st_X5_otherwise_6 {D : Nat} {Q : APost} {ls : AL} {st : List AV} {m : AM} (h : exP (aCC D) D false (AW D 46 Q) Q bX5_otherwise_6 ls st m) : AW D 46 Q 6 ls st m := AW_step chk_X5_otherwise h
theorem st_X5_otherwise_14 {D : Nat} {Q : APost} {ls : AL} {st : List AV} {m : AM} (h : exP (aCC D) D false (AW D 46 Q) Q bX5_otherwise_14 ls st m) : AW D 46 Q 14 ls st m := AW_step chk_X5_otherwise h
theorem st_X5_otherwise_20 {D : Nat} {Q : APost} {ls : AL} {st : List AV} {m : AM} (h : exP (aCC D) D false (AW D 46 Q) Q bX5_otherwise_20 ls st m) : AW D 46 Q 20 ls st m := AW_step chk_X5_otherwise h
theorem st_X5_otherwise_28 {D : Nat} {Q : APost} {ls : AL} {st : List AV} {m : AM} (h : exP (aCC D) D false (AW D 46 Q) Q bX5_otherwise_28 ls st m) : AW D 46 Q 28 ls st m := AW_step chk_X5_otherwise h
theorem st_X5_otherwise_32 {D : Nat} {Q : APost} {ls : AL} {st : List AV} {m : AM} (h : exP (aCC D) D false (AW D 46 Q) Q bX5_otherwise_32 ls st m) : AW D 46 Q 32 ls st m := AW_step chk_X5_otherwise h
theorem st_X5_otherwise_34 {D : Nat} {Q : APost} {ls : AL} {st : List AV} {m : AM} (h : exP (aCC D) D false (AW D 46 Q) Q bX5_otherwise_34 ls st m) : AW D 46 Q 34 ls st m := AW_step chk_X5_otherwise h
theorem st_X5_otherwise_37 {D : Nat} {Q : APost} {ls : AL} {st : List AV} {m : AM} (h : exP (aCC D) D false (AW D 46 Q) Q bX5_otherwise_37 ls st m) : AW D 46 Q 37 ls st m := AW_step chk_X5_otherwise h
theorem st_X5_otherwise_43 {D : Nat} {Q : APost} {ls : AL} {st : List AV} {m : AM} (h : exP (aCC D) D false (AW D 46 Q) Q bX5_otherwise_43 ls st m) : AW D 46 Q 43 ls st m := AW_step chk_X5_otherwise h
set_option maxRecDepth 100000 in
theorem chk_X5_look : chkM 47 = true := by decide +kernel
set_option maxRecDepth 100000 in
theorem own_X5_look : ((mNm 47).cls = cNm (mOwn 47) ∧ plainName (mNm 47).cls = true) ∧ mMax 47 = 3 := by decide +kernel
theorem st_X5_look_0 {D : Nat} {Q : APost} {ls : AL} {st : List AV} {m : AM} (h : exP (aCC D) D false (AW D 47 Q) Q bX5_look_0 ls st m) : AW D 47 Q 0 ls st m := AW_step chk_X5_look h
theorem st_X5_look_11 {D : Nat} {Q : APost} {ls : AL} {st : List AV} {m : AM} (h : exP (aCC D) D false (AW D 47 Q) Q bX5_look_11 ls st m) : AW D 47 Q 11 ls st m := AW_step chk_X5_look h
theorem st_X5_look_13 {D : Nat} {Q : APost} {ls : AL} {st : List AV} {m : AM} (h : exP (aCC D) D false (AW D 47 Q) Q bX5_look_13 ls st m) : AW D 47 Q 13 ls st m := AW_step chk_X5_look h
theorem st_X5_look_68 {D : Nat} {Q : APost} {ls : AL} {st : List AV} {m : AM} (h : exP (aCC D) D false (AW D 47 Q) Q bX5_look_68 ls st m) : AW D 47 Q 68 ls st m := AW_step chk_X5_look h
theorem st_X5_look_78 {D : Nat} {Q : APost} {ls : AL} {st : List AV} {m : AM} (h : exP (aCC D) D false (AW D 47 Q) Q bX5_look_78 ls st m) : AW D 47 Q 78 ls st m := AW_step chk_X5_look h
theorem st_X5_look_88 {D : Nat} {Q : APost} {ls : AL} {st : List AV} {m : AM} (h : exP (aCC D) D false (AW D 47 Q) Q bX5_look_88 ls st m) : AW D 47 Q 88 ls st m := AW_step chk_X5_look h
theorem st_X5_look_98 {D : Nat} {Q : APost} {ls : AL} {st : List AV} {m : AM} (h : exP (aCC D) D false (AW D 47 Q) Q bX5_look_98 ls st m) : AW D 47 Q 98 ls st m := AW_step chk_X5_look h
theorem st_X5_look_107 {D : Nat} {Q : APost} {ls : AL} {st : List AV} {m : AM} (h : exP (aCC D) D false (AW D 47 Q) Q bX5_look_107 ls st m) : AW D 47 Q 107 ls st m := AW_step chk_X5_look h
theorem st_X5_look_114 {D : Nat} {Q : APost} {ls : AL} {st : List AV} {m : AM} (h : exP (aCC D) D false (AW D 47 Q) Q bX5_look_114 ls st m) : AW D 47 Q 114 ls st m := AW_step chk_X5_look h
theorem st_X5_look_124 {D : Nat} {Q : APost} {ls : AL} {st : List AV} {m : AM} (h : exP (aCC D) D false (AW D 47 Q) Q bX5_look_124 ls st m) : AW D 47 Q 124 ls st m := AW_step chk_X5_look h
theorem st_X5_look_131 {D : Nat} {Q : APost} {ls : AL} {st : List AV} {m : AM} (h : exP (aCC D) D false (AW D 47 Q) Q bX5_look_131 ls st m) : AW D 47 Q 131 ls st m := AW_step chk_X5_look h
theorem st_X5_look_138 {D : Nat} {Q : APost} {ls : AL} {st : List AV} {m : AM} (h : exP (aCC D) D false (AW D 47 Q) Q bX5_look_138 ls st m) : AW D 47 Q 138 ls st m := AW_step chk_X5_look h
theorem st_X5_look_146 {D : Nat} {Q : APost} {ls : AL} {st : List AV} {m : AM} (h : exP (aCC D) D false (AW D 47 Q) Q bX5_look_146 ls st m) : AW D 47 Q 146 ls st m := AW_step chk_X5_look h
theorem st_X5_look_154 {D : Nat} {Q : APost} {ls : AL} {st : List AV} {m : AM} (h : exP (aCC D) D false (AW D 47 Q) Q bX5_look_154 ls st m) : AW D 47 Q 154 ls st m := AW_step chk_X5_look h
theorem st_X5_look_155 {D : Nat} {Q : APost} {ls : AL} {st : List AV} {m : AM} (h : exP (aCC D) D false (AW D 47 Q) Q bX5_look_155 ls st m) : AW D 47 Q 155 ls st m := AW_step chk_X5_look h
theorem st_X5_look_156 {D : Nat} {Q : APost} {ls : AL} {st : List AV} {m : AM} (h : exP (aCC D) D false (AW D 47 Q) Q bX5_look_156 ls st m) : AW D 47 Q 156 ls st m := AW_step chk_X5_look h
theorem st_X5_look_164 {D : Nat} {Q : APost} {ls : AL} {st : List AV} {m : AM} (h : exP (aCC D) D false (AW D 47 Q) Q bX5_look_164 ls st m) : AW D 47 Q 164 ls st m := AW_step chk_X5_look h
theorem st_X5_look_172 {D : Nat} {Q : APost} {ls : AL} {st : List AV} {m : AM} (h : exP (aCC D) D false (AW D 47 Q) Q bX5_look_172 ls st m) : AW D 47 Q 172 ls st m := AW_step chk_X5_look h
theorem st_X5_look_173 {D : Nat} {Q : APost} {ls : AL} {st : List AV} {m : AM} (h : exP (aCC D) D false (AW D 47 Q) Q bX5_look_173 ls st m) : AW D 47 Q 173 ls st m := AW_step chk_X5_look h
theorem st_X5_look_174 {D : Nat} {Q : APost} {ls : AL} {st : List AV} {m : AM} (h : exP (aCC D) D false (AW D 47 Q) Q bX5_look_174 ls st m) : AW D 47 Q 174 ls st m := AW_step chk_X5_look h
set_option maxRecDepth 100000 in
theorem chk_X5_count : chkM 48 = true := by decide +kernel
set_option maxRecDepth 100000 in
theorem own_X5_count : ((mNm 48).cls = cNm (mOwn 48) ∧ plainName (mNm 48).cls = true) ∧ mMax 48 = 2 := by decide +kernel
theorem st_X5_count_0 {D : Nat} {Q : APost} {ls : AL} {st : List AV} {m : AM} (h : exP (aCC D) D false (AW D 48 Q) Q bX5_count_0 ls st m) : AW D 48 Q 0 ls st m := AW_step chk_X5_count h
theorem st_X5_count_48 {D : Nat} {Q : APost} {ls : AL} {st : List AV} {m : AM} (h : exP (aCC D) D false (AW D 48 Q) Q bX5_count_48 ls st m) : AW D 48 Q 48 ls st m := AW_step chk_X5_count h
theorem st_X5_count_56 {D : Nat} {Q : APost} {ls : AL} {st : List AV} {m : AM} (h : exP (aCC D) D false (AW D 48 Q) Q bX5_count_56 ls st m) : AW D 48 Q 56 ls st m := AW_step chk_X5_count h
theorem st_X5_count_64 {D : Nat} {Q : APost} {ls : AL} {st : List AV} {m : AM} (h : exP (aCC D) D false (AW D 48 Q) Q bX5_count_64 ls st m) : AW D 48 Q 64 ls st m := AW_step chk_X5_count h
theorem st_X5_count_72 {D : Nat} {Q : APost} {ls : AL} {st : List AV} {m : AM} (h : exP (aCC D) D false (AW D 48 Q) Q bX5_count_72 ls st m) : AW D 48 Q 72 ls st m := AW_step chk_X5_count h
theorem st_X5_count_80 {D : Nat} {Q : APost} {ls : AL} {st : List AV} {m : AM} (h : exP (aCC D) D false (AW D 48 Q) Q bX5_count_80 ls st m) : AW D 48 Q 80 ls st m := AW_step chk_X5_count h
theorem st_X5_count_88 {D : Nat} {Q : APost} {ls : AL} {st : List AV} {m : AM} (h : exP (aCC D) D false (AW D 48 Q) Q bX5_count_88 ls st m) : AW D 48 Q 88 ls st m := AW_step chk_X5_count h
theorem st_X5_count_100 {D : Nat} {Q : APost} {ls : AL} {st : List AV} {m : AM} (h : exP (aCC D) D false (AW D 48 Q) Q bX5_count_100 ls st m) : AW D 48 Q 100 ls st m := AW_step chk_X5_count h
theorem st_X5_count_108 {D : Nat} {Q : APost} {ls : AL} {st : List AV} {m : AM} (h : exP (aCC D) D false (AW D 48 Q) Q bX5_count_108 ls st m) : AW D 48 Q 108 ls st m := AW_step chk_X5_count h
theorem st_X5_count_117 {D : Nat} {Q : APost} {ls : AL} {st : List AV} {m : AM} (h : exP (aCC D) D false (AW D 48 Q) Q bX5_count_117 ls st m) : AW D 48 Q 117 ls st m := AW_step chk_X5_count h
set_option maxRecDepth 100000 in
theorem chk_X5_holds : chkM 49 = true := by decide +kernel
set_option maxRecDepth 100000 in
theorem own_X5_holds : ((mNm 49).cls = cNm (mOwn 49) ∧ plainName (mNm 49).cls = true) ∧ mMax 49 = 2 := by decide +kernel
theorem st_X5_holds_0 {D : Nat} {Q : APost} {ls : AL} {st : List AV} {m : AM} (h : exP (aCC D) D true (AW D 49 Q) Q bX5_holds_0 ls st m) : AW D 49 Q 0 ls st m := AW_step chk_X5_holds h
theorem st_X5_holds_8 {D : Nat} {Q : APost} {ls : AL} {st : List AV} {m : AM} (h : exP (aCC D) D true (AW D 49 Q) Q bX5_holds_8 ls st m) : AW D 49 Q 8 ls st m := AW_step chk_X5_holds h
theorem st_X5_holds_12 {D : Nat} {Q : APost} {ls : AL} {st : List AV} {m : AM} (h : exP (aCC D) D true (AW D 49 Q) Q bX5_holds_12 ls st m) : AW D 49 Q 12 ls st m := AW_step chk_X5_holds h
theorem st_X5_holds_13 {D : Nat} {Q : APost} {ls : AL} {st : List AV} {m : AM} (h : exP (aCC D) D true (AW D 49 Q) Q bX5_holds_13 ls st m) : AW D 49 Q 13 ls st m := AW_step chk_X5_holds h
set_option maxRecDepth 100000 in
theorem chk_X5_allDeeds : chkM 50 = true := by decide +kernel
set_option maxRecDepth 100000 in
theorem own_X5_allDeeds : ((mNm 50).cls = cNm (mOwn 50) ∧ plainName (mNm 50).cls = true) ∧ mMax 50 = 1 := by decide +kernel
theorem st_X5_allDeeds_0 {D : Nat} {Q : APost} {ls : AL} {st : List AV} {m : AM} (h : exP (aCC D) D false (AW D 50 Q) Q bX5_allDeeds_0 ls st m) : AW D 50 Q 0 ls st m := AW_step chk_X5_allDeeds h
set_option maxRecDepth 100000 in
theorem chk_X5_areDeeds : chkM 51 = true := by decide +kernel
set_option maxRecDepth 100000 in
theorem own_X5_areDeeds : ((mNm 51).cls = cNm (mOwn 51) ∧ plainName (mNm 51).cls = true) ∧ mMax 51 = 2 := by decide +kernel
theorem st_X5_areDeeds_0 {D : Nat} {Q : APost} {ls : AL} {st : List AV} {m : AM} (h : exP (aCC D) D true (AW D 51 Q) Q bX5_areDeeds_0 ls st m) : AW D 51 Q 0 ls st m := AW_step chk_X5_areDeeds h
theorem st_X5_areDeeds_11 {D : Nat} {Q : APost} {ls : AL} {st : List AV} {m : AM} (h : exP (aCC D) D true (AW D 51 Q) Q bX5_areDeeds_11 ls st m) : AW D 51 Q 11 ls st m := AW_step chk_X5_areDeeds h
theorem st_X5_areDeeds_15 {D : Nat} {Q : APost} {ls : AL} {st : List AV} {m : AM} (h : exP (aCC D) D true (AW D 51 Q) Q bX5_areDeeds_15 ls st m) : AW D 51 Q 15 ls st m := AW_step chk_X5_areDeeds h
theorem st_X5_areDeeds_16 {D : Nat} {Q : APost} {ls : AL} {st : List AV} {m : AM} (h : exP (aCC D) D true (AW D 51 Q) Q bX5_areDeeds_16 ls st m) : AW D 51 Q 16 ls st m := AW_step chk_X5_areDeeds h
set_option maxRecDepth 100000 in
theorem chk_X5_isTrue : chkM 52 = true := by decide +kernel
set_option maxRecDepth 100000 in
theorem own_X5_isTrue : ((mNm 52).cls = cNm (mOwn 52) ∧ plainName (mNm 52).cls = true) ∧ mMax 52 = 2 := by decide +kernel
theorem st_X5_isTrue_0 {D : Nat} {Q : APost} {ls : AL} {st : List AV} {m : AM} (h : exP (aCC D) D true (AW D 52 Q) Q bX5_isTrue_0 ls st m) : AW D 52 Q 0 ls st m := AW_step chk_X5_isTrue h
set_option maxRecDepth 100000 in
theorem chk_X5_forgedOnes : chkM 53 = true := by decide +kernel
set_option maxRecDepth 100000 in
theorem own_X5_forgedOnes : ((mNm 53).cls = cNm (mOwn 53) ∧ plainName (mNm 53).cls = true) ∧ mMax 53 = 1 := by decide +kernel
theorem st_X5_forgedOnes_0 {D : Nat} {Q : APost} {ls : AL} {st : List AV} {m : AM} (h : exP (aCC D) D false (AW D 53 Q) Q bX5_forgedOnes_0 ls st m) : AW D 53 Q 0 ls st m := AW_step chk_X5_forgedOnes h
set_option maxRecDepth 100000 in
theorem chk_X5_canBeMarked : chkM 54 = true := by decide +kernel
set_option maxRecDepth 100000 in
theorem own_X5_canBeMarked : ((mNm 54).cls = cNm (mOwn 54) ∧ plainName (mNm 54).cls = true) ∧ mMax 54 = 3 := by decide +kernel
theorem st_X5_canBeMarked_0 {D : Nat} {Q : APost} {ls : AL} {st : List AV} {m : AM} (h : exP (aCC D) D true (AW D 54 Q) Q bX5_canBeMarked_0 ls st m) : AW D 54 Q 0 ls st m := AW_step chk_X5_canBeMarked h
theorem st_X5_canBeMarked_36 {D : Nat} {Q : APost} {ls : AL} {st : List AV} {m : AM} (h : exP (aCC D) D true (AW D 54 Q) Q bX5_canBeMarked_36 ls st m) : AW D 54 Q 36 ls st m := AW_step chk_X5_canBeMarked h
theorem st_X5_canBeMarked_45 {D : Nat} {Q : APost} {ls : AL} {st : List AV} {m : AM} (h : exP (aCC D) D true (AW D 54 Q) Q bX5_canBeMarked_45 ls st m) : AW D 54 Q 45 ls st m := AW_step chk_X5_canBeMarked h
theorem st_X5_canBeMarked_54 {D : Nat} {Q : APost} {ls : AL} {st : List AV} {m : AM} (h : exP (aCC D) D true (AW D 54 Q) Q bX5_canBeMarked_54 ls st m) : AW D 54 Q 54 ls st m := AW_step chk_X5_canBeMarked h
theorem st_X5_canBeMarked_63 {D : Nat} {Q : APost} {ls : AL} {st : List AV} {m : AM} (h : exP (aCC D) D true (AW D 54 Q) Q bX5_canBeMarked_63 ls st m) : AW D 54 Q 63 ls st m := AW_step chk_X5_canBeMarked h
theorem st_X5_canBeMarked_67 {D : Nat} {Q : APost} {ls : AL} {st : List AV} {m : AM} (h : exP (aCC D) D true (AW D 54 Q) Q bX5_canBeMarked_67 ls st m) : AW D 54 Q 67 ls st m := AW_step chk_X5_canBeMarked h
theorem st_X5_canBeMarked_73 {D : Nat} {Q : APost} {ls : AL} {st : List AV} {m : AM} (h : exP (aCC D) D true (AW D 54 Q) Q bX5_canBeMarked_73 ls st m) : AW D 54 Q 73 ls st m := AW_step chk_X5_canBeMarked h
theorem st_X5_canBeMarked_77 {D : Nat} {Q : APost} {ls : AL} {st : List AV} {m : AM} (h : exP (aCC D) D true (AW D 54 Q) Q bX5_canBeMarked_77 ls st m) : AW D 54 Q 77 ls st m := AW_step chk_X5_canBeMarked h
theorem st_X5_canBeMarked_78 {D : Nat} {Q : APost} {ls : AL} {st : List AV} {m : AM} (h : exP (aCC D) D true (AW D 54 Q) Q bX5_canBeMarked_78 ls st m) : AW D 54 Q 78 ls st m := AW_step chk_X5_canBeMarked h
theorem st_X5_canBeMarked_79 {D : Nat} {Q : APost} {ls : AL} {st : List AV} {m : AM} (h : exP (aCC D) D true (AW D 54 Q) Q bX5_canBeMarked_79 ls st m) : AW D 54 Q 79 ls st m := AW_step chk_X5_canBeMarked h
theorem st_X5_canBeMarked_88 {D : Nat} {Q : APost} {ls : AL} {st : List AV} {m : AM} (h : exP (aCC D) D true (AW D 54 Q) Q bX5_canBeMarked_88 ls st m) : AW D 54 Q 88 ls st m := AW_step chk_X5_canBeMarked h
set_option maxRecDepth 100000 in
theorem chk_X5_ownFirst : chkM 55 = true := by decide +kernel
set_option maxRecDepth 100000 in
theorem own_X5_ownFirst : ((mNm 55).cls = cNm (mOwn 55) ∧ plainName (mNm 55).cls = true) ∧ mMax 55 = 3 := by decide +kernel
theorem st_X5_ownFirst_0 {D : Nat} {Q : APost} {ls : AL} {st : List AV} {m : AM} (h : exP (aCC D) D false (AW D 55 Q) Q bX5_ownFirst_0 ls st m) : AW D 55 Q 0 ls st m := AW_step chk_X5_ownFirst h
theorem st_X5_ownFirst_11 {D : Nat} {Q : APost} {ls : AL} {st : List AV} {m : AM} (h : exP (aCC D) D false (AW D 55 Q) Q bX5_ownFirst_11 ls st m) : AW D 55 Q 11 ls st m := AW_step chk_X5_ownFirst h
theorem st_X5_ownFirst_23 {D : Nat} {Q : APost} {ls : AL} {st : List AV} {m : AM} (h : exP (aCC D) D false (AW D 55 Q) Q bX5_ownFirst_23 ls st m) : AW D 55 Q 23 ls st m := AW_step chk_X5_ownFirst h
theorem st_X5_ownFirst_24 {D : Nat} {Q : APost} {ls : AL} {st : List AV} {m : AM} (h : exP (aCC D) D false (AW D 55 Q) Q bX5_ownFirst_24 ls st m) : AW D 55 Q 24 ls st m := AW_step chk_X5_ownFirst h
set_option maxRecDepth 100000 in
theorem chk_X5_ownLast : chkM 56 = true := by decide +kernel
set_option maxRecDepth 100000 in
theorem own_X5_ownLast : ((mNm 56).cls = cNm (mOwn 56) ∧ plainName (mNm 56).cls = true) ∧ mMax 56 = 3 := by decide +kernel
theorem st_X5_ownLast_0 {D : Nat} {Q : APost} {ls : AL} {st : List AV} {m : AM} (h : exP (aCC D) D false (AW D 56 Q) Q bX5_ownLast_0 ls st m) : AW D 56 Q 0 ls st m := AW_step chk_X5_ownLast h
theorem st_X5_ownLast_11 {D : Nat} {Q : APost} {ls : AL} {st : List AV} {m : AM} (h : exP (aCC D) D false (AW D 56 Q) Q bX5_ownLast_11 ls st m) : AW D 56 Q 11 ls st m := AW_step chk_X5_ownLast h
theorem st_X5_ownLast_23 {D : Nat} {Q : APost} {ls : AL} {st : List AV} {m : AM} (h : exP (aCC D) D false (AW D 56 Q) Q bX5_ownLast_23 ls st m) : AW D 56 Q 23 ls st m := AW_step chk_X5_ownLast h
theorem st_X5_ownLast_24 {D : Nat} {Q : APost} {ls : AL} {st : List AV} {m : AM} (h : exP (aCC D) D false (AW D 56 Q) Q bX5_ownLast_24 ls st m) : AW D 56 Q 24 ls st m := AW_step chk_X5_ownLast h
set_option maxRecDepth 100000 in
theorem chk_X5_hasOwnYear : chkM 57 = true := by decide +kernel
set_option maxRecDepth 100000 in
theorem own_X5_hasOwnYear : ((mNm 57).cls = cNm (mOwn 57) ∧ plainName (mNm 57).cls = true) ∧ mMax 57 = 2 := by decide +kernel
theorem st_X5_hasOwnYear_0 {D : Nat} {Q : APost} {ls : AL} {st : List AV} {m : AM} (h : exP (aCC D) D true (AW D 57 Q) Q bX5_hasOwnYear_0 ls st m) : AW D 57 Q 0 ls st m := AW_step chk_X5_hasOwnYear h
theorem st_X5_hasOwnYear_13 {D : Nat} {Q : APost} {ls : AL} {st : List AV} {m : AM} (h : exP (aCC D) D true (AW D 57 Q) Q bX5_hasOwnYear_13 ls st m) : AW D 57 Q 13 ls st m := AW_step chk_X5_hasOwnYear h
theorem st_X5_hasOwnYear_17 {D : Nat} {Q : APost} {ls : AL} {st : List AV} {m : AM} (h : exP (aCC D) D true (AW D 57 Q) Q bX5_hasOwnYear_17 ls st m) : AW D 57 Q 17 ls st m := AW_step chk_X5_hasOwnYear h
theorem st_X5_hasOwnYear_18 {D : Nat} {Q : APost} {ls : AL} {st : List AV} {m : AM} (h : exP (aCC D) D true (AW D 57 Q) Q bX5_hasOwnYear_18 ls st m) : AW D 57 Q 18 ls st m := AW_step chk_X5_hasOwnYear h
set_option maxRecDepth 100000 in
theorem chk_X5_settle : chkM 58 = true := by decide +kernel
set_option maxRecDepth 100000 in
theorem own_X5_settle : ((mNm 58).cls = cNm (mOwn 58) ∧ plainName (mNm 58).cls = true) ∧ mMax 58 = 2 := by decide +kernel
theorem st_X5_settle_0 {D : Nat} {Q : APost} {ls : AL} {st : List AV} {m : AM} (h : exP (aCC D) D false (AW D 58 Q) Q bX5_settle_0 ls st m) : AW D 58 Q 0 ls st m := AW_step chk_X5_settle h
theorem st_X5_settle_7 {D : Nat} {Q : APost} {ls : AL} {st : List AV} {m : AM} (h : exP (aCC D) D false (AW D 58 Q) Q bX5_settle_7 ls st m) : AW D 58 Q 7 ls st m := AW_step chk_X5_settle h
theorem st_X5_settle_8 {D : Nat} {Q : APost} {ls : AL} {st : List AV} {m : AM} (h : exP (aCC D) D false (AW D 58 Q) Q bX5_settle_8 ls st m) : AW D 58 Q 8 ls st m := AW_step chk_X5_settle h
theorem st_X5_settle_10 {D : Nat} {Q : APost} {ls : AL} {st : List AV} {m : AM} (h : exP (aCC D) D false (AW D 58 Q) Q bX5_settle_10 ls st m) : AW D 58 Q 10 ls st m := AW_step chk_X5_settle h
theorem st_X5_settle_16 {D : Nat} {Q : APost} {ls : AL} {st : List AV} {m : AM} (h : exP (aCC D) D false (AW D 58 Q) Q bX5_settle_16 ls st m) : AW D 58 Q 16 ls st m := AW_step chk_X5_settle h
theorem st_X5_settle_85 {D : Nat} {Q : APost} {ls : AL} {st : List AV} {m : AM} (h : exP (aCC D) D false (AW D 58 Q) Q bX5_settle_85 ls st m) : AW D 58 Q 85 ls st m := AW_step chk_X5_settle h
set_option maxRecDepth 100000 in
theorem chk_X5_disputed : chkM 59 = true := by decide +kernel
set_option maxRecDepth 100000 in
theorem own_X5_disputed : ((mNm 59).cls = cNm (mOwn 59) ∧ plainName (mNm 59).cls = true) ∧ mMax 59 = 3 := by decide +kernel
theorem st_X5_disputed_0 {D : Nat} {Q : APost} {ls : AL} {st : List AV} {m : AM} (h : exP (aCC D) D false (AW D 59 Q) Q bX5_disputed_0 ls st m) : AW D 59 Q 0 ls st m := AW_step chk_X5_disputed h
theorem st_X5_disputed_8 {D : Nat} {Q : APost} {ls : AL} {st : List AV} {m : AM} (h : exP (aCC D) D false (AW D 59 Q) Q bX5_disputed_8 ls st m) : AW D 59 Q 8 ls st m := AW_step chk_X5_disputed h
theorem st_X5_disputed_16 {D : Nat} {Q : APost} {ls : AL} {st : List AV} {m : AM} (h : exP (aCC D) D false (AW D 59 Q) Q bX5_disputed_16 ls st m) : AW D 59 Q 16 ls st m := AW_step chk_X5_disputed h
theorem st_X5_disputed_31 {D : Nat} {Q : APost} {ls : AL} {st : List AV} {m : AM} (h : exP (aCC D) D false (AW D 59 Q) Q bX5_disputed_31 ls st m) : AW D 59 Q 31 ls st m := AW_step chk_X5_disputed h
theorem st_X5_disputed_33 {D : Nat} {Q : APost} {ls : AL} {st : List AV} {m : AM} (h : exP (aCC D) D false (AW D 59 Q) Q bX5_disputed_33 ls st m) : AW D 59 Q 33 ls st m := AW_step chk_X5_disputed h
set_option maxRecDepth 100000 in
theorem chk_X5_clashes : chkM 60 = true := by decide +kernel
set_option maxRecDepth 100000 in
theorem own_X5_clashes : ((mNm 60).cls = cNm (mOwn 60) ∧ plainName (mNm 60).cls = true) ∧ mMax 60 = 4 := by decide +kernel
theorem st_X5_clashes_0 {D : Nat} {Q : APost} {ls : AL} {st : List AV} {m : AM} (h : exP (aCC D) D false (AW D 60 Q) Q bX5_clashes_0 ls st m) : AW D 60 Q 0 ls st m := AW_step chk_X5_clashes h
theorem st_X5_clashes_4 {D : Nat} {Q : APost} {ls : AL} {st : List AV} {m : AM} (h : exP (aCC D) D false (AW D 60 Q) Q bX5_clashes_4 ls st m) : AW D 60 Q 4 ls st m := AW_step chk_X5_clashes h
theorem st_X5_clashes_10 {D : Nat} {Q : APost} {ls : AL} {st : List AV} {m : AM} (h : exP (aCC D) D false (AW D 60 Q) Q bX5_clashes_10 ls st m) : AW D 60 Q 10 ls st m := AW_step chk_X5_clashes h
theorem st_X5_clashes_14 {D : Nat} {Q : APost} {ls : AL} {st : List AV} {m : AM} (h : exP (aCC D) D false (AW D 60 Q) Q bX5_clashes_14 ls st m) : AW D 60 Q 14 ls st m := AW_step chk_X5_clashes h
theorem st_X5_clashes_20 {D : Nat} {Q : APost} {ls : AL} {st : List AV} {m : AM} (h : exP (aCC D) D false (AW D 60 Q) Q bX5_clashes_20 ls st m) : AW D 60 Q 20 ls st m := AW_step chk_X5_clashes h
theorem st_X5_clashes_29 {D : Nat} {Q : APost} {ls : AL} {st : List AV} {m : AM} (h : exP (aCC D) D false (AW D 60 Q) Q bX5_clashes_29 ls st m) : AW D 60 Q 29 ls st m := AW_step chk_X5_clashes h
theorem st_X5_clashes_32 {D : Nat} {Q : APost} {ls : AL} {st : List AV} {m : AM} (h : exP (aCC D) D false (AW D 60 Q) Q bX5_clashes_32 ls st m) : AW D 60 Q 32 ls st m := AW_step chk_X5_clashes h
theorem st_X5_clashes_38 {D : Nat} {Q : APost} {ls : AL} {st : List AV} {m : AM} (h : exP (aCC D) D false (AW D 60 Q) Q bX5_clashes_38 ls st m) : AW D 60 Q 38 ls st m := AW_step chk_X5_clashes h
theorem st_X5_clashes_44 {D : Nat} {Q : APost} {ls : AL} {st : List AV} {m : AM} (h : exP (aCC D) D false (AW D 60 Q) Q bX5_clashes_44 ls st m) : AW D 60 Q 44 ls st m := AW_step chk_X5_clashes h
set_option maxRecDepth 100000 in
theorem chk_X5_isMisjudged : chkM 61 = true := by decide +kernel
set_option maxRecDepth 100000 in
theorem own_X5_isMisjudged : ((mNm 61).cls = cNm (mOwn 61) ∧ plainName (mNm 61).cls = true) ∧ mMax 61 = 2 := by decide +kernel
theorem st_X5_isMisjudged_0 {D : Nat} {Q : APost} {ls : AL} {st : List AV} {m : AM} (h : exP (aCC D) D true (AW D 61 Q) Q bX5_isMisjudged_0 ls st m) : AW D 61 Q 0 ls st m := AW_step chk_X5_isMisjudged h
theorem st_X5_isMisjudged_14 {D : Nat} {Q : APost} {ls : AL} {st : List AV} {m : AM} (h : exP (aCC D) D true (AW D 61 Q) Q bX5_isMisjudged_14 ls st m) : AW D 61 Q 14 ls st m := AW_step chk_X5_isMisjudged h
theorem st_X5_isMisjudged_18 {D : Nat} {Q : APost} {ls : AL} {st : List AV} {m : AM} (h : exP (aCC D) D true (AW D 61 Q) Q bX5_isMisjudged_18 ls st m) : AW D 61 Q 18 ls st m := AW_step chk_X5_isMisjudged h
theorem st_X5_isMisjudged_19 {D : Nat} {Q : APost} {ls : AL} {st : List AV} {m : AM} (h : exP (aCC D) D true (AW D 61 Q) Q bX5_isMisjudged_19 ls st m) : AW D 61 Q 19 ls st m := AW_step chk_X5_isMisjudged h
theorem st_X5_isMisjudged_22 {D : Nat} {Q : APost} {ls : AL} {st : List AV} {m : AM} (h : exP (aCC D) D true (AW D 61 Q) Q bX5_isMisjudged_22 ls st m) : AW D 61 Q 22 ls st m := AW_step chk_X5_isMisjudged h
theorem st_X5_isMisjudged_26 {D : Nat} {Q : APost} {ls : AL} {st : List AV} {m : AM} (h : exP (aCC D) D true (AW D 61 Q) Q bX5_isMisjudged_26 ls st m) : AW D 61 Q 26 ls st m := AW_step chk_X5_isMisjudged h
theorem st_X5_isMisjudged_27 {D : Nat} {Q : APost} {ls : AL} {st : List AV} {m : AM} (h : exP (aCC D) D true (AW D 61 Q) Q bX5_isMisjudged_27 ls st m) : AW D 61 Q 27 ls st m := AW_step chk_X5_isMisjudged h
set_option maxRecDepth 100000 in
theorem chk_X6_lies : chkM 62 = true := by decide +kernel
set_option maxRecDepth 100000 in
theorem own_X6_lies : ((mNm 62).cls = cNm (mOwn 62) ∧ plainName (mNm 62).cls = true) ∧ mMax 62 = 3 := by decide +kernel
theorem st_X6_lies_0 {D : Nat} {Q : APost} {ls : AL} {st : List AV} {m : AM} (h : exP (aCC D) D true (AW D 62 Q) Q bX6_lies_0 ls st m) : AW D 62 Q 0 ls st m := AW_step chk_X6_lies h
theorem st_X6_lies_5 {D : Nat} {Q : APost} {ls : AL} {st : List AV} {m : AM} (h : exP (aCC D) D true (AW D 62 Q) Q bX6_lies_5 ls st m) : AW D 62 Q 5 ls st m := AW_step chk_X6_lies h
theorem st_X6_lies_10 {D : Nat} {Q : APost} {ls : AL} {st : List AV} {m : AM} (h : exP (aCC D) D true (AW D 62 Q) Q bX6_lies_10 ls st m) : AW D 62 Q 10 ls st m := AW_step chk_X6_lies h
theorem st_X6_lies_14 {D : Nat} {Q : APost} {ls : AL} {st : List AV} {m : AM} (h : exP (aCC D) D true (AW D 62 Q) Q bX6_lies_14 ls st m) : AW D 62 Q 14 ls st m := AW_step chk_X6_lies h
theorem st_X6_lies_15 {D : Nat} {Q : APost} {ls : AL} {st : List AV} {m : AM} (h : exP (aCC D) D true (AW D 62 Q) Q bX6_lies_15 ls st m) : AW D 62 Q 15 ls st m := AW_step chk_X6_lies h
set_option maxRecDepth 100000 in
theorem chk_X6_isSpan : chkM 63 = true := by decide +kernel
set_option maxRecDepth 100000 in
theorem own_X6_isSpan : ((mNm 63).cls = cNm (mOwn 63) ∧ plainName (mNm 63).cls = true) ∧ mMax 63 = 2 := by decide +kernel
theorem st_X6_isSpan_0 {D : Nat} {Q : APost} {ls : AL} {st : List AV} {m : AM} (h : exP (aCC D) D true (AW D 63 Q) Q bX6_isSpan_0 ls st m) : AW D 63 Q 0 ls st m := AW_step chk_X6_isSpan h
theorem st_X6_isSpan_11 {D : Nat} {Q : APost} {ls : AL} {st : List AV} {m : AM} (h : exP (aCC D) D true (AW D 63 Q) Q bX6_isSpan_11 ls st m) : AW D 63 Q 11 ls st m := AW_step chk_X6_isSpan h
theorem st_X6_isSpan_22 {D : Nat} {Q : APost} {ls : AL} {st : List AV} {m : AM} (h : exP (aCC D) D true (AW D 63 Q) Q bX6_isSpan_22 ls st m) : AW D 63 Q 22 ls st m := AW_step chk_X6_isSpan h
theorem st_X6_isSpan_26 {D : Nat} {Q : APost} {ls : AL} {st : List AV} {m : AM} (h : exP (aCC D) D true (AW D 63 Q) Q bX6_isSpan_26 ls st m) : AW D 63 Q 26 ls st m := AW_step chk_X6_isSpan h
theorem st_X6_isSpan_27 {D : Nat} {Q : APost} {ls : AL} {st : List AV} {m : AM} (h : exP (aCC D) D true (AW D 63 Q) Q bX6_isSpan_27 ls st m) : AW D 63 Q 27 ls st m := AW_step chk_X6_isSpan h
set_option maxRecDepth 100000 in
theorem chk_X6_has : chkM 64 = true := by decide +kernel
set_option maxRecDepth 100000 in
theorem own_X6_has : ((mNm 64).cls = cNm (mOwn 64) ∧ plainName (mNm 64).cls = true) ∧ mMax 64 = 2 := by decide +kernel
theorem st_X6_has_0 {D : Nat} {Q : APost} {ls : AL} {st : List AV} {m : AM} (h : exP (aCC D) D true (AW D 64 Q) Q bX6_has_0 ls st m) : AW D 64 Q 0 ls st m := AW_step chk_X6_has h
theorem st_X6_has_9 {D : Nat} {Q : APost} {ls : AL} {st : List AV} {m : AM} (h : exP (aCC D) D true (AW D 64 Q) Q bX6_has_9 ls st m) : AW D 64 Q 9 ls st m := AW_step chk_X6_has h
theorem st_X6_has_13 {D : Nat} {Q : APost} {ls : AL} {st : List AV} {m : AM} (h : exP (aCC D) D true (AW D 64 Q) Q bX6_has_13 ls st m) : AW D 64 Q 13 ls st m := AW_step chk_X6_has h
theorem st_X6_has_14 {D : Nat} {Q : APost} {ls : AL} {st : List AV} {m : AM} (h : exP (aCC D) D true (AW D 64 Q) Q bX6_has_14 ls st m) : AW D 64 Q 14 ls st m := AW_step chk_X6_has h
set_option maxRecDepth 100000 in
theorem chk_X6_isDeed : chkM 65 = true := by decide +kernel
set_option maxRecDepth 100000 in
theorem own_X6_isDeed : ((mNm 65).cls = cNm (mOwn 65) ∧ plainName (mNm 65).cls = true) ∧ mMax 65 = 2 := by decide +kernel
theorem st_X6_isDeed_0 {D : Nat} {Q : APost} {ls : AL} {st : List AV} {m : AM} (h : exP (aCC D) D true (AW D 65 Q) Q bX6_isDeed_0 ls st m) : AW D 65 Q 0 ls st m := AW_step chk_X6_isDeed h
set_option maxRecDepth 100000 in
theorem chk_X6_person : chkM 66 = true := by decide +kernel
set_option maxRecDepth 100000 in
theorem own_X6_person : ((mNm 66).cls = cNm (mOwn 66) ∧ plainName (mNm 66).cls = true) ∧ mMax 66 = 3 := by decide +kernel
theorem st_X6_person_0 {D : Nat} {Q : APost} {ls : AL} {st : List AV} {m : AM} (h : exP (aCC D) D false (AW D 66 Q) Q bX6_person_0 ls st m) : AW D 66 Q 0 ls st m := AW_step chk_X6_person h
theorem st_X6_person_9 {D : Nat} {Q : APost} {ls : AL} {st : List AV} {m : AM} (h : exP (aCC D) D false (AW D 66 Q) Q bX6_person_9 ls st m) : AW D 66 Q 9 ls st m := AW_step chk_X6_person h
theorem st_X6_person_17 {D : Nat} {Q : APost} {ls : AL} {st : List AV} {m : AM} (h : exP (aCC D) D false (AW D 66 Q) Q bX6_person_17 ls st m) : AW D 66 Q 17 ls st m := AW_step chk_X6_person h
theorem st_X6_person_19 {D : Nat} {Q : APost} {ls : AL} {st : List AV} {m : AM} (h : exP (aCC D) D false (AW D 66 Q) Q bX6_person_19 ls st m) : AW D 66 Q 19 ls st m := AW_step chk_X6_person h
set_option maxRecDepth 100000 in
theorem chk_X6_lived : chkM 67 = true := by decide +kernel
set_option maxRecDepth 100000 in
theorem own_X6_lived : ((mNm 67).cls = cNm (mOwn 67) ∧ plainName (mNm 67).cls = true) ∧ mMax 67 = 4 := by decide +kernel
theorem st_X6_lived_0 {D : Nat} {Q : APost} {ls : AL} {st : List AV} {m : AM} (h : exP (aCC D) D true (AW D 67 Q) Q bX6_lived_0 ls st m) : AW D 67 Q 0 ls st m := AW_step chk_X6_lived h
theorem st_X6_lived_14 {D : Nat} {Q : APost} {ls : AL} {st : List AV} {m : AM} (h : exP (aCC D) D true (AW D 67 Q) Q bX6_lived_14 ls st m) : AW D 67 Q 14 ls st m := AW_step chk_X6_lived h
theorem st_X6_lived_22 {D : Nat} {Q : APost} {ls : AL} {st : List AV} {m : AM} (h : exP (aCC D) D true (AW D 67 Q) Q bX6_lived_22 ls st m) : AW D 67 Q 22 ls st m := AW_step chk_X6_lived h
theorem st_X6_lived_24 {D : Nat} {Q : APost} {ls : AL} {st : List AV} {m : AM} (h : exP (aCC D) D true (AW D 67 Q) Q bX6_lived_24 ls st m) : AW D 67 Q 24 ls st m := AW_step chk_X6_lived h
set_option maxRecDepth 100000 in
theorem chk_X6_formula : chkM 68 = true := by decide +kernel
set_option maxRecDepth 100000 in
theorem own_X6_formula : ((mNm 68).cls = cNm (mOwn 68) ∧ plainName (mNm 68).cls = true) ∧ mMax 68 = 3 := by decide +kernel
theorem st_X6_formula_0 {D : Nat} {Q : APost} {ls : AL} {st : List AV} {m : AM} (h : exP (aCC D) D false (AW D 68 Q) Q bX6_formula_0 ls st m) : AW D 68 Q 0 ls st m := AW_step chk_X6_formula h
theorem st_X6_formula_9 {D : Nat} {Q : APost} {ls : AL} {st : List AV} {m : AM} (h : exP (aCC D) D false (AW D 68 Q) Q bX6_formula_9 ls st m) : AW D 68 Q 9 ls st m := AW_step chk_X6_formula h
theorem st_X6_formula_17 {D : Nat} {Q : APost} {ls : AL} {st : List AV} {m : AM} (h : exP (aCC D) D false (AW D 68 Q) Q bX6_formula_17 ls st m) : AW D 68 Q 17 ls st m := AW_step chk_X6_formula h
theorem st_X6_formula_19 {D : Nat} {Q : APost} {ls : AL} {st : List AV} {m : AM} (h : exP (aCC D) D false (AW D 68 Q) Q bX6_formula_19 ls st m) : AW D 68 Q 19 ls st m := AW_step chk_X6_formula h
set_option maxRecDepth 100000 in
theorem chk_X6_seal : chkM 69 = true := by decide +kernel
set_option maxRecDepth 100000 in
theorem own_X6_seal : ((mNm 69).cls = cNm (mOwn 69) ∧ plainName (mNm 69).cls = true) ∧ mMax 69 = 3 := by decide +kernel
theorem st_X6_seal_0 {D : Nat} {Q : APost} {ls : AL} {st : List AV} {m : AM} (h : exP (aCC D) D false (AW D 69 Q) Q bX6_seal_0 ls st m) : AW D 69 Q 0 ls st m := AW_step chk_X6_seal h
theorem st_X6_seal_9 {D : Nat} {Q : APost} {ls : AL} {st : List AV} {m : AM} (h : exP (aCC D) D false (AW D 69 Q) Q bX6_seal_9 ls st m) : AW D 69 Q 9 ls st m := AW_step chk_X6_seal h
theorem st_X6_seal_17 {D : Nat} {Q : APost} {ls : AL} {st : List AV} {m : AM} (h : exP (aCC D) D false (AW D 69 Q) Q bX6_seal_17 ls st m) : AW D 69 Q 17 ls st m := AW_step chk_X6_seal h
theorem st_X6_seal_19 {D : Nat} {Q : APost} {ls : AL} {st : List AV} {m : AM} (h : exP (aCC D) D false (AW D 69 Q) Q bX6_seal_19 ls st m) : AW D 69 Q 19 ls st m := AW_step chk_X6_seal h
set_option maxRecDepth 100000 in
theorem chk_X6_span : chkM 70 = true := by decide +kernel
set_option maxRecDepth 100000 in
theorem own_X6_span : ((mNm 70).cls = cNm (mOwn 70) ∧ plainName (mNm 70).cls = true) ∧ mMax 70 = 2 := by decide +kernel
theorem st_X6_span_0 {D : Nat} {Q : APost} {ls : AL} {st : List AV} {m : AM} (h : exP (aCC D) D true (AW D 70 Q) Q bX6_span_0 ls st m) : AW D 70 Q 0 ls st m := AW_step chk_X6_span h
theorem st_X6_span_11 {D : Nat} {Q : APost} {ls : AL} {st : List AV} {m : AM} (h : exP (aCC D) D true (AW D 70 Q) Q bX6_span_11 ls st m) : AW D 70 Q 11 ls st m := AW_step chk_X6_span h
theorem st_X6_span_13 {D : Nat} {Q : APost} {ls : AL} {st : List AV} {m : AM} (h : exP (aCC D) D true (AW D 70 Q) Q bX6_span_13 ls st m) : AW D 70 Q 13 ls st m := AW_step chk_X6_span h
set_option maxRecDepth 100000 in
theorem chk_X6_deed : chkM 71 = true := by decide +kernel
set_option maxRecDepth 100000 in
theorem own_X6_deed : ((mNm 71).cls = cNm (mOwn 71) ∧ plainName (mNm 71).cls = true) ∧ mMax 71 = 4 := by decide +kernel
theorem st_X6_deed_0 {D : Nat} {Q : APost} {ls : AL} {st : List AV} {m : AM} (h : exP (aCC D) D false (AW D 71 Q) Q bX6_deed_0 ls st m) : AW D 71 Q 0 ls st m := AW_step chk_X6_deed h
theorem st_X6_deed_9 {D : Nat} {Q : APost} {ls : AL} {st : List AV} {m : AM} (h : exP (aCC D) D false (AW D 71 Q) Q bX6_deed_9 ls st m) : AW D 71 Q 9 ls st m := AW_step chk_X6_deed h
theorem st_X6_deed_17 {D : Nat} {Q : APost} {ls : AL} {st : List AV} {m : AM} (h : exP (aCC D) D false (AW D 71 Q) Q bX6_deed_17 ls st m) : AW D 71 Q 17 ls st m := AW_step chk_X6_deed h
theorem st_X6_deed_27 {D : Nat} {Q : APost} {ls : AL} {st : List AV} {m : AM} (h : exP (aCC D) D false (AW D 71 Q) Q bX6_deed_27 ls st m) : AW D 71 Q 27 ls st m := AW_step chk_X6_deed h
theorem st_X6_deed_29 {D : Nat} {Q : APost} {ls : AL} {st : List AV} {m : AM} (h : exP (aCC D) D false (AW D 71 Q) Q bX6_deed_29 ls st m) : AW D 71 Q 29 ls st m := AW_step chk_X6_deed h
set_option maxRecDepth 100000 in
theorem chk_X6_manyOf : chkM 72 = true := by decide +kernel
set_option maxRecDepth 100000 in
theorem own_X6_manyOf : ((mNm 72).cls = cNm (mOwn 72) ∧ plainName (mNm 72).cls = true) ∧ mMax 72 = 2 := by decide +kernel
theorem st_X6_manyOf_0 {D : Nat} {Q : APost} {ls : AL} {st : List AV} {m : AM} (h : exP (aCC D) D false (AW D 72 Q) Q bX6_manyOf_0 ls st m) : AW D 72 Q 0 ls st m := AW_step chk_X6_manyOf h
theorem st_X6_manyOf_36 {D : Nat} {Q : APost} {ls : AL} {st : List AV} {m : AM} (h : exP (aCC D) D false (AW D 72 Q) Q bX6_manyOf_36 ls st m) : AW D 72 Q 36 ls st m := AW_step chk_X6_manyOf h
theorem st_X6_manyOf_41 {D : Nat} {Q : APost} {ls : AL} {st : List AV} {m : AM} (h : exP (aCC D) D false (AW D 72 Q) Q bX6_manyOf_41 ls st m) : AW D 72 Q 41 ls st m := AW_step chk_X6_manyOf h
theorem st_X6_manyOf_46 {D : Nat} {Q : APost} {ls : AL} {st : List AV} {m : AM} (h : exP (aCC D) D false (AW D 72 Q) Q bX6_manyOf_46 ls st m) : AW D 72 Q 46 ls st m := AW_step chk_X6_manyOf h
theorem st_X6_manyOf_51 {D : Nat} {Q : APost} {ls : AL} {st : List AV} {m : AM} (h : exP (aCC D) D false (AW D 72 Q) Q bX6_manyOf_51 ls st m) : AW D 72 Q 51 ls st m := AW_step chk_X6_manyOf h
theorem st_X6_manyOf_54 {D : Nat} {Q : APost} {ls : AL} {st : List AV} {m : AM} (h : exP (aCC D) D false (AW D 72 Q) Q bX6_manyOf_54 ls st m) : AW D 72 Q 54 ls st m := AW_step chk_X6_manyOf h
theorem st_X6_manyOf_59 {D : Nat} {Q : APost} {ls : AL} {st : List AV} {m : AM} (h : exP (aCC D) D false (AW D 72 Q) Q bX6_manyOf_59 ls st m) : AW D 72 Q 59 ls st m := AW_step chk_X6_manyOf h
set_option maxRecDepth 100000 in
theorem chk_X6_hasMark : chkM 73 = true := by decide +kernel
set_option maxRecDepth 100000 in
theorem own_X6_hasMark : ((mNm 73).cls = cNm (mOwn 73) ∧ plainName (mNm 73).cls = true) ∧ mMax 73 = 5 := by decide +kernel
theorem st_X6_hasMark_0 {D : Nat} {Q : APost} {ls : AL} {st : List AV} {m : AM} (h : exP (aCC D) D true (AW D 73 Q) Q bX6_hasMark_0 ls st m) : AW D 73 Q 0 ls st m := AW_step chk_X6_hasMark h
theorem st_X6_hasMark_6 {D : Nat} {Q : APost} {ls : AL} {st : List AV} {m : AM} (h : exP (aCC D) D true (AW D 73 Q) Q bX6_hasMark_6 ls st m) : AW D 73 Q 6 ls st m := AW_step chk_X6_hasMark h
theorem st_X6_hasMark_22 {D : Nat} {Q : APost} {ls : AL} {st : List AV} {m : AM} (h : exP (aCC D) D true (AW D 73 Q) Q bX6_hasMark_22 ls st m) : AW D 73 Q 22 ls st m := AW_step chk_X6_hasMark h
theorem st_X6_hasMark_33 {D : Nat} {Q : APost} {ls : AL} {st : List AV} {m : AM} (h : exP (aCC D) D true (AW D 73 Q) Q bX6_hasMark_33 ls st m) : AW D 73 Q 33 ls st m := AW_step chk_X6_hasMark h
theorem st_X6_hasMark_44 {D : Nat} {Q : APost} {ls : AL} {st : List AV} {m : AM} (h : exP (aCC D) D true (AW D 73 Q) Q bX6_hasMark_44 ls st m) : AW D 73 Q 44 ls st m := AW_step chk_X6_hasMark h
theorem st_X6_hasMark_46 {D : Nat} {Q : APost} {ls : AL} {st : List AV} {m : AM} (h : exP (aCC D) D true (AW D 73 Q) Q bX6_hasMark_46 ls st m) : AW D 73 Q 46 ls st m := AW_step chk_X6_hasMark h
theorem st_X6_hasMark_52 {D : Nat} {Q : APost} {ls : AL} {st : List AV} {m : AM} (h : exP (aCC D) D true (AW D 73 Q) Q bX6_hasMark_52 ls st m) : AW D 73 Q 52 ls st m := AW_step chk_X6_hasMark h
set_option maxRecDepth 100000 in
theorem chk_X6_mark : chkM 74 = true := by decide +kernel
set_option maxRecDepth 100000 in
theorem own_X6_mark : ((mNm 74).cls = cNm (mOwn 74) ∧ plainName (mNm 74).cls = true) ∧ mMax 74 = 4 := by decide +kernel
theorem st_X6_mark_0 {D : Nat} {Q : APost} {ls : AL} {st : List AV} {m : AM} (h : exP (aCC D) D true (AW D 74 Q) Q bX6_mark_0 ls st m) : AW D 74 Q 0 ls st m := AW_step chk_X6_mark h
theorem st_X6_mark_8 {D : Nat} {Q : APost} {ls : AL} {st : List AV} {m : AM} (h : exP (aCC D) D true (AW D 74 Q) Q bX6_mark_8 ls st m) : AW D 74 Q 8 ls st m := AW_step chk_X6_mark h
theorem st_X6_mark_23 {D : Nat} {Q : APost} {ls : AL} {st : List AV} {m : AM} (h : exP (aCC D) D true (AW D 74 Q) Q bX6_mark_23 ls st m) : AW D 74 Q 23 ls st m := AW_step chk_X6_mark h
theorem st_X6_mark_28 {D : Nat} {Q : APost} {ls : AL} {st : List AV} {m : AM} (h : exP (aCC D) D true (AW D 74 Q) Q bX6_mark_28 ls st m) : AW D 74 Q 28 ls st m := AW_step chk_X6_mark h
theorem st_X6_mark_33 {D : Nat} {Q : APost} {ls : AL} {st : List AV} {m : AM} (h : exP (aCC D) D true (AW D 74 Q) Q bX6_mark_33 ls st m) : AW D 74 Q 33 ls st m := AW_step chk_X6_mark h
theorem st_X6_mark_44 {D : Nat} {Q : APost} {ls : AL} {st : List AV} {m : AM} (h : exP (aCC D) D true (AW D 74 Q) Q bX6_mark_44 ls st m) : AW D 74 Q 44 ls st m := AW_step chk_X6_mark h
theorem st_X6_mark_54 {D : Nat} {Q : APost} {ls : AL} {st : List AV} {m : AM} (h : exP (aCC D) D true (AW D 74 Q) Q bX6_mark_54 ls st m) : AW D 74 Q 54 ls st m := AW_step chk_X6_mark h
theorem st_X6_mark_56 {D : Nat} {Q : APost} {ls : AL} {st : List AV} {m : AM} (h : exP (aCC D) D true (AW D 74 Q) Q bX6_mark_56 ls st m) : AW D 74 Q 56 ls st m := AW_step chk_X6_mark h
set_option maxRecDepth 100000 in
theorem chk_X6_narrows : chkM 75 = true := by decide +kernel
set_option maxRecDepth 100000 in
theorem own_X6_narrows : ((mNm 75).cls = cNm (mOwn 75) ∧ plainName (mNm 75).cls = true) ∧ mMax 75 = 4 := by decide +kernel
theorem st_X6_narrows_0 {D : Nat} {Q : APost} {ls : AL} {st : List AV} {m : AM} (h : exP (aCC D) D false (AW D 75 Q) Q bX6_narrows_0 ls st m) : AW D 75 Q 0 ls st m := AW_step chk_X6_narrows h
theorem st_X6_narrows_15 {D : Nat} {Q : APost} {ls : AL} {st : List AV} {m : AM} (h : exP (aCC D) D false (AW D 75 Q) Q bX6_narrows_15 ls st m) : AW D 75 Q 15 ls st m := AW_step chk_X6_narrows h
theorem st_X6_narrows_19 {D : Nat} {Q : APost} {ls : AL} {st : List AV} {m : AM} (h : exP (aCC D) D false (AW D 75 Q) Q bX6_narrows_19 ls st m) : AW D 75 Q 19 ls st m := AW_step chk_X6_narrows h
theorem st_X6_narrows_25 {D : Nat} {Q : APost} {ls : AL} {st : List AV} {m : AM} (h : exP (aCC D) D false (AW D 75 Q) Q bX6_narrows_25 ls st m) : AW D 75 Q 25 ls st m := AW_step chk_X6_narrows h
theorem st_X6_narrows_41 {D : Nat} {Q : APost} {ls : AL} {st : List AV} {m : AM} (h : exP (aCC D) D false (AW D 75 Q) Q bX6_narrows_41 ls st m) : AW D 75 Q 41 ls st m := AW_step chk_X6_narrows h
theorem st_X6_narrows_45 {D : Nat} {Q : APost} {ls : AL} {st : List AV} {m : AM} (h : exP (aCC D) D false (AW D 75 Q) Q bX6_narrows_45 ls st m) : AW D 75 Q 45 ls st m := AW_step chk_X6_narrows h
theorem st_X6_narrows_51 {D : Nat} {Q : APost} {ls : AL} {st : List AV} {m : AM} (h : exP (aCC D) D false (AW D 75 Q) Q bX6_narrows_51 ls st m) : AW D 75 Q 51 ls st m := AW_step chk_X6_narrows h
set_option maxRecDepth 100000 in
theorem chk_X6_owns : chkM 76 = true := by decide +kernel
set_option maxRecDepth 100000 in
theorem own_X6_owns : ((mNm 76).cls = cNm (mOwn 76) ∧ plainName (mNm 76).cls = true) ∧ mMax 76 = 5 := by decide +kernel
theorem st_X6_owns_0 {D : Nat} {Q : APost} {ls : AL} {st : List AV} {m : AM} (h : exP (aCC D) D false (AW D 76 Q) Q bX6_owns_0 ls st m) : AW D 76 Q 0 ls st m := AW_step chk_X6_owns h
theorem st_X6_owns_2 {D : Nat} {Q : APost} {ls : AL} {st : List AV} {m : AM} (h : exP (aCC D) D false (AW D 76 Q) Q bX6_owns_2 ls st m) : AW D 76 Q 2 ls st m := AW_step chk_X6_owns h
theorem st_X6_owns_10 {D : Nat} {Q : APost} {ls : AL} {st : List AV} {m : AM} (h : exP (aCC D) D false (AW D 76 Q) Q bX6_owns_10 ls st m) : AW D 76 Q 10 ls st m := AW_step chk_X6_owns h
theorem st_X6_owns_39 {D : Nat} {Q : APost} {ls : AL} {st : List AV} {m : AM} (h : exP (aCC D) D false (AW D 76 Q) Q bX6_owns_39 ls st m) : AW D 76 Q 39 ls st m := AW_step chk_X6_owns h
theorem st_X6_owns_54 {D : Nat} {Q : APost} {ls : AL} {st : List AV} {m : AM} (h : exP (aCC D) D false (AW D 76 Q) Q bX6_owns_54 ls st m) : AW D 76 Q 54 ls st m := AW_step chk_X6_owns h
theorem st_X6_owns_70 {D : Nat} {Q : APost} {ls : AL} {st : List AV} {m : AM} (h : exP (aCC D) D false (AW D 76 Q) Q bX6_owns_70 ls st m) : AW D 76 Q 70 ls st m := AW_step chk_X6_owns h
theorem st_X6_owns_87 {D : Nat} {Q : APost} {ls : AL} {st : List AV} {m : AM} (h : exP (aCC D) D false (AW D 76 Q) Q bX6_owns_87 ls st m) : AW D 76 Q 87 ls st m := AW_step chk_X6_owns h
theorem st_X6_owns_97 {D : Nat} {Q : APost} {ls : AL} {st : List AV} {m : AM} (h : exP (aCC D) D false (AW D 76 Q) Q bX6_owns_97 ls st m) : AW D 76 Q 97 ls st m := AW_step chk_X6_owns h
theorem st_X6_owns_114 {D : Nat} {Q : APost} {ls : AL} {st : List AV} {m : AM} (h : exP (aCC D) D false (AW D 76 Q) Q bX6_owns_114 ls st m) : AW D 76 Q 114 ls st m := AW_step chk_X6_owns h
theorem st_X6_owns_124 {D : Nat} {Q : APost} {ls : AL} {st : List AV} {m : AM} (h : exP (aCC D) D false (AW D 76 Q) Q bX6_owns_124 ls st m) : AW D 76 Q 124 ls st m := AW_step chk_X6_owns h
theorem st_X6_owns_141 {D : Nat} {Q : APost} {ls : AL} {st : List AV} {m : AM} (h : exP (aCC D) D false (AW D 76 Q) Q bX6_owns_141 ls st m) : AW D 76 Q 141 ls st m := AW_step chk_X6_owns h
theorem st_X6_owns_147 {D : Nat} {Q : APost} {ls : AL} {st : List AV} {m : AM} (h : exP (aCC D) D false (AW D 76 Q) Q bX6_owns_147 ls st m) : AW D 76 Q 147 ls st m := AW_step chk_X6_owns h
theorem st_X6_owns_149 {D : Nat} {Q : APost} {ls : AL} {st : List AV} {m : AM} (h : exP (aCC D) D false (AW D 76 Q) Q bX6_owns_149 ls st m) : AW D 76 Q 149 ls st m := AW_step chk_X6_owns h
theorem st_X6_owns_157 {D : Nat} {Q : APost} {ls : AL} {st : List AV} {m : AM} (h : exP (aCC D) D false (AW D 76 Q) Q bX6_owns_157 ls st m) : AW D 76 Q 157 ls st m := AW_step chk_X6_owns h
theorem st_X6_owns_162 {D : Nat} {Q : APost} {ls : AL} {st : List AV} {m : AM} (h : exP (aCC D) D false (AW D 76 Q) Q bX6_owns_162 ls st m) : AW D 76 Q 162 ls st m := AW_step chk_X6_owns h
theorem st_X6_owns_169 {D : Nat} {Q : APost} {ls : AL} {st : List AV} {m : AM} (h : exP (aCC D) D false (AW D 76 Q) Q bX6_owns_169 ls st m) : AW D 76 Q 169 ls st m := AW_step chk_X6_owns h
theorem st_X6_owns_173 {D : Nat} {Q : APost} {ls : AL} {st : List AV} {m : AM} (h : exP (aCC D) D false (AW D 76 Q) Q bX6_owns_173 ls st m) : AW D 76 Q 173 ls st m := AW_step chk_X6_owns h
theorem st_X6_owns_184 {D : Nat} {Q : APost} {ls : AL} {st : List AV} {m : AM} (h : exP (aCC D) D false (AW D 76 Q) Q bX6_owns_184 ls st m) : AW D 76 Q 184 ls st m := AW_step chk_X6_owns h
theorem st_X6_owns_195 {D : Nat} {Q : APost} {ls : AL} {st : List AV} {m : AM} (h : exP (aCC D) D false (AW D 76 Q) Q bX6_owns_195 ls st m) : AW D 76 Q 195 ls st m := AW_step chk_X6_owns h
theorem st_X6_owns_199 {D : Nat} {Q : APost} {ls : AL} {st : List AV} {m : AM} (h : exP (aCC D) D false (AW D 76 Q) Q bX6_owns_199 ls st m) : AW D 76 Q 199 ls st m := AW_step chk_X6_owns h
theorem st_X6_owns_200 {D : Nat} {Q : APost} {ls : AL} {st : List AV} {m : AM} (h : exP (aCC D) D false (AW D 76 Q) Q bX6_owns_200 ls st m) : AW D 76 Q 200 ls st m := AW_step chk_X6_owns h
theorem st_X6_owns_207 {D : Nat} {Q : APost} {ls : AL} {st : List AV} {m : AM} (h : exP (aCC D) D false (AW D 76 Q) Q bX6_owns_207 ls st m) : AW D 76 Q 207 ls st m := AW_step chk_X6_owns h
theorem st_X6_owns_243 {D : Nat} {Q : APost} {ls : AL} {st : List AV} {m : AM} (h : exP (aCC D) D false (AW D 76 Q) Q bX6_owns_243 ls st m) : AW D 76 Q 243 ls st m := AW_step chk_X6_owns h
theorem st_X6_owns_249 {D : Nat} {Q : APost} {ls : AL} {st : List AV} {m : AM} (h : exP (aCC D) D false (AW D 76 Q) Q bX6_owns_249 ls st m) : AW D 76 Q 249 ls st m := AW_step chk_X6_owns h
set_option maxRecDepth 100000 in
theorem chk_X6_ups : chkM 77 = true := by decide +kernel
set_option maxRecDepth 100000 in
theorem own_X6_ups : ((mNm 77).cls = cNm (mOwn 77) ∧ plainName (mNm 77).cls = true) ∧ mMax 77 = 6 := by decide +kernel
theorem st_X6_ups_0 {D : Nat} {Q : APost} {ls : AL} {st : List AV} {m : AM} (h : exP (aCC D) D false (AW D 77 Q) Q bX6_ups_0 ls st m) : AW D 77 Q 0 ls st m := AW_step chk_X6_ups h
theorem st_X6_ups_2 {D : Nat} {Q : APost} {ls : AL} {st : List AV} {m : AM} (h : exP (aCC D) D false (AW D 77 Q) Q bX6_ups_2 ls st m) : AW D 77 Q 2 ls st m := AW_step chk_X6_ups h
theorem st_X6_ups_10 {D : Nat} {Q : APost} {ls : AL} {st : List AV} {m : AM} (h : exP (aCC D) D false (AW D 77 Q) Q bX6_ups_10 ls st m) : AW D 77 Q 10 ls st m := AW_step chk_X6_ups h
theorem st_X6_ups_28 {D : Nat} {Q : APost} {ls : AL} {st : List AV} {m : AM} (h : exP (aCC D) D false (AW D 77 Q) Q bX6_ups_28 ls st m) : AW D 77 Q 28 ls st m := AW_step chk_X6_ups h
theorem st_X6_ups_30 {D : Nat} {Q : APost} {ls : AL} {st : List AV} {m : AM} (h : exP (aCC D) D false (AW D 77 Q) Q bX6_ups_30 ls st m) : AW D 77 Q 30 ls st m := AW_step chk_X6_ups h
theorem st_X6_ups_34 {D : Nat} {Q : APost} {ls : AL} {st : List AV} {m : AM} (h : exP (aCC D) D false (AW D 77 Q) Q bX6_ups_34 ls st m) : AW D 77 Q 34 ls st m := AW_step chk_X6_ups h
theorem st_X6_ups_38 {D : Nat} {Q : APost} {ls : AL} {st : List AV} {m : AM} (h : exP (aCC D) D false (AW D 77 Q) Q bX6_ups_38 ls st m) : AW D 77 Q 38 ls st m := AW_step chk_X6_ups h
theorem st_X6_ups_46 {D : Nat} {Q : APost} {ls : AL} {st : List AV} {m : AM} (h : exP (aCC D) D false (AW D 77 Q) Q bX6_ups_46 ls st m) : AW D 77 Q 46 ls st m := AW_step chk_X6_ups h
theorem st_X6_ups_49 {D : Nat} {Q : APost} {ls : AL} {st : List AV} {m : AM} (h : exP (aCC D) D false (AW D 77 Q) Q bX6_ups_49 ls st m) : AW D 77 Q 49 ls st m := AW_step chk_X6_ups h
theorem st_X6_ups_58 {D : Nat} {Q : APost} {ls : AL} {st : List AV} {m : AM} (h : exP (aCC D) D false (AW D 77 Q) Q bX6_ups_58 ls st m) : AW D 77 Q 58 ls st m := AW_step chk_X6_ups h
theorem st_X6_ups_64 {D : Nat} {Q : APost} {ls : AL} {st : List AV} {m : AM} (h : exP (aCC D) D false (AW D 77 Q) Q bX6_ups_64 ls st m) : AW D 77 Q 64 ls st m := AW_step chk_X6_ups h
theorem st_X6_ups_72 {D : Nat} {Q : APost} {ls : AL} {st : List AV} {m : AM} (h : exP (aCC D) D false (AW D 77 Q) Q bX6_ups_72 ls st m) : AW D 77 Q 72 ls st m := AW_step chk_X6_ups h
theorem st_X6_ups_81 {D : Nat} {Q : APost} {ls : AL} {st : List AV} {m : AM} (h : exP (aCC D) D false (AW D 77 Q) Q bX6_ups_81 ls st m) : AW D 77 Q 81 ls st m := AW_step chk_X6_ups h
theorem st_X6_ups_84 {D : Nat} {Q : APost} {ls : AL} {st : List AV} {m : AM} (h : exP (aCC D) D false (AW D 77 Q) Q bX6_ups_84 ls st m) : AW D 77 Q 84 ls st m := AW_step chk_X6_ups h
theorem st_X6_ups_99 {D : Nat} {Q : APost} {ls : AL} {st : List AV} {m : AM} (h : exP (aCC D) D false (AW D 77 Q) Q bX6_ups_99 ls st m) : AW D 77 Q 99 ls st m := AW_step chk_X6_ups h
theorem st_X6_ups_109 {D : Nat} {Q : APost} {ls : AL} {st : List AV} {m : AM} (h : exP (aCC D) D false (AW D 77 Q) Q bX6_ups_109 ls st m) : AW D 77 Q 109 ls st m := AW_step chk_X6_ups h
theorem st_X6_ups_124 {D : Nat} {Q : APost} {ls : AL} {st : List AV} {m : AM} (h : exP (aCC D) D false (AW D 77 Q) Q bX6_ups_124 ls st m) : AW D 77 Q 124 ls st m := AW_step chk_X6_ups h
theorem st_X6_ups_139 {D : Nat} {Q : APost} {ls : AL} {st : List AV} {m : AM} (h : exP (aCC D) D false (AW D 77 Q) Q bX6_ups_139 ls st m) : AW D 77 Q 139 ls st m := AW_step chk_X6_ups h
theorem st_X6_ups_145 {D : Nat} {Q : APost} {ls : AL} {st : List AV} {m : AM} (h : exP (aCC D) D false (AW D 77 Q) Q bX6_ups_145 ls st m) : AW D 77 Q 145 ls st m := AW_step chk_X6_ups h
theorem st_X6_ups_158 {D : Nat} {Q : APost} {ls : AL} {st : List AV} {m : AM} (h : exP (aCC D) D false (AW D 77 Q) Q bX6_ups_158 ls st m) : AW D 77 Q 158 ls st m := AW_step chk_X6_ups h
theorem st_X6_ups_161 {D : Nat} {Q : APost} {ls : AL} {st : List AV} {m : AM} (h : exP (aCC D) D false (AW D 77 Q) Q bX6_ups_161 ls st m) : AW D 77 Q 161 ls st m := AW_step chk_X6_ups h
theorem st_X6_ups_171 {D : Nat} {Q : APost} {ls : AL} {st : List AV} {m : AM} (h : exP (aCC D) D false (AW D 77 Q) Q bX6_ups_171 ls st m) : AW D 77 Q 171 ls st m := AW_step chk_X6_ups h
theorem st_X6_ups_177 {D : Nat} {Q : APost} {ls : AL} {st : List AV} {m : AM} (h : exP (aCC D) D false (AW D 77 Q) Q bX6_ups_177 ls st m) : AW D 77 Q 177 ls st m := AW_step chk_X6_ups h
theorem st_X6_ups_183 {D : Nat} {Q : APost} {ls : AL} {st : List AV} {m : AM} (h : exP (aCC D) D false (AW D 77 Q) Q bX6_ups_183 ls st m) : AW D 77 Q 183 ls st m := AW_step chk_X6_ups h
theorem st_X6_ups_186 {D : Nat} {Q : APost} {ls : AL} {st : List AV} {m : AM} (h : exP (aCC D) D false (AW D 77 Q) Q bX6_ups_186 ls st m) : AW D 77 Q 186 ls st m := AW_step chk_X6_ups h
set_option maxRecDepth 100000 in
theorem chk_X6_downs : chkM 78 = true := by decide +kernel
set_option maxRecDepth 100000 in
theorem own_X6_downs : ((mNm 78).cls = cNm (mOwn 78) ∧ plainName (mNm 78).cls = true) ∧ mMax 78 = 6 := by decide +kernel
theorem st_X6_downs_0 {D : Nat} {Q : APost} {ls : AL} {st : List AV} {m : AM} (h : exP (aCC D) D false (AW D 78 Q) Q bX6_downs_0 ls st m) : AW D 78 Q 0 ls st m := AW_step chk_X6_downs h
theorem st_X6_downs_2 {D : Nat} {Q : APost} {ls : AL} {st : List AV} {m : AM} (h : exP (aCC D) D false (AW D 78 Q) Q bX6_downs_2 ls st m) : AW D 78 Q 2 ls st m := AW_step chk_X6_downs h
theorem st_X6_downs_10 {D : Nat} {Q : APost} {ls : AL} {st : List AV} {m : AM} (h : exP (aCC D) D false (AW D 78 Q) Q bX6_downs_10 ls st m) : AW D 78 Q 10 ls st m := AW_step chk_X6_downs h
theorem st_X6_downs_28 {D : Nat} {Q : APost} {ls : AL} {st : List AV} {m : AM} (h : exP (aCC D) D false (AW D 78 Q) Q bX6_downs_28 ls st m) : AW D 78 Q 28 ls st m := AW_step chk_X6_downs h
theorem st_X6_downs_30 {D : Nat} {Q : APost} {ls : AL} {st : List AV} {m : AM} (h : exP (aCC D) D false (AW D 78 Q) Q bX6_downs_30 ls st m) : AW D 78 Q 30 ls st m := AW_step chk_X6_downs h
theorem st_X6_downs_34 {D : Nat} {Q : APost} {ls : AL} {st : List AV} {m : AM} (h : exP (aCC D) D false (AW D 78 Q) Q bX6_downs_34 ls st m) : AW D 78 Q 34 ls st m := AW_step chk_X6_downs h
theorem st_X6_downs_38 {D : Nat} {Q : APost} {ls : AL} {st : List AV} {m : AM} (h : exP (aCC D) D false (AW D 78 Q) Q bX6_downs_38 ls st m) : AW D 78 Q 38 ls st m := AW_step chk_X6_downs h
theorem st_X6_downs_46 {D : Nat} {Q : APost} {ls : AL} {st : List AV} {m : AM} (h : exP (aCC D) D false (AW D 78 Q) Q bX6_downs_46 ls st m) : AW D 78 Q 46 ls st m := AW_step chk_X6_downs h
theorem st_X6_downs_49 {D : Nat} {Q : APost} {ls : AL} {st : List AV} {m : AM} (h : exP (aCC D) D false (AW D 78 Q) Q bX6_downs_49 ls st m) : AW D 78 Q 49 ls st m := AW_step chk_X6_downs h
theorem st_X6_downs_58 {D : Nat} {Q : APost} {ls : AL} {st : List AV} {m : AM} (h : exP (aCC D) D false (AW D 78 Q) Q bX6_downs_58 ls st m) : AW D 78 Q 58 ls st m := AW_step chk_X6_downs h
theorem st_X6_downs_64 {D : Nat} {Q : APost} {ls : AL} {st : List AV} {m : AM} (h : exP (aCC D) D false (AW D 78 Q) Q bX6_downs_64 ls st m) : AW D 78 Q 64 ls st m := AW_step chk_X6_downs h
theorem st_X6_downs_72 {D : Nat} {Q : APost} {ls : AL} {st : List AV} {m : AM} (h : exP (aCC D) D false (AW D 78 Q) Q bX6_downs_72 ls st m) : AW D 78 Q 72 ls st m := AW_step chk_X6_downs h
theorem st_X6_downs_81 {D : Nat} {Q : APost} {ls : AL} {st : List AV} {m : AM} (h : exP (aCC D) D false (AW D 78 Q) Q bX6_downs_81 ls st m) : AW D 78 Q 81 ls st m := AW_step chk_X6_downs h
theorem st_X6_downs_84 {D : Nat} {Q : APost} {ls : AL} {st : List AV} {m : AM} (h : exP (aCC D) D false (AW D 78 Q) Q bX6_downs_84 ls st m) : AW D 78 Q 84 ls st m := AW_step chk_X6_downs h
theorem st_X6_downs_99 {D : Nat} {Q : APost} {ls : AL} {st : List AV} {m : AM} (h : exP (aCC D) D false (AW D 78 Q) Q bX6_downs_99 ls st m) : AW D 78 Q 99 ls st m := AW_step chk_X6_downs h
theorem st_X6_downs_109 {D : Nat} {Q : APost} {ls : AL} {st : List AV} {m : AM} (h : exP (aCC D) D false (AW D 78 Q) Q bX6_downs_109 ls st m) : AW D 78 Q 109 ls st m := AW_step chk_X6_downs h
theorem st_X6_downs_124 {D : Nat} {Q : APost} {ls : AL} {st : List AV} {m : AM} (h : exP (aCC D) D false (AW D 78 Q) Q bX6_downs_124 ls st m) : AW D 78 Q 124 ls st m := AW_step chk_X6_downs h
theorem st_X6_downs_139 {D : Nat} {Q : APost} {ls : AL} {st : List AV} {m : AM} (h : exP (aCC D) D false (AW D 78 Q) Q bX6_downs_139 ls st m) : AW D 78 Q 139 ls st m := AW_step chk_X6_downs h
theorem st_X6_downs_145 {D : Nat} {Q : APost} {ls : AL} {st : List AV} {m : AM} (h : exP (aCC D) D false (AW D 78 Q) Q bX6_downs_145 ls st m) : AW D 78 Q 145 ls st m := AW_step chk_X6_downs h
theorem st_X6_downs_158 {D : Nat} {Q : APost} {ls : AL} {st : List AV} {m : AM} (h : exP (aCC D) D false (AW D 78 Q) Q bX6_downs_158 ls st m) : AW D 78 Q 158 ls st m := AW_step chk_X6_downs h
theorem st_X6_downs_161 {D : Nat} {Q : APost} {ls : AL} {st : List AV} {m : AM} (h : exP (aCC D) D false (AW D 78 Q) Q bX6_downs_161 ls st m) : AW D 78 Q 161 ls st m := AW_step chk_X6_downs h
theorem st_X6_downs_171 {D : Nat} {Q : APost} {ls : AL} {st : List AV} {m : AM} (h : exP (aCC D) D false (AW D 78 Q) Q bX6_downs_171 ls st m) : AW D 78 Q 171 ls st m := AW_step chk_X6_downs h
theorem st_X6_downs_177 {D : Nat} {Q : APost} {ls : AL} {st : List AV} {m : AM} (h : exP (aCC D) D false (AW D 78 Q) Q bX6_downs_177 ls st m) : AW D 78 Q 177 ls st m := AW_step chk_X6_downs h
theorem st_X6_downs_183 {D : Nat} {Q : APost} {ls : AL} {st : List AV} {m : AM} (h : exP (aCC D) D false (AW D 78 Q) Q bX6_downs_183 ls st m) : AW D 78 Q 183 ls st m := AW_step chk_X6_downs h
theorem st_X6_downs_186 {D : Nat} {Q : APost} {ls : AL} {st : List AV} {m : AM} (h : exP (aCC D) D false (AW D 78 Q) Q bX6_downs_186 ls st m) : AW D 78 Q 186 ls st m := AW_step chk_X6_downs h
set_option maxRecDepth 100000 in
theorem chk_X6_agrees : chkM 79 = true := by decide +kernel
set_option maxRecDepth 100000 in
theorem own_X6_agrees : ((mNm 79).cls = cNm (mOwn 79) ∧ plainName (mNm 79).cls = true) ∧ mMax 79 = 3 := by decide +kernel
theorem st_X6_agrees_0 {D : Nat} {Q : APost} {ls : AL} {st : List AV} {m : AM} (h : exP (aCC D) D true (AW D 79 Q) Q bX6_agrees_0 ls st m) : AW D 79 Q 0 ls st m := AW_step chk_X6_agrees h
theorem st_X6_agrees_2 {D : Nat} {Q : APost} {ls : AL} {st : List AV} {m : AM} (h : exP (aCC D) D true (AW D 79 Q) Q bX6_agrees_2 ls st m) : AW D 79 Q 2 ls st m := AW_step chk_X6_agrees h
theorem st_X6_agrees_10 {D : Nat} {Q : APost} {ls : AL} {st : List AV} {m : AM} (h : exP (aCC D) D true (AW D 79 Q) Q bX6_agrees_10 ls st m) : AW D 79 Q 10 ls st m := AW_step chk_X6_agrees h
theorem st_X6_agrees_18 {D : Nat} {Q : APost} {ls : AL} {st : List AV} {m : AM} (h : exP (aCC D) D true (AW D 79 Q) Q bX6_agrees_18 ls st m) : AW D 79 Q 18 ls st m := AW_step chk_X6_agrees h
theorem st_X6_agrees_33 {D : Nat} {Q : APost} {ls : AL} {st : List AV} {m : AM} (h : exP (aCC D) D true (AW D 79 Q) Q bX6_agrees_33 ls st m) : AW D 79 Q 33 ls st m := AW_step chk_X6_agrees h
theorem st_X6_agrees_35 {D : Nat} {Q : APost} {ls : AL} {st : List AV} {m : AM} (h : exP (aCC D) D true (AW D 79 Q) Q bX6_agrees_35 ls st m) : AW D 79 Q 35 ls st m := AW_step chk_X6_agrees h
theorem st_X6_agrees_41 {D : Nat} {Q : APost} {ls : AL} {st : List AV} {m : AM} (h : exP (aCC D) D true (AW D 79 Q) Q bX6_agrees_41 ls st m) : AW D 79 Q 41 ls st m := AW_step chk_X6_agrees h
theorem st_X6_agrees_48 {D : Nat} {Q : APost} {ls : AL} {st : List AV} {m : AM} (h : exP (aCC D) D true (AW D 79 Q) Q bX6_agrees_48 ls st m) : AW D 79 Q 48 ls st m := AW_step chk_X6_agrees h
theorem st_X6_agrees_56 {D : Nat} {Q : APost} {ls : AL} {st : List AV} {m : AM} (h : exP (aCC D) D true (AW D 79 Q) Q bX6_agrees_56 ls st m) : AW D 79 Q 56 ls st m := AW_step chk_X6_agrees h
theorem st_X6_agrees_64 {D : Nat} {Q : APost} {ls : AL} {st : List AV} {m : AM} (h : exP (aCC D) D true (AW D 79 Q) Q bX6_agrees_64 ls st m) : AW D 79 Q 64 ls st m := AW_step chk_X6_agrees h
theorem st_X6_agrees_79 {D : Nat} {Q : APost} {ls : AL} {st : List AV} {m : AM} (h : exP (aCC D) D true (AW D 79 Q) Q bX6_agrees_79 ls st m) : AW D 79 Q 79 ls st m := AW_step chk_X6_agrees h
theorem st_X6_agrees_81 {D : Nat} {Q : APost} {ls : AL} {st : List AV} {m : AM} (h : exP (aCC D) D true (AW D 79 Q) Q bX6_agrees_81 ls st m) : AW D 79 Q 81 ls st m := AW_step chk_X6_agrees h
theorem st_X6_agrees_87 {D : Nat} {Q : APost} {ls : AL} {st : List AV} {m : AM} (h : exP (aCC D) D true (AW D 79 Q) Q bX6_agrees_87 ls st m) : AW D 79 Q 87 ls st m := AW_step chk_X6_agrees h
set_option maxRecDepth 100000 in
theorem chk_X6_weightOf : chkM 80 = true := by decide +kernel
set_option maxRecDepth 100000 in
theorem own_X6_weightOf : ((mNm 80).cls = cNm (mOwn 80) ∧ plainName (mNm 80).cls = true) ∧ mMax 80 = 4 := by decide +kernel
theorem st_X6_weightOf_0 {D : Nat} {Q : APost} {ls : AL} {st : List AV} {m : AM} (h : exP (aCC D) D false (AW D 80 Q) Q bX6_weightOf_0 ls st m) : AW D 80 Q 0 ls st m := AW_step chk_X6_weightOf h
theorem st_X6_weightOf_4 {D : Nat} {Q : APost} {ls : AL} {st : List AV} {m : AM} (h : exP (aCC D) D false (AW D 80 Q) Q bX6_weightOf_4 ls st m) : AW D 80 Q 4 ls st m := AW_step chk_X6_weightOf h
theorem st_X6_weightOf_12 {D : Nat} {Q : APost} {ls : AL} {st : List AV} {m : AM} (h : exP (aCC D) D false (AW D 80 Q) Q bX6_weightOf_12 ls st m) : AW D 80 Q 12 ls st m := AW_step chk_X6_weightOf h
theorem st_X6_weightOf_21 {D : Nat} {Q : APost} {ls : AL} {st : List AV} {m : AM} (h : exP (aCC D) D false (AW D 80 Q) Q bX6_weightOf_21 ls st m) : AW D 80 Q 21 ls st m := AW_step chk_X6_weightOf h
theorem st_X6_weightOf_30 {D : Nat} {Q : APost} {ls : AL} {st : List AV} {m : AM} (h : exP (aCC D) D false (AW D 80 Q) Q bX6_weightOf_30 ls st m) : AW D 80 Q 30 ls st m := AW_step chk_X6_weightOf h
theorem st_X6_weightOf_31 {D : Nat} {Q : APost} {ls : AL} {st : List AV} {m : AM} (h : exP (aCC D) D false (AW D 80 Q) Q bX6_weightOf_31 ls st m) : AW D 80 Q 31 ls st m := AW_step chk_X6_weightOf h
theorem st_X6_weightOf_39 {D : Nat} {Q : APost} {ls : AL} {st : List AV} {m : AM} (h : exP (aCC D) D false (AW D 80 Q) Q bX6_weightOf_39 ls st m) : AW D 80 Q 39 ls st m := AW_step chk_X6_weightOf h
set_option maxRecDepth 100000 in
theorem chk_X6_sizeOf : chkM 81 = true := by decide +kernel
set_option maxRecDepth 100000 in
theorem own_X6_sizeOf : ((mNm 81).cls = cNm (mOwn 81) ∧ plainName (mNm 81).cls = true) ∧ mMax 81 = 3 := by decide +kernel
theorem st_X6_sizeOf_0 {D : Nat} {Q : APost} {ls : AL} {st : List AV} {m : AM} (h : exP (aCC D) D false (AW D 81 Q) Q bX6_sizeOf_0 ls st m) : AW D 81 Q 0 ls st m := AW_step chk_X6_sizeOf h
theorem st_X6_sizeOf_4 {D : Nat} {Q : APost} {ls : AL} {st : List AV} {m : AM} (h : exP (aCC D) D false (AW D 81 Q) Q bX6_sizeOf_4 ls st m) : AW D 81 Q 4 ls st m := AW_step chk_X6_sizeOf h
theorem st_X6_sizeOf_8 {D : Nat} {Q : APost} {ls : AL} {st : List AV} {m : AM} (h : exP (aCC D) D false (AW D 81 Q) Q bX6_sizeOf_8 ls st m) : AW D 81 Q 8 ls st m := AW_step chk_X6_sizeOf h
theorem st_X6_sizeOf_20 {D : Nat} {Q : APost} {ls : AL} {st : List AV} {m : AM} (h : exP (aCC D) D false (AW D 81 Q) Q bX6_sizeOf_20 ls st m) : AW D 81 Q 20 ls st m := AW_step chk_X6_sizeOf h
set_option maxRecDepth 100000 in
theorem chk_X6_works : chkM 82 = true := by decide +kernel
set_option maxRecDepth 100000 in
theorem own_X6_works : ((mNm 82).cls = cNm (mOwn 82) ∧ plainName (mNm 82).cls = true) ∧ mMax 82 = 4 := by decide +kernel
theorem st_X6_works_0 {D : Nat} {Q : APost} {ls : AL} {st : List AV} {m : AM} (h : exP (aCC D) D false (AW D 82 Q) Q bX6_works_0 ls st m) : AW D 82 Q 0 ls st m := AW_step chk_X6_works h
theorem st_X6_works_7 {D : Nat} {Q : APost} {ls : AL} {st : List AV} {m : AM} (h : exP (aCC D) D false (AW D 82 Q) Q bX6_works_7 ls st m) : AW D 82 Q 7 ls st m := AW_step chk_X6_works h
theorem st_X6_works_8 {D : Nat} {Q : APost} {ls : AL} {st : List AV} {m : AM} (h : exP (aCC D) D false (AW D 82 Q) Q bX6_works_8 ls st m) : AW D 82 Q 8 ls st m := AW_step chk_X6_works h
theorem st_X6_works_33 {D : Nat} {Q : APost} {ls : AL} {st : List AV} {m : AM} (h : exP (aCC D) D false (AW D 82 Q) Q bX6_works_33 ls st m) : AW D 82 Q 33 ls st m := AW_step chk_X6_works h
theorem st_X6_works_38 {D : Nat} {Q : APost} {ls : AL} {st : List AV} {m : AM} (h : exP (aCC D) D false (AW D 82 Q) Q bX6_works_38 ls st m) : AW D 82 Q 38 ls st m := AW_step chk_X6_works h
theorem st_X6_works_58 {D : Nat} {Q : APost} {ls : AL} {st : List AV} {m : AM} (h : exP (aCC D) D false (AW D 82 Q) Q bX6_works_58 ls st m) : AW D 82 Q 58 ls st m := AW_step chk_X6_works h
theorem st_X6_works_65 {D : Nat} {Q : APost} {ls : AL} {st : List AV} {m : AM} (h : exP (aCC D) D false (AW D 82 Q) Q bX6_works_65 ls st m) : AW D 82 Q 65 ls st m := AW_step chk_X6_works h
theorem st_X6_works_79 {D : Nat} {Q : APost} {ls : AL} {st : List AV} {m : AM} (h : exP (aCC D) D false (AW D 82 Q) Q bX6_works_79 ls st m) : AW D 82 Q 79 ls st m := AW_step chk_X6_works h
theorem st_X6_works_84 {D : Nat} {Q : APost} {ls : AL} {st : List AV} {m : AM} (h : exP (aCC D) D false (AW D 82 Q) Q bX6_works_84 ls st m) : AW D 82 Q 84 ls st m := AW_step chk_X6_works h
theorem st_X6_works_90 {D : Nat} {Q : APost} {ls : AL} {st : List AV} {m : AM} (h : exP (aCC D) D false (AW D 82 Q) Q bX6_works_90 ls st m) : AW D 82 Q 90 ls st m := AW_step chk_X6_works h
theorem st_X6_works_97 {D : Nat} {Q : APost} {ls : AL} {st : List AV} {m : AM} (h : exP (aCC D) D false (AW D 82 Q) Q bX6_works_97 ls st m) : AW D 82 Q 97 ls st m := AW_step chk_X6_works h
theorem st_X6_works_101 {D : Nat} {Q : APost} {ls : AL} {st : List AV} {m : AM} (h : exP (aCC D) D false (AW D 82 Q) Q bX6_works_101 ls st m) : AW D 82 Q 101 ls st m := AW_step chk_X6_works h
theorem st_X6_works_114 {D : Nat} {Q : APost} {ls : AL} {st : List AV} {m : AM} (h : exP (aCC D) D false (AW D 82 Q) Q bX6_works_114 ls st m) : AW D 82 Q 114 ls st m := AW_step chk_X6_works h
theorem st_X6_works_117 {D : Nat} {Q : APost} {ls : AL} {st : List AV} {m : AM} (h : exP (aCC D) D false (AW D 82 Q) Q bX6_works_117 ls st m) : AW D 82 Q 117 ls st m := AW_step chk_X6_works h
theorem st_X6_works_136 {D : Nat} {Q : APost} {ls : AL} {st : List AV} {m : AM} (h : exP (aCC D) D false (AW D 82 Q) Q bX6_works_136 ls st m) : AW D 82 Q 136 ls st m := AW_step chk_X6_works h
theorem st_X6_works_140 {D : Nat} {Q : APost} {ls : AL} {st : List AV} {m : AM} (h : exP (aCC D) D false (AW D 82 Q) Q bX6_works_140 ls st m) : AW D 82 Q 140 ls st m := AW_step chk_X6_works h
theorem st_X6_works_154 {D : Nat} {Q : APost} {ls : AL} {st : List AV} {m : AM} (h : exP (aCC D) D false (AW D 82 Q) Q bX6_works_154 ls st m) : AW D 82 Q 154 ls st m := AW_step chk_X6_works h
theorem st_X6_works_159 {D : Nat} {Q : APost} {ls : AL} {st : List AV} {m : AM} (h : exP (aCC D) D false (AW D 82 Q) Q bX6_works_159 ls st m) : AW D 82 Q 159 ls st m := AW_step chk_X6_works h
theorem st_X6_works_165 {D : Nat} {Q : APost} {ls : AL} {st : List AV} {m : AM} (h : exP (aCC D) D false (AW D 82 Q) Q bX6_works_165 ls st m) : AW D 82 Q 165 ls st m := AW_step chk_X6_works h
set_option maxRecDepth 100000 in
theorem chk_X6_isSet : chkM 83 = true := by decide +kernel
set_option maxRecDepth 100000 in
theorem own_X6_isSet : ((mNm 83).cls = cNm (mOwn 83) ∧ plainName (mNm 83).cls = true) ∧ mMax 83 = 2 := by decide +kernel
theorem st_X6_isSet_0 {D : Nat} {Q : APost} {ls : AL} {st : List AV} {m : AM} (h : exP (aCC D) D true (AW D 83 Q) Q bX6_isSet_0 ls st m) : AW D 83 Q 0 ls st m := AW_step chk_X6_isSet h
set_option maxRecDepth 100000 in
theorem chk_X6_agree : chkM 84 = true := by decide +kernel
set_option maxRecDepth 100000 in
theorem own_X6_agree : ((mNm 84).cls = cNm (mOwn 84) ∧ plainName (mNm 84).cls = true) ∧ mMax 84 = 2 := by decide +kernel
theorem st_X6_agree_0 {D : Nat} {Q : APost} {ls : AL} {st : List AV} {m : AM} (h : exP (aCC D) D false (AW D 84 Q) Q bX6_agree_0 ls st m) : AW D 84 Q 0 ls st m := AW_step chk_X6_agree h
theorem st_X6_agree_8 {D : Nat} {Q : APost} {ls : AL} {st : List AV} {m : AM} (h : exP (aCC D) D false (AW D 84 Q) Q bX6_agree_8 ls st m) : AW D 84 Q 8 ls st m := AW_step chk_X6_agree h
theorem st_X6_agree_10 {D : Nat} {Q : APost} {ls : AL} {st : List AV} {m : AM} (h : exP (aCC D) D false (AW D 84 Q) Q bX6_agree_10 ls st m) : AW D 84 Q 10 ls st m := AW_step chk_X6_agree h
theorem st_X6_agree_23 {D : Nat} {Q : APost} {ls : AL} {st : List AV} {m : AM} (h : exP (aCC D) D false (AW D 84 Q) Q bX6_agree_23 ls st m) : AW D 84 Q 23 ls st m := AW_step chk_X6_agree h
theorem st_X6_agree_27 {D : Nat} {Q : APost} {ls : AL} {st : List AV} {m : AM} (h : exP (aCC D) D false (AW D 84 Q) Q bX6_agree_27 ls st m) : AW D 84 Q 27 ls st m := AW_step chk_X6_agree h
theorem st_X6_agree_28 {D : Nat} {Q : APost} {ls : AL} {st : List AV} {m : AM} (h : exP (aCC D) D false (AW D 84 Q) Q bX6_agree_28 ls st m) : AW D 84 Q 28 ls st m := AW_step chk_X6_agree h
set_option maxRecDepth 100000 in
theorem chk_X6_forged : chkM 85 = true := by decide +kernel
set_option maxRecDepth 100000 in
theorem own_X6_forged : ((mNm 85).cls = cNm (mOwn 85) ∧ plainName (mNm 85).cls = true) ∧ mMax 85 = 1 := by decide +kernel
theorem st_X6_forged_0 {D : Nat} {Q : APost} {ls : AL} {st : List AV} {m : AM} (h : exP (aCC D) D false (AW D 85 Q) Q bX6_forged_0 ls st m) : AW D 85 Q 0 ls st m := AW_step chk_X6_forged h
set_option maxRecDepth 100000 in
theorem chk_X6_weight : chkM 86 = true := by decide +kernel
set_option maxRecDepth 100000 in
theorem own_X6_weight : ((mNm 86).cls = cNm (mOwn 86) ∧ plainName (mNm 86).cls = true) ∧ mMax 86 = 2 := by decide +kernel
theorem st_X6_weight_0 {D : Nat} {Q : APost} {ls : AL} {st : List AV} {m : AM} (h : exP (aCC D) D false (AW D 86 Q) Q bX6_weight_0 ls st m) : AW D 86 Q 0 ls st m := AW_step chk_X6_weight h
theorem st_X6_weight_8 {D : Nat} {Q : APost} {ls : AL} {st : List AV} {m : AM} (h : exP (aCC D) D false (AW D 86 Q) Q bX6_weight_8 ls st m) : AW D 86 Q 8 ls st m := AW_step chk_X6_weight h
theorem st_X6_weight_16 {D : Nat} {Q : APost} {ls : AL} {st : List AV} {m : AM} (h : exP (aCC D) D false (AW D 86 Q) Q bX6_weight_16 ls st m) : AW D 86 Q 16 ls st m := AW_step chk_X6_weight h
theorem st_X6_weight_17 {D : Nat} {Q : APost} {ls : AL} {st : List AV} {m : AM} (h : exP (aCC D) D false (AW D 86 Q) Q bX6_weight_17 ls st m) : AW D 86 Q 17 ls st m := AW_step chk_X6_weight h
set_option maxRecDepth 100000 in
theorem chk_X6_isTrue : chkM 87 = true := by decide +kernel
set_option maxRecDepth 100000 in
theorem own_X6_isTrue : ((mNm 87).cls = cNm (mOwn 87) ∧ plainName (mNm 87).cls = true) ∧ mMax 87 = 2 := by decide +kernel
theorem st_X6_isTrue_0 {D : Nat} {Q : APost} {ls : AL} {st : List AV} {m : AM} (h : exP (aCC D) D true (AW D 87 Q) Q bX6_isTrue_0 ls st m) : AW D 87 Q 0 ls st m := AW_step chk_X6_isTrue h
theorem st_X6_isTrue_15 {D : Nat} {Q : APost} {ls : AL} {st : List AV} {m : AM} (h : exP (aCC D) D true (AW D 87 Q) Q bX6_isTrue_15 ls st m) : AW D 87 Q 15 ls st m := AW_step chk_X6_isTrue h
theorem st_X6_isTrue_19 {D : Nat} {Q : APost} {ls : AL} {st : List AV} {m : AM} (h : exP (aCC D) D true (AW D 87 Q) Q bX6_isTrue_19 ls st m) : AW D 87 Q 19 ls st m := AW_step chk_X6_isTrue h
theorem st_X6_isTrue_20 {D : Nat} {Q : APost} {ls : AL} {st : List AV} {m : AM} (h : exP (aCC D) D true (AW D 87 Q) Q bX6_isTrue_20 ls st m) : AW D 87 Q 20 ls st m := AW_step chk_X6_isTrue h
set_option maxRecDepth 100000 in
theorem chk_X6_year : chkM 88 = true := by decide +kernel
set_option maxRecDepth 100000 in
theorem own_X6_year : ((mNm 88).cls = cNm (mOwn 88) ∧ plainName (mNm 88).cls = true) ∧ mMax 88 = 3 := by decide +kernel
theorem st_X6_year_0 {D : Nat} {Q : APost} {ls : AL} {st : List AV} {m : AM} (h : exP (aCC D) D false (AW D 88 Q) Q bX6_year_0 ls st m) : AW D 88 Q 0 ls st m := AW_step chk_X6_year h
theorem st_X6_year_8 {D : Nat} {Q : APost} {ls : AL} {st : List AV} {m : AM} (h : exP (aCC D) D false (AW D 88 Q) Q bX6_year_8 ls st m) : AW D 88 Q 8 ls st m := AW_step chk_X6_year h
theorem st_X6_year_17 {D : Nat} {Q : APost} {ls : AL} {st : List AV} {m : AM} (h : exP (aCC D) D false (AW D 88 Q) Q bX6_year_17 ls st m) : AW D 88 Q 17 ls st m := AW_step chk_X6_year h
theorem st_X6_year_25 {D : Nat} {Q : APost} {ls : AL} {st : List AV} {m : AM} (h : exP (aCC D) D false (AW D 88 Q) Q bX6_year_25 ls st m) : AW D 88 Q 25 ls st m := AW_step chk_X6_year h
theorem st_X6_year_29 {D : Nat} {Q : APost} {ls : AL} {st : List AV} {m : AM} (h : exP (aCC D) D false (AW D 88 Q) Q bX6_year_29 ls st m) : AW D 88 Q 29 ls st m := AW_step chk_X6_year h
theorem st_X6_year_33 {D : Nat} {Q : APost} {ls : AL} {st : List AV} {m : AM} (h : exP (aCC D) D false (AW D 88 Q) Q bX6_year_33 ls st m) : AW D 88 Q 33 ls st m := AW_step chk_X6_year h
theorem st_X6_year_42 {D : Nat} {Q : APost} {ls : AL} {st : List AV} {m : AM} (h : exP (aCC D) D false (AW D 88 Q) Q bX6_year_42 ls st m) : AW D 88 Q 42 ls st m := AW_step chk_X6_year h
theorem st_X6_year_48 {D : Nat} {Q : APost} {ls : AL} {st : List AV} {m : AM} (h : exP (aCC D) D false (AW D 88 Q) Q bX6_year_48 ls st m) : AW D 88 Q 48 ls st m := AW_step chk_X6_year h
set_option maxRecDepth 100000 in
theorem chk_X6_quarrel : chkM 89 = true := by decide +kernel
set_option maxRecDepth 100000 in
theorem own_X6_quarrel : ((mNm 89).cls = cNm (mOwn 89) ∧ plainName (mNm 89).cls = true) ∧ mMax 89 = 1 := by decide +kernel
theorem st_X6_quarrel_0 {D : Nat} {Q : APost} {ls : AL} {st : List AV} {m : AM} (h : exP (aCC D) D false (AW D 89 Q) Q bX6_quarrel_0 ls st m) : AW D 89 Q 0 ls st m := AW_step chk_X6_quarrel h
set_option maxRecDepth 100000 in
theorem chk_X6_sure : chkM 90 = true := by decide +kernel
set_option maxRecDepth 100000 in
theorem own_X6_sure : ((mNm 90).cls = cNm (mOwn 90) ∧ plainName (mNm 90).cls = true) ∧ mMax 90 = 6 := by decide +kernel
theorem st_X6_sure_0 {D : Nat} {Q : APost} {ls : AL} {st : List AV} {m : AM} (h : exP (aCC D) D false (AW D 90 Q) Q bX6_sure_0 ls st m) : AW D 90 Q 0 ls st m := AW_step chk_X6_sure h
theorem st_X6_sure_14 {D : Nat} {Q : APost} {ls : AL} {st : List AV} {m : AM} (h : exP (aCC D) D false (AW D 90 Q) Q bX6_sure_14 ls st m) : AW D 90 Q 14 ls st m := AW_step chk_X6_sure h
theorem st_X6_sure_23 {D : Nat} {Q : APost} {ls : AL} {st : List AV} {m : AM} (h : exP (aCC D) D false (AW D 90 Q) Q bX6_sure_23 ls st m) : AW D 90 Q 23 ls st m := AW_step chk_X6_sure h
theorem st_X6_sure_25 {D : Nat} {Q : APost} {ls : AL} {st : List AV} {m : AM} (h : exP (aCC D) D false (AW D 90 Q) Q bX6_sure_25 ls st m) : AW D 90 Q 25 ls st m := AW_step chk_X6_sure h
theorem st_X6_sure_33 {D : Nat} {Q : APost} {ls : AL} {st : List AV} {m : AM} (h : exP (aCC D) D false (AW D 90 Q) Q bX6_sure_33 ls st m) : AW D 90 Q 33 ls st m := AW_step chk_X6_sure h
theorem st_X6_sure_42 {D : Nat} {Q : APost} {ls : AL} {st : List AV} {m : AM} (h : exP (aCC D) D false (AW D 90 Q) Q bX6_sure_42 ls st m) : AW D 90 Q 42 ls st m := AW_step chk_X6_sure h
theorem st_X6_sure_51 {D : Nat} {Q : APost} {ls : AL} {st : List AV} {m : AM} (h : exP (aCC D) D false (AW D 90 Q) Q bX6_sure_51 ls st m) : AW D 90 Q 51 ls st m := AW_step chk_X6_sure h
theorem st_X6_sure_62 {D : Nat} {Q : APost} {ls : AL} {st : List AV} {m : AM} (h : exP (aCC D) D false (AW D 90 Q) Q bX6_sure_62 ls st m) : AW D 90 Q 62 ls st m := AW_step chk_X6_sure h
theorem st_X6_sure_65 {D : Nat} {Q : APost} {ls : AL} {st : List AV} {m : AM} (h : exP (aCC D) D false (AW D 90 Q) Q bX6_sure_65 ls st m) : AW D 90 Q 65 ls st m := AW_step chk_X6_sure h
theorem st_X6_sure_70 {D : Nat} {Q : APost} {ls : AL} {st : List AV} {m : AM} (h : exP (aCC D) D false (AW D 90 Q) Q bX6_sure_70 ls st m) : AW D 90 Q 70 ls st m := AW_step chk_X6_sure h
theorem st_X6_sure_81 {D : Nat} {Q : APost} {ls : AL} {st : List AV} {m : AM} (h : exP (aCC D) D false (AW D 90 Q) Q bX6_sure_81 ls st m) : AW D 90 Q 81 ls st m := AW_step chk_X6_sure h
theorem st_X6_sure_91 {D : Nat} {Q : APost} {ls : AL} {st : List AV} {m : AM} (h : exP (aCC D) D false (AW D 90 Q) Q bX6_sure_91 ls st m) : AW D 90 Q 91 ls st m := AW_step chk_X6_sure h
theorem st_X6_sure_92 {D : Nat} {Q : APost} {ls : AL} {st : List AV} {m : AM} (h : exP (aCC D) D false (AW D 90 Q) Q bX6_sure_92 ls st m) : AW D 90 Q 92 ls st m := AW_step chk_X6_sure h
theorem st_X6_sure_99 {D : Nat} {Q : APost} {ls : AL} {st : List AV} {m : AM} (h : exP (aCC D) D false (AW D 90 Q) Q bX6_sure_99 ls st m) : AW D 90 Q 99 ls st m := AW_step chk_X6_sure h
theorem st_X6_sure_111 {D : Nat} {Q : APost} {ls : AL} {st : List AV} {m : AM} (h : exP (aCC D) D false (AW D 90 Q) Q bX6_sure_111 ls st m) : AW D 90 Q 111 ls st m := AW_step chk_X6_sure h
theorem st_X6_sure_121 {D : Nat} {Q : APost} {ls : AL} {st : List AV} {m : AM} (h : exP (aCC D) D false (AW D 90 Q) Q bX6_sure_121 ls st m) : AW D 90 Q 121 ls st m := AW_step chk_X6_sure h
theorem st_X6_sure_123 {D : Nat} {Q : APost} {ls : AL} {st : List AV} {m : AM} (h : exP (aCC D) D false (AW D 90 Q) Q bX6_sure_123 ls st m) : AW D 90 Q 123 ls st m := AW_step chk_X6_sure h
theorem st_X6_sure_125 {D : Nat} {Q : APost} {ls : AL} {st : List AV} {m : AM} (h : exP (aCC D) D false (AW D 90 Q) Q bX6_sure_125 ls st m) : AW D 90 Q 125 ls st m := AW_step chk_X6_sure h
theorem st_X6_sure_131 {D : Nat} {Q : APost} {ls : AL} {st : List AV} {m : AM} (h : exP (aCC D) D false (AW D 90 Q) Q bX6_sure_131 ls st m) : AW D 90 Q 131 ls st m := AW_step chk_X6_sure h
theorem st_X6_sure_136 {D : Nat} {Q : APost} {ls : AL} {st : List AV} {m : AM} (h : exP (aCC D) D false (AW D 90 Q) Q bX6_sure_136 ls st m) : AW D 90 Q 136 ls st m := AW_step chk_X6_sure h
theorem st_X6_sure_142 {D : Nat} {Q : APost} {ls : AL} {st : List AV} {m : AM} (h : exP (aCC D) D false (AW D 90 Q) Q bX6_sure_142 ls st m) : AW D 90 Q 142 ls st m := AW_step chk_X6_sure h
theorem st_X6_sure_146 {D : Nat} {Q : APost} {ls : AL} {st : List AV} {m : AM} (h : exP (aCC D) D false (AW D 90 Q) Q bX6_sure_146 ls st m) : AW D 90 Q 146 ls st m := AW_step chk_X6_sure h
theorem st_X6_sure_150 {D : Nat} {Q : APost} {ls : AL} {st : List AV} {m : AM} (h : exP (aCC D) D false (AW D 90 Q) Q bX6_sure_150 ls st m) : AW D 90 Q 150 ls st m := AW_step chk_X6_sure h
theorem st_X6_sure_154 {D : Nat} {Q : APost} {ls : AL} {st : List AV} {m : AM} (h : exP (aCC D) D false (AW D 90 Q) Q bX6_sure_154 ls st m) : AW D 90 Q 154 ls st m := AW_step chk_X6_sure h
theorem st_X6_sure_156 {D : Nat} {Q : APost} {ls : AL} {st : List AV} {m : AM} (h : exP (aCC D) D false (AW D 90 Q) Q bX6_sure_156 ls st m) : AW D 90 Q 156 ls st m := AW_step chk_X6_sure h
set_option maxRecDepth 100000 in
theorem chk_X6_push : chkM 91 = true := by decide +kernel
set_option maxRecDepth 100000 in
theorem own_X6_push : ((mNm 91).cls = cNm (mOwn 91) ∧ plainName (mNm 91).cls = true) ∧ mMax 91 = 3 := by decide +kernel
theorem st_X6_push_0 {D : Nat} {Q : APost} {ls : AL} {st : List AV} {m : AM} (h : exP (aCC D) D false (AW D 91 Q) Q bX6_push_0 ls st m) : AW D 91 Q 0 ls st m := AW_step chk_X6_push h
theorem st_X6_push_3 {D : Nat} {Q : APost} {ls : AL} {st : List AV} {m : AM} (h : exP (aCC D) D false (AW D 91 Q) Q bX6_push_3 ls st m) : AW D 91 Q 3 ls st m := AW_step chk_X6_push h
theorem st_X6_push_7 {D : Nat} {Q : APost} {ls : AL} {st : List AV} {m : AM} (h : exP (aCC D) D false (AW D 91 Q) Q bX6_push_7 ls st m) : AW D 91 Q 7 ls st m := AW_step chk_X6_push h
theorem st_X6_push_36 {D : Nat} {Q : APost} {ls : AL} {st : List AV} {m : AM} (h : exP (aCC D) D false (AW D 91 Q) Q bX6_push_36 ls st m) : AW D 91 Q 36 ls st m := AW_step chk_X6_push h
set_option maxRecDepth 100000 in
theorem chk_X6_feed : chkM 92 = true := by decide +kernel
set_option maxRecDepth 100000 in
theorem own_X6_feed : ((mNm 92).cls = cNm (mOwn 92) ∧ plainName (mNm 92).cls = true) ∧ mMax 92 = 6 := by decide +kernel
theorem st_X6_feed_0 {D : Nat} {Q : APost} {ls : AL} {st : List AV} {m : AM} (h : exP (aCC D) D false (AW D 92 Q) Q bX6_feed_0 ls st m) : AW D 92 Q 0 ls st m := AW_step chk_X6_feed h
theorem st_X6_feed_12 {D : Nat} {Q : APost} {ls : AL} {st : List AV} {m : AM} (h : exP (aCC D) D false (AW D 92 Q) Q bX6_feed_12 ls st m) : AW D 92 Q 12 ls st m := AW_step chk_X6_feed h
theorem st_X6_feed_14 {D : Nat} {Q : APost} {ls : AL} {st : List AV} {m : AM} (h : exP (aCC D) D false (AW D 92 Q) Q bX6_feed_14 ls st m) : AW D 92 Q 14 ls st m := AW_step chk_X6_feed h
set_option maxRecDepth 100000 in
theorem chk_X6_words : chkM 93 = true := by decide +kernel
set_option maxRecDepth 100000 in
theorem own_X6_words : ((mNm 93).cls = cNm (mOwn 93) ∧ plainName (mNm 93).cls = true) ∧ mMax 93 = 4 := by decide +kernel
theorem st_X6_words_0 {D : Nat} {Q : APost} {ls : AL} {st : List AV} {m : AM} (h : exP (aCC D) D true (AW D 93 Q) Q bX6_words_0 ls st m) : AW D 93 Q 0 ls st m := AW_step chk_X6_words h
theorem st_X6_words_8 {D : Nat} {Q : APost} {ls : AL} {st : List AV} {m : AM} (h : exP (aCC D) D true (AW D 93 Q) Q bX6_words_8 ls st m) : AW D 93 Q 8 ls st m := AW_step chk_X6_words h
theorem st_X6_words_18 {D : Nat} {Q : APost} {ls : AL} {st : List AV} {m : AM} (h : exP (aCC D) D true (AW D 93 Q) Q bX6_words_18 ls st m) : AW D 93 Q 18 ls st m := AW_step chk_X6_words h
theorem st_X6_words_26 {D : Nat} {Q : APost} {ls : AL} {st : List AV} {m : AM} (h : exP (aCC D) D true (AW D 93 Q) Q bX6_words_26 ls st m) : AW D 93 Q 26 ls st m := AW_step chk_X6_words h
theorem st_X6_words_28 {D : Nat} {Q : APost} {ls : AL} {st : List AV} {m : AM} (h : exP (aCC D) D true (AW D 93 Q) Q bX6_words_28 ls st m) : AW D 93 Q 28 ls st m := AW_step chk_X6_words h
theorem st_X6_words_35 {D : Nat} {Q : APost} {ls : AL} {st : List AV} {m : AM} (h : exP (aCC D) D true (AW D 93 Q) Q bX6_words_35 ls st m) : AW D 93 Q 35 ls st m := AW_step chk_X6_words h
theorem st_X6_words_40 {D : Nat} {Q : APost} {ls : AL} {st : List AV} {m : AM} (h : exP (aCC D) D true (AW D 93 Q) Q bX6_words_40 ls st m) : AW D 93 Q 40 ls st m := AW_step chk_X6_words h
theorem st_X6_words_56 {D : Nat} {Q : APost} {ls : AL} {st : List AV} {m : AM} (h : exP (aCC D) D true (AW D 93 Q) Q bX6_words_56 ls st m) : AW D 93 Q 56 ls st m := AW_step chk_X6_words h
theorem st_X6_words_58 {D : Nat} {Q : APost} {ls : AL} {st : List AV} {m : AM} (h : exP (aCC D) D true (AW D 93 Q) Q bX6_words_58 ls st m) : AW D 93 Q 58 ls st m := AW_step chk_X6_words h
theorem st_X6_words_64 {D : Nat} {Q : APost} {ls : AL} {st : List AV} {m : AM} (h : exP (aCC D) D true (AW D 93 Q) Q bX6_words_64 ls st m) : AW D 93 Q 64 ls st m := AW_step chk_X6_words h
theorem st_X6_words_73 {D : Nat} {Q : APost} {ls : AL} {st : List AV} {m : AM} (h : exP (aCC D) D true (AW D 93 Q) Q bX6_words_73 ls st m) : AW D 93 Q 73 ls st m := AW_step chk_X6_words h
theorem st_X6_words_78 {D : Nat} {Q : APost} {ls : AL} {st : List AV} {m : AM} (h : exP (aCC D) D true (AW D 93 Q) Q bX6_words_78 ls st m) : AW D 93 Q 78 ls st m := AW_step chk_X6_words h
theorem st_X6_words_101 {D : Nat} {Q : APost} {ls : AL} {st : List AV} {m : AM} (h : exP (aCC D) D true (AW D 93 Q) Q bX6_words_101 ls st m) : AW D 93 Q 101 ls st m := AW_step chk_X6_words h
set_option maxRecDepth 100000 in
theorem chk_X6_alike : chkM 94 = true := by decide +kernel
set_option maxRecDepth 100000 in
theorem own_X6_alike : ((mNm 94).cls = cNm (mOwn 94) ∧ plainName (mNm 94).cls = true) ∧ mMax 94 = 6 := by decide +kernel
theorem st_X6_alike_0 {D : Nat} {Q : APost} {ls : AL} {st : List AV} {m : AM} (h : exP (aCC D) D false (AW D 94 Q) Q bX6_alike_0 ls st m) : AW D 94 Q 0 ls st m := AW_step chk_X6_alike h
theorem st_X6_alike_3 {D : Nat} {Q : APost} {ls : AL} {st : List AV} {m : AM} (h : exP (aCC D) D false (AW D 94 Q) Q bX6_alike_3 ls st m) : AW D 94 Q 3 ls st m := AW_step chk_X6_alike h
theorem st_X6_alike_16 {D : Nat} {Q : APost} {ls : AL} {st : List AV} {m : AM} (h : exP (aCC D) D false (AW D 94 Q) Q bX6_alike_16 ls st m) : AW D 94 Q 16 ls st m := AW_step chk_X6_alike h
theorem st_X6_alike_30 {D : Nat} {Q : APost} {ls : AL} {st : List AV} {m : AM} (h : exP (aCC D) D false (AW D 94 Q) Q bX6_alike_30 ls st m) : AW D 94 Q 30 ls st m := AW_step chk_X6_alike h
theorem st_X6_alike_62 {D : Nat} {Q : APost} {ls : AL} {st : List AV} {m : AM} (h : exP (aCC D) D false (AW D 94 Q) Q bX6_alike_62 ls st m) : AW D 94 Q 62 ls st m := AW_step chk_X6_alike h
theorem st_X6_alike_68 {D : Nat} {Q : APost} {ls : AL} {st : List AV} {m : AM} (h : exP (aCC D) D false (AW D 94 Q) Q bX6_alike_68 ls st m) : AW D 94 Q 68 ls st m := AW_step chk_X6_alike h
set_option maxRecDepth 100000 in
theorem chk_X6_model : chkM 95 = true := by decide +kernel
set_option maxRecDepth 100000 in
theorem own_X6_model : ((mNm 95).cls = cNm (mOwn 95) ∧ plainName (mNm 95).cls = true) ∧ mMax 95 = 11 := by decide +kernel
theorem st_X6_model_0 {D : Nat} {Q : APost} {ls : AL} {st : List AV} {m : AM} (h : exP (aCC D) D false (AW D 95 Q) Q bX6_model_0 ls st m) : AW D 95 Q 0 ls st m := AW_step chk_X6_model h
theorem st_X6_model_8 {D : Nat} {Q : APost} {ls : AL} {st : List AV} {m : AM} (h : exP (aCC D) D false (AW D 95 Q) Q bX6_model_8 ls st m) : AW D 95 Q 8 ls st m := AW_step chk_X6_model h
theorem st_X6_model_17 {D : Nat} {Q : APost} {ls : AL} {st : List AV} {m : AM} (h : exP (aCC D) D false (AW D 95 Q) Q bX6_model_17 ls st m) : AW D 95 Q 17 ls st m := AW_step chk_X6_model h
theorem st_X6_model_19 {D : Nat} {Q : APost} {ls : AL} {st : List AV} {m : AM} (h : exP (aCC D) D false (AW D 95 Q) Q bX6_model_19 ls st m) : AW D 95 Q 19 ls st m := AW_step chk_X6_model h
theorem st_X6_model_33 {D : Nat} {Q : APost} {ls : AL} {st : List AV} {m : AM} (h : exP (aCC D) D false (AW D 95 Q) Q bX6_model_33 ls st m) : AW D 95 Q 33 ls st m := AW_step chk_X6_model h
theorem st_X6_model_42 {D : Nat} {Q : APost} {ls : AL} {st : List AV} {m : AM} (h : exP (aCC D) D false (AW D 95 Q) Q bX6_model_42 ls st m) : AW D 95 Q 42 ls st m := AW_step chk_X6_model h
theorem st_X6_model_45 {D : Nat} {Q : APost} {ls : AL} {st : List AV} {m : AM} (h : exP (aCC D) D false (AW D 95 Q) Q bX6_model_45 ls st m) : AW D 95 Q 45 ls st m := AW_step chk_X6_model h
theorem st_X6_model_56 {D : Nat} {Q : APost} {ls : AL} {st : List AV} {m : AM} (h : exP (aCC D) D false (AW D 95 Q) Q bX6_model_56 ls st m) : AW D 95 Q 56 ls st m := AW_step chk_X6_model h
theorem st_X6_model_62 {D : Nat} {Q : APost} {ls : AL} {st : List AV} {m : AM} (h : exP (aCC D) D false (AW D 95 Q) Q bX6_model_62 ls st m) : AW D 95 Q 62 ls st m := AW_step chk_X6_model h
theorem st_X6_model_65 {D : Nat} {Q : APost} {ls : AL} {st : List AV} {m : AM} (h : exP (aCC D) D false (AW D 95 Q) Q bX6_model_65 ls st m) : AW D 95 Q 65 ls st m := AW_step chk_X6_model h
theorem st_X6_model_77 {D : Nat} {Q : APost} {ls : AL} {st : List AV} {m : AM} (h : exP (aCC D) D false (AW D 95 Q) Q bX6_model_77 ls st m) : AW D 95 Q 77 ls st m := AW_step chk_X6_model h
theorem st_X6_model_96 {D : Nat} {Q : APost} {ls : AL} {st : List AV} {m : AM} (h : exP (aCC D) D false (AW D 95 Q) Q bX6_model_96 ls st m) : AW D 95 Q 96 ls st m := AW_step chk_X6_model h
theorem st_X6_model_99 {D : Nat} {Q : APost} {ls : AL} {st : List AV} {m : AM} (h : exP (aCC D) D false (AW D 95 Q) Q bX6_model_99 ls st m) : AW D 95 Q 99 ls st m := AW_step chk_X6_model h
theorem st_X6_model_114 {D : Nat} {Q : APost} {ls : AL} {st : List AV} {m : AM} (h : exP (aCC D) D false (AW D 95 Q) Q bX6_model_114 ls st m) : AW D 95 Q 114 ls st m := AW_step chk_X6_model h
theorem st_X6_model_120 {D : Nat} {Q : APost} {ls : AL} {st : List AV} {m : AM} (h : exP (aCC D) D false (AW D 95 Q) Q bX6_model_120 ls st m) : AW D 95 Q 120 ls st m := AW_step chk_X6_model h
theorem st_X6_model_126 {D : Nat} {Q : APost} {ls : AL} {st : List AV} {m : AM} (h : exP (aCC D) D false (AW D 95 Q) Q bX6_model_126 ls st m) : AW D 95 Q 126 ls st m := AW_step chk_X6_model h
theorem st_X6_model_132 {D : Nat} {Q : APost} {ls : AL} {st : List AV} {m : AM} (h : exP (aCC D) D false (AW D 95 Q) Q bX6_model_132 ls st m) : AW D 95 Q 132 ls st m := AW_step chk_X6_model h
theorem st_X6_model_138 {D : Nat} {Q : APost} {ls : AL} {st : List AV} {m : AM} (h : exP (aCC D) D false (AW D 95 Q) Q bX6_model_138 ls st m) : AW D 95 Q 138 ls st m := AW_step chk_X6_model h
theorem st_X6_model_140 {D : Nat} {Q : APost} {ls : AL} {st : List AV} {m : AM} (h : exP (aCC D) D false (AW D 95 Q) Q bX6_model_140 ls st m) : AW D 95 Q 140 ls st m := AW_step chk_X6_model h
theorem st_X6_model_144 {D : Nat} {Q : APost} {ls : AL} {st : List AV} {m : AM} (h : exP (aCC D) D false (AW D 95 Q) Q bX6_model_144 ls st m) : AW D 95 Q 144 ls st m := AW_step chk_X6_model h
theorem st_X6_model_149 {D : Nat} {Q : APost} {ls : AL} {st : List AV} {m : AM} (h : exP (aCC D) D false (AW D 95 Q) Q bX6_model_149 ls st m) : AW D 95 Q 149 ls st m := AW_step chk_X6_model h
theorem st_X6_model_154 {D : Nat} {Q : APost} {ls : AL} {st : List AV} {m : AM} (h : exP (aCC D) D false (AW D 95 Q) Q bX6_model_154 ls st m) : AW D 95 Q 154 ls st m := AW_step chk_X6_model h
theorem st_X6_model_158 {D : Nat} {Q : APost} {ls : AL} {st : List AV} {m : AM} (h : exP (aCC D) D false (AW D 95 Q) Q bX6_model_158 ls st m) : AW D 95 Q 158 ls st m := AW_step chk_X6_model h
theorem st_X6_model_163 {D : Nat} {Q : APost} {ls : AL} {st : List AV} {m : AM} (h : exP (aCC D) D false (AW D 95 Q) Q bX6_model_163 ls st m) : AW D 95 Q 163 ls st m := AW_step chk_X6_model h
theorem st_X6_model_168 {D : Nat} {Q : APost} {ls : AL} {st : List AV} {m : AM} (h : exP (aCC D) D false (AW D 95 Q) Q bX6_model_168 ls st m) : AW D 95 Q 168 ls st m := AW_step chk_X6_model h
theorem st_X6_model_170 {D : Nat} {Q : APost} {ls : AL} {st : List AV} {m : AM} (h : exP (aCC D) D false (AW D 95 Q) Q bX6_model_170 ls st m) : AW D 95 Q 170 ls st m := AW_step chk_X6_model h
set_option maxRecDepth 100000 in
theorem chk_X6_claim : chkM 96 = true := by decide +kernel
set_option maxRecDepth 100000 in
theorem own_X6_claim : ((mNm 96).cls = cNm (mOwn 96) ∧ plainName (mNm 96).cls = true) ∧ mMax 96 = 4 := by decide +kernel
theorem st_X6_claim_0 {D : Nat} {Q : APost} {ls : AL} {st : List AV} {m : AM} (h : exP (aCC D) D true (AW D 96 Q) Q bX6_claim_0 ls st m) : AW D 96 Q 0 ls st m := AW_step chk_X6_claim h
theorem st_X6_claim_8 {D : Nat} {Q : APost} {ls : AL} {st : List AV} {m : AM} (h : exP (aCC D) D true (AW D 96 Q) Q bX6_claim_8 ls st m) : AW D 96 Q 8 ls st m := AW_step chk_X6_claim h
theorem st_X6_claim_17 {D : Nat} {Q : APost} {ls : AL} {st : List AV} {m : AM} (h : exP (aCC D) D true (AW D 96 Q) Q bX6_claim_17 ls st m) : AW D 96 Q 17 ls st m := AW_step chk_X6_claim h
theorem st_X6_claim_28 {D : Nat} {Q : APost} {ls : AL} {st : List AV} {m : AM} (h : exP (aCC D) D true (AW D 96 Q) Q bX6_claim_28 ls st m) : AW D 96 Q 28 ls st m := AW_step chk_X6_claim h
theorem st_X6_claim_30 {D : Nat} {Q : APost} {ls : AL} {st : List AV} {m : AM} (h : exP (aCC D) D true (AW D 96 Q) Q bX6_claim_30 ls st m) : AW D 96 Q 30 ls st m := AW_step chk_X6_claim h
set_option maxRecDepth 100000 in
theorem chk_X6_both : chkM 97 = true := by decide +kernel
set_option maxRecDepth 100000 in
theorem own_X6_both : ((mNm 97).cls = cNm (mOwn 97) ∧ plainName (mNm 97).cls = true) ∧ mMax 97 = 3 := by decide +kernel
theorem st_X6_both_0 {D : Nat} {Q : APost} {ls : AL} {st : List AV} {m : AM} (h : exP (aCC D) D false (AW D 97 Q) Q bX6_both_0 ls st m) : AW D 97 Q 0 ls st m := AW_step chk_X6_both h
theorem st_X6_both_10 {D : Nat} {Q : APost} {ls : AL} {st : List AV} {m : AM} (h : exP (aCC D) D false (AW D 97 Q) Q bX6_both_10 ls st m) : AW D 97 Q 10 ls st m := AW_step chk_X6_both h
theorem st_X6_both_20 {D : Nat} {Q : APost} {ls : AL} {st : List AV} {m : AM} (h : exP (aCC D) D false (AW D 97 Q) Q bX6_both_20 ls st m) : AW D 97 Q 20 ls st m := AW_step chk_X6_both h
theorem st_X6_both_35 {D : Nat} {Q : APost} {ls : AL} {st : List AV} {m : AM} (h : exP (aCC D) D false (AW D 97 Q) Q bX6_both_35 ls st m) : AW D 97 Q 35 ls st m := AW_step chk_X6_both h
theorem st_X6_both_43 {D : Nat} {Q : APost} {ls : AL} {st : List AV} {m : AM} (h : exP (aCC D) D false (AW D 97 Q) Q bX6_both_43 ls st m) : AW D 97 Q 43 ls st m := AW_step chk_X6_both h
theorem st_X6_both_51 {D : Nat} {Q : APost} {ls : AL} {st : List AV} {m : AM} (h : exP (aCC D) D false (AW D 97 Q) Q bX6_both_51 ls st m) : AW D 97 Q 51 ls st m := AW_step chk_X6_both h
theorem st_X6_both_55 {D : Nat} {Q : APost} {ls : AL} {st : List AV} {m : AM} (h : exP (aCC D) D false (AW D 97 Q) Q bX6_both_55 ls st m) : AW D 97 Q 55 ls st m := AW_step chk_X6_both h
theorem st_X6_both_68 {D : Nat} {Q : APost} {ls : AL} {st : List AV} {m : AM} (h : exP (aCC D) D false (AW D 97 Q) Q bX6_both_68 ls st m) : AW D 97 Q 68 ls st m := AW_step chk_X6_both h
set_option maxRecDepth 100000 in
theorem chk_X6_clash : chkM 98 = true := by decide +kernel
set_option maxRecDepth 100000 in
theorem own_X6_clash : ((mNm 98).cls = cNm (mOwn 98) ∧ plainName (mNm 98).cls = true) ∧ mMax 98 = 6 := by decide +kernel
theorem st_X6_clash_0 {D : Nat} {Q : APost} {ls : AL} {st : List AV} {m : AM} (h : exP (aCC D) D false (AW D 98 Q) Q bX6_clash_0 ls st m) : AW D 98 Q 0 ls st m := AW_step chk_X6_clash h
theorem st_X6_clash_4 {D : Nat} {Q : APost} {ls : AL} {st : List AV} {m : AM} (h : exP (aCC D) D false (AW D 98 Q) Q bX6_clash_4 ls st m) : AW D 98 Q 4 ls st m := AW_step chk_X6_clash h
theorem st_X6_clash_13 {D : Nat} {Q : APost} {ls : AL} {st : List AV} {m : AM} (h : exP (aCC D) D false (AW D 98 Q) Q bX6_clash_13 ls st m) : AW D 98 Q 13 ls st m := AW_step chk_X6_clash h
theorem st_X6_clash_15 {D : Nat} {Q : APost} {ls : AL} {st : List AV} {m : AM} (h : exP (aCC D) D false (AW D 98 Q) Q bX6_clash_15 ls st m) : AW D 98 Q 15 ls st m := AW_step chk_X6_clash h
theorem st_X6_clash_20 {D : Nat} {Q : APost} {ls : AL} {st : List AV} {m : AM} (h : exP (aCC D) D false (AW D 98 Q) Q bX6_clash_20 ls st m) : AW D 98 Q 20 ls st m := AW_step chk_X6_clash h
theorem st_X6_clash_29 {D : Nat} {Q : APost} {ls : AL} {st : List AV} {m : AM} (h : exP (aCC D) D false (AW D 98 Q) Q bX6_clash_29 ls st m) : AW D 98 Q 29 ls st m := AW_step chk_X6_clash h
theorem st_X6_clash_35 {D : Nat} {Q : APost} {ls : AL} {st : List AV} {m : AM} (h : exP (aCC D) D false (AW D 98 Q) Q bX6_clash_35 ls st m) : AW D 98 Q 35 ls st m := AW_step chk_X6_clash h
theorem st_X6_clash_44 {D : Nat} {Q : APost} {ls : AL} {st : List AV} {m : AM} (h : exP (aCC D) D false (AW D 98 Q) Q bX6_clash_44 ls st m) : AW D 98 Q 44 ls st m := AW_step chk_X6_clash h
theorem st_X6_clash_55 {D : Nat} {Q : APost} {ls : AL} {st : List AV} {m : AM} (h : exP (aCC D) D false (AW D 98 Q) Q bX6_clash_55 ls st m) : AW D 98 Q 55 ls st m := AW_step chk_X6_clash h
theorem st_X6_clash_58 {D : Nat} {Q : APost} {ls : AL} {st : List AV} {m : AM} (h : exP (aCC D) D false (AW D 98 Q) Q bX6_clash_58 ls st m) : AW D 98 Q 58 ls st m := AW_step chk_X6_clash h
theorem st_X6_clash_63 {D : Nat} {Q : APost} {ls : AL} {st : List AV} {m : AM} (h : exP (aCC D) D false (AW D 98 Q) Q bX6_clash_63 ls st m) : AW D 98 Q 63 ls st m := AW_step chk_X6_clash h
theorem st_X6_clash_67 {D : Nat} {Q : APost} {ls : AL} {st : List AV} {m : AM} (h : exP (aCC D) D false (AW D 98 Q) Q bX6_clash_67 ls st m) : AW D 98 Q 67 ls st m := AW_step chk_X6_clash h
theorem st_X6_clash_72 {D : Nat} {Q : APost} {ls : AL} {st : List AV} {m : AM} (h : exP (aCC D) D false (AW D 98 Q) Q bX6_clash_72 ls st m) : AW D 98 Q 72 ls st m := AW_step chk_X6_clash h
theorem st_X6_clash_77 {D : Nat} {Q : APost} {ls : AL} {st : List AV} {m : AM} (h : exP (aCC D) D false (AW D 98 Q) Q bX6_clash_77 ls st m) : AW D 98 Q 77 ls st m := AW_step chk_X6_clash h
theorem st_X6_clash_82 {D : Nat} {Q : APost} {ls : AL} {st : List AV} {m : AM} (h : exP (aCC D) D false (AW D 98 Q) Q bX6_clash_82 ls st m) : AW D 98 Q 82 ls st m := AW_step chk_X6_clash h
theorem st_X6_clash_90 {D : Nat} {Q : APost} {ls : AL} {st : List AV} {m : AM} (h : exP (aCC D) D false (AW D 98 Q) Q bX6_clash_90 ls st m) : AW D 98 Q 90 ls st m := AW_step chk_X6_clash h
theorem st_X6_clash_91 {D : Nat} {Q : APost} {ls : AL} {st : List AV} {m : AM} (h : exP (aCC D) D false (AW D 98 Q) Q bX6_clash_91 ls st m) : AW D 98 Q 91 ls st m := AW_step chk_X6_clash h
theorem st_X6_clash_94 {D : Nat} {Q : APost} {ls : AL} {st : List AV} {m : AM} (h : exP (aCC D) D false (AW D 98 Q) Q bX6_clash_94 ls st m) : AW D 98 Q 94 ls st m := AW_step chk_X6_clash h
theorem st_X6_clash_100 {D : Nat} {Q : APost} {ls : AL} {st : List AV} {m : AM} (h : exP (aCC D) D false (AW D 98 Q) Q bX6_clash_100 ls st m) : AW D 98 Q 100 ls st m := AW_step chk_X6_clash h
theorem st_X6_clash_106 {D : Nat} {Q : APost} {ls : AL} {st : List AV} {m : AM} (h : exP (aCC D) D false (AW D 98 Q) Q bX6_clash_106 ls st m) : AW D 98 Q 106 ls st m := AW_step chk_X6_clash h
set_option maxRecDepth 100000 in
theorem chk_X6_court : chkM 99 = true := by decide +kernel
set_option maxRecDepth 100000 in
theorem own_X6_court : ((mNm 99).cls = cNm (mOwn 99) ∧ plainName (mNm 99).cls = true) ∧ mMax 99 = 3 := by decide +kernel
theorem st_X6_court_0 {D : Nat} {Q : APost} {ls : AL} {st : List AV} {m : AM} (h : exP (aCC D) D true (AW D 99 Q) Q bX6_court_0 ls st m) : AW D 99 Q 0 ls st m := AW_step chk_X6_court h
theorem st_X6_court_8 {D : Nat} {Q : APost} {ls : AL} {st : List AV} {m : AM} (h : exP (aCC D) D true (AW D 99 Q) Q bX6_court_8 ls st m) : AW D 99 Q 8 ls st m := AW_step chk_X6_court h
theorem st_X6_court_17 {D : Nat} {Q : APost} {ls : AL} {st : List AV} {m : AM} (h : exP (aCC D) D true (AW D 99 Q) Q bX6_court_17 ls st m) : AW D 99 Q 17 ls st m := AW_step chk_X6_court h
theorem st_X6_court_19 {D : Nat} {Q : APost} {ls : AL} {st : List AV} {m : AM} (h : exP (aCC D) D true (AW D 99 Q) Q bX6_court_19 ls st m) : AW D 99 Q 19 ls st m := AW_step chk_X6_court h
set_option maxRecDepth 100000 in
theorem chk_X6_otherwise : chkM 100 = true := by decide +kernel
set_option maxRecDepth 100000 in
theorem own_X6_otherwise : ((mNm 100).cls = cNm (mOwn 100) ∧ plainName (mNm 100).cls = true) ∧ mMax 100 = 4 := by decide +kernel
theorem st_X6_otherwise_0 {D : Nat} {Q : APost} {ls : AL} {st : List AV} {m : AM} (h : exP (aCC D) D false (AW D 100 Q) Q bX6_otherwise_0 ls st m) : AW D 100 Q 0 ls st m := AW_step chk_X6_otherwise h
theorem st_X6_otherwise_4 {D : Nat} {Q : APost} {ls : AL} {st : List AV} {m : AM} (h : exP (aCC D) D false (AW D 100 Q) Q bX6_otherwise_4 ls st m) : AW D 100 Q 4 ls st m := AW_step chk_X6_otherwise h
theorem st_X6_otherwise_6 {D : Nat} {Q : APost} {ls : AL} {st : List AV} {m : AM} (h : exP (aCC D) D false (AW D 100 Q) Q bX6_otherwise_6 ls st m) : AW D 100 Q 6 ls st m := AW_step chk_X6_otherwise h
theorem st_X6_otherwise_10 {D : Nat} {Q : APost} {ls : AL} {st : List AV} {m : AM} (h : exP (aCC D) D false (AW D 100 Q) Q bX6_otherwise_10 ls st m) : AW D 100 Q 10 ls st m := AW_step chk_X6_otherwise h
theorem st_X6_otherwise_18 {D : Nat} {Q : APost} {ls : AL} {st : List AV} {m : AM} (h : exP (aCC D) D false (AW D 100 Q) Q bX6_otherwise_18 ls st m) : AW D 100 Q 18 ls st m := AW_step chk_X6_otherwise h
theorem st_X6_otherwise_32 {D : Nat} {Q : APost} {ls : AL} {st : List AV} {m : AM} (h : exP (aCC D) D false (AW D 100 Q) Q bX6_otherwise_32 ls st m) : AW D 100 Q 32 ls st m := AW_step chk_X6_otherwise h
theorem st_X6_otherwise_36 {D : Nat} {Q : APost} {ls : AL} {st : List AV} {m : AM} (h : exP (aCC D) D false (AW D 100 Q) Q bX6_otherwise_36 ls st m) : AW D 100 Q 36 ls st m := AW_step chk_X6_otherwise h
theorem st_X6_otherwise_37 {D : Nat} {Q : APost} {ls : AL} {st : List AV} {m : AM} (h : exP (aCC D) D false (AW D 100 Q) Q bX6_otherwise_37 ls st m) : AW D 100 Q 37 ls st m := AW_step chk_X6_otherwise h
theorem st_X6_otherwise_40 {D : Nat} {Q : APost} {ls : AL} {st : List AV} {m : AM} (h : exP (aCC D) D false (AW D 100 Q) Q bX6_otherwise_40 ls st m) : AW D 100 Q 40 ls st m := AW_step chk_X6_otherwise h
theorem st_X6_otherwise_43 {D : Nat} {Q : APost} {ls : AL} {st : List AV} {m : AM} (h : exP (aCC D) D false (AW D 100 Q) Q bX6_otherwise_43 ls st m) : AW D 100 Q 43 ls st m := AW_step chk_X6_otherwise h
theorem st_X6_otherwise_48 {D : Nat} {Q : APost} {ls : AL} {st : List AV} {m : AM} (h : exP (aCC D) D false (AW D 100 Q) Q bX6_otherwise_48 ls st m) : AW D 100 Q 48 ls st m := AW_step chk_X6_otherwise h
theorem st_X6_otherwise_50 {D : Nat} {Q : APost} {ls : AL} {st : List AV} {m : AM} (h : exP (aCC D) D false (AW D 100 Q) Q bX6_otherwise_50 ls st m) : AW D 100 Q 50 ls st m := AW_step chk_X6_otherwise h
theorem st_X6_otherwise_53 {D : Nat} {Q : APost} {ls : AL} {st : List AV} {m : AM} (h : exP (aCC D) D false (AW D 100 Q) Q bX6_otherwise_53 ls st m) : AW D 100 Q 53 ls st m := AW_step chk_X6_otherwise h
theorem st_X6_otherwise_59 {D : Nat} {Q : APost} {ls : AL} {st : List AV} {m : AM} (h : exP (aCC D) D false (AW D 100 Q) Q bX6_otherwise_59 ls st m) : AW D 100 Q 59 ls st m := AW_step chk_X6_otherwise h
set_option maxRecDepth 100000 in
theorem chk_X6_look : chkM 101 = true := by decide +kernel
set_option maxRecDepth 100000 in
theorem own_X6_look : ((mNm 101).cls = cNm (mOwn 101) ∧ plainName (mNm 101).cls = true) ∧ mMax 101 = 3 := by decide +kernel
theorem st_X6_look_0 {D : Nat} {Q : APost} {ls : AL} {st : List AV} {m : AM} (h : exP (aCC D) D false (AW D 101 Q) Q bX6_look_0 ls st m) : AW D 101 Q 0 ls st m := AW_step chk_X6_look h
theorem st_X6_look_8 {D : Nat} {Q : APost} {ls : AL} {st : List AV} {m : AM} (h : exP (aCC D) D false (AW D 101 Q) Q bX6_look_8 ls st m) : AW D 101 Q 8 ls st m := AW_step chk_X6_look h
theorem st_X6_look_10 {D : Nat} {Q : APost} {ls : AL} {st : List AV} {m : AM} (h : exP (aCC D) D false (AW D 101 Q) Q bX6_look_10 ls st m) : AW D 101 Q 10 ls st m := AW_step chk_X6_look h
theorem st_X6_look_64 {D : Nat} {Q : APost} {ls : AL} {st : List AV} {m : AM} (h : exP (aCC D) D false (AW D 101 Q) Q bX6_look_64 ls st m) : AW D 101 Q 64 ls st m := AW_step chk_X6_look h
theorem st_X6_look_71 {D : Nat} {Q : APost} {ls : AL} {st : List AV} {m : AM} (h : exP (aCC D) D false (AW D 101 Q) Q bX6_look_71 ls st m) : AW D 101 Q 71 ls st m := AW_step chk_X6_look h
theorem st_X6_look_78 {D : Nat} {Q : APost} {ls : AL} {st : List AV} {m : AM} (h : exP (aCC D) D false (AW D 101 Q) Q bX6_look_78 ls st m) : AW D 101 Q 78 ls st m := AW_step chk_X6_look h
theorem st_X6_look_85 {D : Nat} {Q : APost} {ls : AL} {st : List AV} {m : AM} (h : exP (aCC D) D false (AW D 101 Q) Q bX6_look_85 ls st m) : AW D 101 Q 85 ls st m := AW_step chk_X6_look h
theorem st_X6_look_92 {D : Nat} {Q : APost} {ls : AL} {st : List AV} {m : AM} (h : exP (aCC D) D false (AW D 101 Q) Q bX6_look_92 ls st m) : AW D 101 Q 92 ls st m := AW_step chk_X6_look h
theorem st_X6_look_99 {D : Nat} {Q : APost} {ls : AL} {st : List AV} {m : AM} (h : exP (aCC D) D false (AW D 101 Q) Q bX6_look_99 ls st m) : AW D 101 Q 99 ls st m := AW_step chk_X6_look h
theorem st_X6_look_106 {D : Nat} {Q : APost} {ls : AL} {st : List AV} {m : AM} (h : exP (aCC D) D false (AW D 101 Q) Q bX6_look_106 ls st m) : AW D 101 Q 106 ls st m := AW_step chk_X6_look h
theorem st_X6_look_113 {D : Nat} {Q : APost} {ls : AL} {st : List AV} {m : AM} (h : exP (aCC D) D false (AW D 101 Q) Q bX6_look_113 ls st m) : AW D 101 Q 113 ls st m := AW_step chk_X6_look h
theorem st_X6_look_120 {D : Nat} {Q : APost} {ls : AL} {st : List AV} {m : AM} (h : exP (aCC D) D false (AW D 101 Q) Q bX6_look_120 ls st m) : AW D 101 Q 120 ls st m := AW_step chk_X6_look h
theorem st_X6_look_139 {D : Nat} {Q : APost} {ls : AL} {st : List AV} {m : AM} (h : exP (aCC D) D false (AW D 101 Q) Q bX6_look_139 ls st m) : AW D 101 Q 139 ls st m := AW_step chk_X6_look h
theorem st_X6_look_143 {D : Nat} {Q : APost} {ls : AL} {st : List AV} {m : AM} (h : exP (aCC D) D false (AW D 101 Q) Q bX6_look_143 ls st m) : AW D 101 Q 143 ls st m := AW_step chk_X6_look h
theorem st_X6_look_149 {D : Nat} {Q : APost} {ls : AL} {st : List AV} {m : AM} (h : exP (aCC D) D false (AW D 101 Q) Q bX6_look_149 ls st m) : AW D 101 Q 149 ls st m := AW_step chk_X6_look h
theorem st_X6_look_158 {D : Nat} {Q : APost} {ls : AL} {st : List AV} {m : AM} (h : exP (aCC D) D false (AW D 101 Q) Q bX6_look_158 ls st m) : AW D 101 Q 158 ls st m := AW_step chk_X6_look h
theorem st_X6_look_164 {D : Nat} {Q : APost} {ls : AL} {st : List AV} {m : AM} (h : exP (aCC D) D false (AW D 101 Q) Q bX6_look_164 ls st m) : AW D 101 Q 164 ls st m := AW_step chk_X6_look h
theorem st_X6_look_165 {D : Nat} {Q : APost} {ls : AL} {st : List AV} {m : AM} (h : exP (aCC D) D false (AW D 101 Q) Q bX6_look_165 ls st m) : AW D 101 Q 165 ls st m := AW_step chk_X6_look h
set_option maxRecDepth 100000 in
theorem chk_X6_count : chkM 102 = true := by decide +kernel
set_option maxRecDepth 100000 in
theorem own_X6_count : ((mNm 102).cls = cNm (mOwn 102) ∧ plainName (mNm 102).cls = true) ∧ mMax 102 = 3 := by decide +kernel
theorem st_X6_count_0 {D : Nat} {Q : APost} {ls : AL} {st : List AV} {m : AM} (h : exP (aCC D) D false (AW D 102 Q) Q bX6_count_0 ls st m) : AW D 102 Q 0 ls st m := AW_step chk_X6_count h
theorem st_X6_count_48 {D : Nat} {Q : APost} {ls : AL} {st : List AV} {m : AM} (h : exP (aCC D) D false (AW D 102 Q) Q bX6_count_48 ls st m) : AW D 102 Q 48 ls st m := AW_step chk_X6_count h
theorem st_X6_count_53 {D : Nat} {Q : APost} {ls : AL} {st : List AV} {m : AM} (h : exP (aCC D) D false (AW D 102 Q) Q bX6_count_53 ls st m) : AW D 102 Q 53 ls st m := AW_step chk_X6_count h
theorem st_X6_count_58 {D : Nat} {Q : APost} {ls : AL} {st : List AV} {m : AM} (h : exP (aCC D) D false (AW D 102 Q) Q bX6_count_58 ls st m) : AW D 102 Q 58 ls st m := AW_step chk_X6_count h
theorem st_X6_count_63 {D : Nat} {Q : APost} {ls : AL} {st : List AV} {m : AM} (h : exP (aCC D) D false (AW D 102 Q) Q bX6_count_63 ls st m) : AW D 102 Q 63 ls st m := AW_step chk_X6_count h
theorem st_X6_count_68 {D : Nat} {Q : APost} {ls : AL} {st : List AV} {m : AM} (h : exP (aCC D) D false (AW D 102 Q) Q bX6_count_68 ls st m) : AW D 102 Q 68 ls st m := AW_step chk_X6_count h
theorem st_X6_count_73 {D : Nat} {Q : APost} {ls : AL} {st : List AV} {m : AM} (h : exP (aCC D) D false (AW D 102 Q) Q bX6_count_73 ls st m) : AW D 102 Q 73 ls st m := AW_step chk_X6_count h
theorem st_X6_count_81 {D : Nat} {Q : APost} {ls : AL} {st : List AV} {m : AM} (h : exP (aCC D) D false (AW D 102 Q) Q bX6_count_81 ls st m) : AW D 102 Q 81 ls st m := AW_step chk_X6_count h
theorem st_X6_count_86 {D : Nat} {Q : APost} {ls : AL} {st : List AV} {m : AM} (h : exP (aCC D) D false (AW D 102 Q) Q bX6_count_86 ls st m) : AW D 102 Q 86 ls st m := AW_step chk_X6_count h
theorem st_X6_count_96 {D : Nat} {Q : APost} {ls : AL} {st : List AV} {m : AM} (h : exP (aCC D) D false (AW D 102 Q) Q bX6_count_96 ls st m) : AW D 102 Q 96 ls st m := AW_step chk_X6_count h
theorem st_X6_count_102 {D : Nat} {Q : APost} {ls : AL} {st : List AV} {m : AM} (h : exP (aCC D) D false (AW D 102 Q) Q bX6_count_102 ls st m) : AW D 102 Q 102 ls st m := AW_step chk_X6_count h
theorem st_X6_count_104 {D : Nat} {Q : APost} {ls : AL} {st : List AV} {m : AM} (h : exP (aCC D) D false (AW D 102 Q) Q bX6_count_104 ls st m) : AW D 102 Q 104 ls st m := AW_step chk_X6_count h
set_option maxRecDepth 100000 in
theorem chk_J6_compare : chkM 103 = true := by decide +kernel
set_option maxRecDepth 100000 in
theorem own_J6_compare : ((mNm 103).cls = cNm (mOwn 103) ∧ plainName (mNm 103).cls = true) ∧ mMax 103 = 2 := by decide +kernel
theorem st_J6_compare_0 {D : Nat} {Q : APost} {ls : AL} {st : List AV} {m : AM} (h : exP (aCC D) D false (AW D 103 Q) Q bJ6_compare_0 ls st m) : AW D 103 Q 0 ls st m := AW_step chk_J6_compare h
theorem st_J6_compare_5 {D : Nat} {Q : APost} {ls : AL} {st : List AV} {m : AM} (h : exP (aCC D) D false (AW D 103 Q) Q bJ6_compare_5 ls st m) : AW D 103 Q 5 ls st m := AW_step chk_J6_compare h
theorem st_J6_compare_9 {D : Nat} {Q : APost} {ls : AL} {st : List AV} {m : AM} (h : exP (aCC D) D false (AW D 103 Q) Q bJ6_compare_9 ls st m) : AW D 103 Q 9 ls st m := AW_step chk_J6_compare h
theorem st_J6_compare_14 {D : Nat} {Q : APost} {ls : AL} {st : List AV} {m : AM} (h : exP (aCC D) D false (AW D 103 Q) Q bJ6_compare_14 ls st m) : AW D 103 Q 14 ls st m := AW_step chk_J6_compare h
theorem st_J6_compare_18 {D : Nat} {Q : APost} {ls : AL} {st : List AV} {m : AM} (h : exP (aCC D) D false (AW D 103 Q) Q bJ6_compare_18 ls st m) : AW D 103 Q 18 ls st m := AW_step chk_J6_compare h
theorem st_J6_compare_19 {D : Nat} {Q : APost} {ls : AL} {st : List AV} {m : AM} (h : exP (aCC D) D false (AW D 103 Q) Q bJ6_compare_19 ls st m) : AW D 103 Q 19 ls st m := AW_step chk_J6_compare h
set_option maxRecDepth 100000 in
theorem chk_J6_bitCount : chkM 104 = true := by decide +kernel
set_option maxRecDepth 100000 in
theorem own_J6_bitCount : ((mNm 104).cls = cNm (mOwn 104) ∧ plainName (mNm 104).cls = true) ∧ mMax 104 = 1 := by decide +kernel
theorem st_J6_bitCount_0 {D : Nat} {Q : APost} {ls : AL} {st : List AV} {m : AM} (h : exP (aCC D) D false (AW D 104 Q) Q bJ6_bitCount_0 ls st m) : AW D 104 Q 0 ls st m := AW_step chk_J6_bitCount h
