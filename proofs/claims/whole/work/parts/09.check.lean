/-! ===== every method's blocks are its bytes ===== -/
set_option maxRecDepth 100000 in
theorem chk_X0_isPlace : chkM 0 = true := by decide +kernel
set_option maxRecDepth 100000 in
theorem own_X0_isPlace : (mNm 0).cls = cNm (mOwn 0) ∧ plainName (mNm 0).cls = true := by decide +kernel
set_option maxRecDepth 100000 in
theorem chk_X0_of : chkM 1 = true := by decide +kernel
set_option maxRecDepth 100000 in
theorem own_X0_of : (mNm 1).cls = cNm (mOwn 1) ∧ plainName (mNm 1).cls = true := by decide +kernel
set_option maxRecDepth 100000 in
theorem chk_X0_many : chkM 2 = true := by decide +kernel
set_option maxRecDepth 100000 in
theorem own_X0_many : (mNm 2).cls = cNm (mOwn 2) ∧ plainName (mNm 2).cls = true := by decide +kernel
set_option maxRecDepth 100000 in
theorem chk_X0_put : chkM 3 = true := by decide +kernel
set_option maxRecDepth 100000 in
theorem own_X0_put : (mNm 3).cls = cNm (mOwn 3) ∧ plainName (mNm 3).cls = true := by decide +kernel
set_option maxRecDepth 100000 in
theorem chk_X0_sharingHand : chkM 4 = true := by decide +kernel
set_option maxRecDepth 100000 in
theorem own_X0_sharingHand : (mNm 4).cls = cNm (mOwn 4) ∧ plainName (mNm 4).cls = true := by decide +kernel
set_option maxRecDepth 100000 in
theorem chk_X1_lightest : chkM 5 = true := by decide +kernel
set_option maxRecDepth 100000 in
theorem own_X1_lightest : (mNm 5).cls = cNm (mOwn 5) ∧ plainName (mNm 5).cls = true := by decide +kernel
set_option maxRecDepth 100000 in
theorem chk_X1_weigh : chkM 6 = true := by decide +kernel
set_option maxRecDepth 100000 in
theorem own_X1_weigh : (mNm 6).cls = cNm (mOwn 6) ∧ plainName (mNm 6).cls = true := by decide +kernel
set_option maxRecDepth 100000 in
theorem chk_X1_forge : chkM 7 = true := by decide +kernel
set_option maxRecDepth 100000 in
theorem own_X1_forge : (mNm 7).cls = cNm (mOwn 7) ∧ plainName (mNm 7).cls = true := by decide +kernel
set_option maxRecDepth 100000 in
theorem chk_X1_keepBetter : chkM 8 = true := by decide +kernel
set_option maxRecDepth 100000 in
theorem own_X1_keepBetter : (mNm 8).cls = cNm (mOwn 8) ∧ plainName (mNm 8).cls = true := by decide +kernel
set_option maxRecDepth 100000 in
theorem chk_X2_areYears : chkM 9 = true := by decide +kernel
set_option maxRecDepth 100000 in
theorem own_X2_areYears : (mNm 9).cls = cNm (mOwn 9) ∧ plainName (mNm 9).cls = true := by decide +kernel
set_option maxRecDepth 100000 in
theorem chk_X2_has : chkM 10 = true := by decide +kernel
set_option maxRecDepth 100000 in
theorem own_X2_has : (mNm 10).cls = cNm (mOwn 10) ∧ plainName (mNm 10).cls = true := by decide +kernel
set_option maxRecDepth 100000 in
theorem chk_X2_add : chkM 11 = true := by decide +kernel
set_option maxRecDepth 100000 in
theorem own_X2_add : (mNm 11).cls = cNm (mOwn 11) ∧ plainName (mNm 11).cls = true := by decide +kernel
set_option maxRecDepth 100000 in
theorem chk_X2_change : chkM 12 = true := by decide +kernel
set_option maxRecDepth 100000 in
theorem own_X2_change : (mNm 12).cls = cNm (mOwn 12) ∧ plainName (mNm 12).cls = true := by decide +kernel
set_option maxRecDepth 100000 in
theorem chk_X2_latestStart : chkM 13 = true := by decide +kernel
set_option maxRecDepth 100000 in
theorem own_X2_latestStart : (mNm 13).cls = cNm (mOwn 13) ∧ plainName (mNm 13).cls = true := by decide +kernel
set_option maxRecDepth 100000 in
theorem chk_X2_earliestEnd : chkM 14 = true := by decide +kernel
set_option maxRecDepth 100000 in
theorem own_X2_earliestEnd : (mNm 14).cls = cNm (mOwn 14) ∧ plainName (mNm 14).cls = true := by decide +kernel
set_option maxRecDepth 100000 in
theorem chk_X3_roundsToBreak : chkM 15 = true := by decide +kernel
set_option maxRecDepth 100000 in
theorem own_X3_roundsToBreak : (mNm 15).cls = cNm (mOwn 15) ∧ plainName (mNm 15).cls = true := by decide +kernel
set_option maxRecDepth 100000 in
theorem chk_X3_firstBroken : chkM 16 = true := by decide +kernel
set_option maxRecDepth 100000 in
theorem own_X3_firstBroken : (mNm 16).cls = cNm (mOwn 16) ∧ plainName (mNm 16).cls = true := by decide +kernel
set_option maxRecDepth 100000 in
theorem chk_X3_lowerOnce : chkM 17 = true := by decide +kernel
set_option maxRecDepth 100000 in
theorem own_X3_lowerOnce : (mNm 17).cls = cNm (mOwn 17) ∧ plainName (mNm 17).cls = true := by decide +kernel
set_option maxRecDepth 100000 in
theorem chk_X3_raiseOnce : chkM 18 = true := by decide +kernel
set_option maxRecDepth 100000 in
theorem own_X3_raiseOnce : (mNm 18).cls = cNm (mOwn 18) ∧ plainName (mNm 18).cls = true := by decide +kernel
set_option maxRecDepth 100000 in
theorem chk_X3_conflictIn : chkM 19 = true := by decide +kernel
set_option maxRecDepth 100000 in
theorem own_X3_conflictIn : (mNm 19).cls = cNm (mOwn 19) ∧ plainName (mNm 19).cls = true := by decide +kernel
set_option maxRecDepth 100000 in
theorem chk_X3_quarrelIn : chkM 20 = true := by decide +kernel
set_option maxRecDepth 100000 in
theorem own_X3_quarrelIn : (mNm 20).cls = cNm (mOwn 20) ∧ plainName (mNm 20).cls = true := by decide +kernel
set_option maxRecDepth 100000 in
theorem chk_X3_keepYears : chkM 21 = true := by decide +kernel
set_option maxRecDepth 100000 in
theorem own_X3_keepYears : (mNm 21).cls = cNm (mOwn 21) ∧ plainName (mNm 21).cls = true := by decide +kernel
set_option maxRecDepth 100000 in
theorem chk_X4_putBytes : chkM 22 = true := by decide +kernel
set_option maxRecDepth 100000 in
theorem own_X4_putBytes : (mNm 22).cls = cNm (mOwn 22) ∧ plainName (mNm 22).cls = true := by decide +kernel
set_option maxRecDepth 100000 in
theorem chk_X4_take : chkM 23 = true := by decide +kernel
set_option maxRecDepth 100000 in
theorem own_X4_take : (mNm 23).cls = cNm (mOwn 23) ∧ plainName (mNm 23).cls = true := by decide +kernel
set_option maxRecDepth 100000 in
theorem chk_X4_findModel : chkM 24 = true := by decide +kernel
set_option maxRecDepth 100000 in
theorem own_X4_findModel : (mNm 24).cls = cNm (mOwn 24) ∧ plainName (mNm 24).cls = true := by decide +kernel
set_option maxRecDepth 100000 in
theorem chk_X4_compareWith : chkM 25 = true := by decide +kernel
set_option maxRecDepth 100000 in
theorem own_X4_compareWith : (mNm 25).cls = cNm (mOwn 25) ∧ plainName (mNm 25).cls = true := by decide +kernel
set_option maxRecDepth 100000 in
theorem chk_X4_alike : chkM 26 = true := by decide +kernel
set_option maxRecDepth 100000 in
theorem own_X4_alike : (mNm 26).cls = cNm (mOwn 26) ∧ plainName (mNm 26).cls = true := by decide +kernel
set_option maxRecDepth 100000 in
theorem chk_X5_person : chkM 27 = true := by decide +kernel
set_option maxRecDepth 100000 in
theorem own_X5_person : (mNm 27).cls = cNm (mOwn 27) ∧ plainName (mNm 27).cls = true := by decide +kernel
set_option maxRecDepth 100000 in
theorem chk_X5_lived : chkM 28 = true := by decide +kernel
set_option maxRecDepth 100000 in
theorem own_X5_lived : (mNm 28).cls = cNm (mOwn 28) ∧ plainName (mNm 28).cls = true := by decide +kernel
set_option maxRecDepth 100000 in
theorem chk_X5_formula : chkM 29 = true := by decide +kernel
set_option maxRecDepth 100000 in
theorem own_X5_formula : (mNm 29).cls = cNm (mOwn 29) ∧ plainName (mNm 29).cls = true := by decide +kernel
set_option maxRecDepth 100000 in
theorem chk_X5_seal : chkM 30 = true := by decide +kernel
set_option maxRecDepth 100000 in
theorem own_X5_seal : (mNm 30).cls = cNm (mOwn 30) ∧ plainName (mNm 30).cls = true := by decide +kernel
set_option maxRecDepth 100000 in
theorem chk_X5_span : chkM 31 = true := by decide +kernel
set_option maxRecDepth 100000 in
theorem own_X5_span : (mNm 31).cls = cNm (mOwn 31) ∧ plainName (mNm 31).cls = true := by decide +kernel
set_option maxRecDepth 100000 in
theorem chk_X5_deed : chkM 32 = true := by decide +kernel
set_option maxRecDepth 100000 in
theorem own_X5_deed : (mNm 32).cls = cNm (mOwn 32) ∧ plainName (mNm 32).cls = true := by decide +kernel
set_option maxRecDepth 100000 in
theorem chk_X5_mark : chkM 33 = true := by decide +kernel
set_option maxRecDepth 100000 in
theorem own_X5_mark : (mNm 33).cls = cNm (mOwn 33) ∧ plainName (mNm 33).cls = true := by decide +kernel
set_option maxRecDepth 100000 in
theorem chk_X5_agree : chkM 34 = true := by decide +kernel
set_option maxRecDepth 100000 in
theorem own_X5_agree : (mNm 34).cls = cNm (mOwn 34) ∧ plainName (mNm 34).cls = true := by decide +kernel
set_option maxRecDepth 100000 in
theorem chk_X5_forged : chkM 35 = true := by decide +kernel
set_option maxRecDepth 100000 in
theorem own_X5_forged : (mNm 35).cls = cNm (mOwn 35) ∧ plainName (mNm 35).cls = true := by decide +kernel
set_option maxRecDepth 100000 in
theorem chk_X5_weight : chkM 36 = true := by decide +kernel
set_option maxRecDepth 100000 in
theorem own_X5_weight : (mNm 36).cls = cNm (mOwn 36) ∧ plainName (mNm 36).cls = true := by decide +kernel
set_option maxRecDepth 100000 in
theorem chk_X5_year : chkM 37 = true := by decide +kernel
set_option maxRecDepth 100000 in
theorem own_X5_year : (mNm 37).cls = cNm (mOwn 37) ∧ plainName (mNm 37).cls = true := by decide +kernel
set_option maxRecDepth 100000 in
theorem chk_X5_quarrel : chkM 38 = true := by decide +kernel
set_option maxRecDepth 100000 in
theorem own_X5_quarrel : (mNm 38).cls = cNm (mOwn 38) ∧ plainName (mNm 38).cls = true := by decide +kernel
set_option maxRecDepth 100000 in
theorem chk_X5_sure : chkM 39 = true := by decide +kernel
set_option maxRecDepth 100000 in
theorem own_X5_sure : (mNm 39).cls = cNm (mOwn 39) ∧ plainName (mNm 39).cls = true := by decide +kernel
set_option maxRecDepth 100000 in
theorem chk_X5_feed : chkM 40 = true := by decide +kernel
set_option maxRecDepth 100000 in
theorem own_X5_feed : (mNm 40).cls = cNm (mOwn 40) ∧ plainName (mNm 40).cls = true := by decide +kernel
set_option maxRecDepth 100000 in
theorem chk_X5_words : chkM 41 = true := by decide +kernel
set_option maxRecDepth 100000 in
theorem own_X5_words : (mNm 41).cls = cNm (mOwn 41) ∧ plainName (mNm 41).cls = true := by decide +kernel
set_option maxRecDepth 100000 in
theorem chk_X5_model : chkM 42 = true := by decide +kernel
set_option maxRecDepth 100000 in
theorem own_X5_model : (mNm 42).cls = cNm (mOwn 42) ∧ plainName (mNm 42).cls = true := by decide +kernel
set_option maxRecDepth 100000 in
theorem chk_X5_claim : chkM 43 = true := by decide +kernel
set_option maxRecDepth 100000 in
theorem own_X5_claim : (mNm 43).cls = cNm (mOwn 43) ∧ plainName (mNm 43).cls = true := by decide +kernel
set_option maxRecDepth 100000 in
theorem chk_X5_clash : chkM 44 = true := by decide +kernel
set_option maxRecDepth 100000 in
theorem own_X5_clash : (mNm 44).cls = cNm (mOwn 44) ∧ plainName (mNm 44).cls = true := by decide +kernel
set_option maxRecDepth 100000 in
theorem chk_X5_court : chkM 45 = true := by decide +kernel
set_option maxRecDepth 100000 in
theorem own_X5_court : (mNm 45).cls = cNm (mOwn 45) ∧ plainName (mNm 45).cls = true := by decide +kernel
set_option maxRecDepth 100000 in
theorem chk_X5_otherwise : chkM 46 = true := by decide +kernel
set_option maxRecDepth 100000 in
theorem own_X5_otherwise : (mNm 46).cls = cNm (mOwn 46) ∧ plainName (mNm 46).cls = true := by decide +kernel
set_option maxRecDepth 100000 in
theorem chk_X5_look : chkM 47 = true := by decide +kernel
set_option maxRecDepth 100000 in
theorem own_X5_look : (mNm 47).cls = cNm (mOwn 47) ∧ plainName (mNm 47).cls = true := by decide +kernel
set_option maxRecDepth 100000 in
theorem chk_X5_count : chkM 48 = true := by decide +kernel
set_option maxRecDepth 100000 in
theorem own_X5_count : (mNm 48).cls = cNm (mOwn 48) ∧ plainName (mNm 48).cls = true := by decide +kernel
set_option maxRecDepth 100000 in
theorem chk_X5_holds : chkM 49 = true := by decide +kernel
set_option maxRecDepth 100000 in
theorem own_X5_holds : (mNm 49).cls = cNm (mOwn 49) ∧ plainName (mNm 49).cls = true := by decide +kernel
set_option maxRecDepth 100000 in
theorem chk_X5_allDeeds : chkM 50 = true := by decide +kernel
set_option maxRecDepth 100000 in
theorem own_X5_allDeeds : (mNm 50).cls = cNm (mOwn 50) ∧ plainName (mNm 50).cls = true := by decide +kernel
set_option maxRecDepth 100000 in
theorem chk_X5_areDeeds : chkM 51 = true := by decide +kernel
set_option maxRecDepth 100000 in
theorem own_X5_areDeeds : (mNm 51).cls = cNm (mOwn 51) ∧ plainName (mNm 51).cls = true := by decide +kernel
set_option maxRecDepth 100000 in
theorem chk_X5_isTrue : chkM 52 = true := by decide +kernel
set_option maxRecDepth 100000 in
theorem own_X5_isTrue : (mNm 52).cls = cNm (mOwn 52) ∧ plainName (mNm 52).cls = true := by decide +kernel
set_option maxRecDepth 100000 in
theorem chk_X5_forgedOnes : chkM 53 = true := by decide +kernel
set_option maxRecDepth 100000 in
theorem own_X5_forgedOnes : (mNm 53).cls = cNm (mOwn 53) ∧ plainName (mNm 53).cls = true := by decide +kernel
set_option maxRecDepth 100000 in
theorem chk_X5_canBeMarked : chkM 54 = true := by decide +kernel
set_option maxRecDepth 100000 in
theorem own_X5_canBeMarked : (mNm 54).cls = cNm (mOwn 54) ∧ plainName (mNm 54).cls = true := by decide +kernel
set_option maxRecDepth 100000 in
theorem chk_X5_ownFirst : chkM 55 = true := by decide +kernel
set_option maxRecDepth 100000 in
theorem own_X5_ownFirst : (mNm 55).cls = cNm (mOwn 55) ∧ plainName (mNm 55).cls = true := by decide +kernel
set_option maxRecDepth 100000 in
theorem chk_X5_ownLast : chkM 56 = true := by decide +kernel
set_option maxRecDepth 100000 in
theorem own_X5_ownLast : (mNm 56).cls = cNm (mOwn 56) ∧ plainName (mNm 56).cls = true := by decide +kernel
set_option maxRecDepth 100000 in
theorem chk_X5_hasOwnYear : chkM 57 = true := by decide +kernel
set_option maxRecDepth 100000 in
theorem own_X5_hasOwnYear : (mNm 57).cls = cNm (mOwn 57) ∧ plainName (mNm 57).cls = true := by decide +kernel
set_option maxRecDepth 100000 in
theorem chk_X5_settle : chkM 58 = true := by decide +kernel
set_option maxRecDepth 100000 in
theorem own_X5_settle : (mNm 58).cls = cNm (mOwn 58) ∧ plainName (mNm 58).cls = true := by decide +kernel
set_option maxRecDepth 100000 in
theorem chk_X5_disputed : chkM 59 = true := by decide +kernel
set_option maxRecDepth 100000 in
theorem own_X5_disputed : (mNm 59).cls = cNm (mOwn 59) ∧ plainName (mNm 59).cls = true := by decide +kernel
set_option maxRecDepth 100000 in
theorem chk_X5_clashes : chkM 60 = true := by decide +kernel
set_option maxRecDepth 100000 in
theorem own_X5_clashes : (mNm 60).cls = cNm (mOwn 60) ∧ plainName (mNm 60).cls = true := by decide +kernel
set_option maxRecDepth 100000 in
theorem chk_X5_isMisjudged : chkM 61 = true := by decide +kernel
set_option maxRecDepth 100000 in
theorem own_X5_isMisjudged : (mNm 61).cls = cNm (mOwn 61) ∧ plainName (mNm 61).cls = true := by decide +kernel
set_option maxRecDepth 100000 in
theorem chk_X6_lies : chkM 62 = true := by decide +kernel
set_option maxRecDepth 100000 in
theorem own_X6_lies : (mNm 62).cls = cNm (mOwn 62) ∧ plainName (mNm 62).cls = true := by decide +kernel
set_option maxRecDepth 100000 in
theorem chk_X6_isSpan : chkM 63 = true := by decide +kernel
set_option maxRecDepth 100000 in
theorem own_X6_isSpan : (mNm 63).cls = cNm (mOwn 63) ∧ plainName (mNm 63).cls = true := by decide +kernel
set_option maxRecDepth 100000 in
theorem chk_X6_has : chkM 64 = true := by decide +kernel
set_option maxRecDepth 100000 in
theorem own_X6_has : (mNm 64).cls = cNm (mOwn 64) ∧ plainName (mNm 64).cls = true := by decide +kernel
set_option maxRecDepth 100000 in
theorem chk_X6_isDeed : chkM 65 = true := by decide +kernel
set_option maxRecDepth 100000 in
theorem own_X6_isDeed : (mNm 65).cls = cNm (mOwn 65) ∧ plainName (mNm 65).cls = true := by decide +kernel
set_option maxRecDepth 100000 in
theorem chk_X6_person : chkM 66 = true := by decide +kernel
set_option maxRecDepth 100000 in
theorem own_X6_person : (mNm 66).cls = cNm (mOwn 66) ∧ plainName (mNm 66).cls = true := by decide +kernel
set_option maxRecDepth 100000 in
theorem chk_X6_lived : chkM 67 = true := by decide +kernel
set_option maxRecDepth 100000 in
theorem own_X6_lived : (mNm 67).cls = cNm (mOwn 67) ∧ plainName (mNm 67).cls = true := by decide +kernel
set_option maxRecDepth 100000 in
theorem chk_X6_formula : chkM 68 = true := by decide +kernel
set_option maxRecDepth 100000 in
theorem own_X6_formula : (mNm 68).cls = cNm (mOwn 68) ∧ plainName (mNm 68).cls = true := by decide +kernel
set_option maxRecDepth 100000 in
theorem chk_X6_seal : chkM 69 = true := by decide +kernel
set_option maxRecDepth 100000 in
theorem own_X6_seal : (mNm 69).cls = cNm (mOwn 69) ∧ plainName (mNm 69).cls = true := by decide +kernel
set_option maxRecDepth 100000 in
theorem chk_X6_span : chkM 70 = true := by decide +kernel
set_option maxRecDepth 100000 in
theorem own_X6_span : (mNm 70).cls = cNm (mOwn 70) ∧ plainName (mNm 70).cls = true := by decide +kernel
set_option maxRecDepth 100000 in
theorem chk_X6_deed : chkM 71 = true := by decide +kernel
set_option maxRecDepth 100000 in
theorem own_X6_deed : (mNm 71).cls = cNm (mOwn 71) ∧ plainName (mNm 71).cls = true := by decide +kernel
set_option maxRecDepth 100000 in
theorem chk_X6_manyOf : chkM 72 = true := by decide +kernel
set_option maxRecDepth 100000 in
theorem own_X6_manyOf : (mNm 72).cls = cNm (mOwn 72) ∧ plainName (mNm 72).cls = true := by decide +kernel
set_option maxRecDepth 100000 in
theorem chk_X6_hasMark : chkM 73 = true := by decide +kernel
set_option maxRecDepth 100000 in
theorem own_X6_hasMark : (mNm 73).cls = cNm (mOwn 73) ∧ plainName (mNm 73).cls = true := by decide +kernel
set_option maxRecDepth 100000 in
theorem chk_X6_mark : chkM 74 = true := by decide +kernel
set_option maxRecDepth 100000 in
theorem own_X6_mark : (mNm 74).cls = cNm (mOwn 74) ∧ plainName (mNm 74).cls = true := by decide +kernel
set_option maxRecDepth 100000 in
theorem chk_X6_narrows : chkM 75 = true := by decide +kernel
set_option maxRecDepth 100000 in
theorem own_X6_narrows : (mNm 75).cls = cNm (mOwn 75) ∧ plainName (mNm 75).cls = true := by decide +kernel
set_option maxRecDepth 100000 in
theorem chk_X6_owns : chkM 76 = true := by decide +kernel
set_option maxRecDepth 100000 in
theorem own_X6_owns : (mNm 76).cls = cNm (mOwn 76) ∧ plainName (mNm 76).cls = true := by decide +kernel
set_option maxRecDepth 100000 in
theorem chk_X6_ups : chkM 77 = true := by decide +kernel
set_option maxRecDepth 100000 in
theorem own_X6_ups : (mNm 77).cls = cNm (mOwn 77) ∧ plainName (mNm 77).cls = true := by decide +kernel
set_option maxRecDepth 100000 in
theorem chk_X6_downs : chkM 78 = true := by decide +kernel
set_option maxRecDepth 100000 in
theorem own_X6_downs : (mNm 78).cls = cNm (mOwn 78) ∧ plainName (mNm 78).cls = true := by decide +kernel
set_option maxRecDepth 100000 in
theorem chk_X6_agrees : chkM 79 = true := by decide +kernel
set_option maxRecDepth 100000 in
theorem own_X6_agrees : (mNm 79).cls = cNm (mOwn 79) ∧ plainName (mNm 79).cls = true := by decide +kernel
set_option maxRecDepth 100000 in
theorem chk_X6_weightOf : chkM 80 = true := by decide +kernel
set_option maxRecDepth 100000 in
theorem own_X6_weightOf : (mNm 80).cls = cNm (mOwn 80) ∧ plainName (mNm 80).cls = true := by decide +kernel
set_option maxRecDepth 100000 in
theorem chk_X6_sizeOf : chkM 81 = true := by decide +kernel
set_option maxRecDepth 100000 in
theorem own_X6_sizeOf : (mNm 81).cls = cNm (mOwn 81) ∧ plainName (mNm 81).cls = true := by decide +kernel
set_option maxRecDepth 100000 in
theorem chk_X6_works : chkM 82 = true := by decide +kernel
set_option maxRecDepth 100000 in
theorem own_X6_works : (mNm 82).cls = cNm (mOwn 82) ∧ plainName (mNm 82).cls = true := by decide +kernel
set_option maxRecDepth 100000 in
theorem chk_X6_isSet : chkM 83 = true := by decide +kernel
set_option maxRecDepth 100000 in
theorem own_X6_isSet : (mNm 83).cls = cNm (mOwn 83) ∧ plainName (mNm 83).cls = true := by decide +kernel
set_option maxRecDepth 100000 in
theorem chk_X6_agree : chkM 84 = true := by decide +kernel
set_option maxRecDepth 100000 in
theorem own_X6_agree : (mNm 84).cls = cNm (mOwn 84) ∧ plainName (mNm 84).cls = true := by decide +kernel
set_option maxRecDepth 100000 in
theorem chk_X6_forged : chkM 85 = true := by decide +kernel
set_option maxRecDepth 100000 in
theorem own_X6_forged : (mNm 85).cls = cNm (mOwn 85) ∧ plainName (mNm 85).cls = true := by decide +kernel
set_option maxRecDepth 100000 in
theorem chk_X6_weight : chkM 86 = true := by decide +kernel
set_option maxRecDepth 100000 in
theorem own_X6_weight : (mNm 86).cls = cNm (mOwn 86) ∧ plainName (mNm 86).cls = true := by decide +kernel
set_option maxRecDepth 100000 in
theorem chk_X6_isTrue : chkM 87 = true := by decide +kernel
set_option maxRecDepth 100000 in
theorem own_X6_isTrue : (mNm 87).cls = cNm (mOwn 87) ∧ plainName (mNm 87).cls = true := by decide +kernel
set_option maxRecDepth 100000 in
theorem chk_X6_year : chkM 88 = true := by decide +kernel
set_option maxRecDepth 100000 in
theorem own_X6_year : (mNm 88).cls = cNm (mOwn 88) ∧ plainName (mNm 88).cls = true := by decide +kernel
set_option maxRecDepth 100000 in
theorem chk_X6_quarrel : chkM 89 = true := by decide +kernel
set_option maxRecDepth 100000 in
theorem own_X6_quarrel : (mNm 89).cls = cNm (mOwn 89) ∧ plainName (mNm 89).cls = true := by decide +kernel
set_option maxRecDepth 100000 in
theorem chk_X6_sure : chkM 90 = true := by decide +kernel
set_option maxRecDepth 100000 in
theorem own_X6_sure : (mNm 90).cls = cNm (mOwn 90) ∧ plainName (mNm 90).cls = true := by decide +kernel
set_option maxRecDepth 100000 in
theorem chk_X6_push : chkM 91 = true := by decide +kernel
set_option maxRecDepth 100000 in
theorem own_X6_push : (mNm 91).cls = cNm (mOwn 91) ∧ plainName (mNm 91).cls = true := by decide +kernel
set_option maxRecDepth 100000 in
theorem chk_X6_feed : chkM 92 = true := by decide +kernel
set_option maxRecDepth 100000 in
theorem own_X6_feed : (mNm 92).cls = cNm (mOwn 92) ∧ plainName (mNm 92).cls = true := by decide +kernel
set_option maxRecDepth 100000 in
theorem chk_X6_words : chkM 93 = true := by decide +kernel
set_option maxRecDepth 100000 in
theorem own_X6_words : (mNm 93).cls = cNm (mOwn 93) ∧ plainName (mNm 93).cls = true := by decide +kernel
set_option maxRecDepth 100000 in
theorem chk_X6_alike : chkM 94 = true := by decide +kernel
set_option maxRecDepth 100000 in
theorem own_X6_alike : (mNm 94).cls = cNm (mOwn 94) ∧ plainName (mNm 94).cls = true := by decide +kernel
set_option maxRecDepth 100000 in
theorem chk_X6_model : chkM 95 = true := by decide +kernel
set_option maxRecDepth 100000 in
theorem own_X6_model : (mNm 95).cls = cNm (mOwn 95) ∧ plainName (mNm 95).cls = true := by decide +kernel
set_option maxRecDepth 100000 in
theorem chk_X6_claim : chkM 96 = true := by decide +kernel
set_option maxRecDepth 100000 in
theorem own_X6_claim : (mNm 96).cls = cNm (mOwn 96) ∧ plainName (mNm 96).cls = true := by decide +kernel
set_option maxRecDepth 100000 in
theorem chk_X6_both : chkM 97 = true := by decide +kernel
set_option maxRecDepth 100000 in
theorem own_X6_both : (mNm 97).cls = cNm (mOwn 97) ∧ plainName (mNm 97).cls = true := by decide +kernel
set_option maxRecDepth 100000 in
theorem chk_X6_clash : chkM 98 = true := by decide +kernel
set_option maxRecDepth 100000 in
theorem own_X6_clash : (mNm 98).cls = cNm (mOwn 98) ∧ plainName (mNm 98).cls = true := by decide +kernel
set_option maxRecDepth 100000 in
theorem chk_X6_court : chkM 99 = true := by decide +kernel
set_option maxRecDepth 100000 in
theorem own_X6_court : (mNm 99).cls = cNm (mOwn 99) ∧ plainName (mNm 99).cls = true := by decide +kernel
set_option maxRecDepth 100000 in
theorem chk_X6_otherwise : chkM 100 = true := by decide +kernel
set_option maxRecDepth 100000 in
theorem own_X6_otherwise : (mNm 100).cls = cNm (mOwn 100) ∧ plainName (mNm 100).cls = true := by decide +kernel
set_option maxRecDepth 100000 in
theorem chk_X6_look : chkM 101 = true := by decide +kernel
set_option maxRecDepth 100000 in
theorem own_X6_look : (mNm 101).cls = cNm (mOwn 101) ∧ plainName (mNm 101).cls = true := by decide +kernel
set_option maxRecDepth 100000 in
theorem chk_X6_count : chkM 102 = true := by decide +kernel
set_option maxRecDepth 100000 in
theorem own_X6_count : (mNm 102).cls = cNm (mOwn 102) ∧ plainName (mNm 102).cls = true := by decide +kernel
set_option maxRecDepth 100000 in
theorem chk_J6_compare : chkM 103 = true := by decide +kernel
set_option maxRecDepth 100000 in
theorem own_J6_compare : (mNm 103).cls = cNm (mOwn 103) ∧ plainName (mNm 103).cls = true := by decide +kernel
set_option maxRecDepth 100000 in
theorem chk_J6_bitCount : chkM 104 = true := by decide +kernel
set_option maxRecDepth 100000 in
theorem own_J6_bitCount : (mNm 104).cls = cNm (mOwn 104) ∧ plainName (mNm 104).cls = true := by decide +kernel
set_option maxRecDepth 100000 in
theorem chk_J9_max : chkM 105 = true := by decide +kernel
set_option maxRecDepth 100000 in
theorem own_J9_max : (mNm 105).cls = cNm (mOwn 105) ∧ plainName (mNm 105).cls = true := by decide +kernel
set_option maxRecDepth 100000 in
theorem chk_J9_min : chkM 106 = true := by decide +kernel
set_option maxRecDepth 100000 in
theorem own_J9_min : (mNm 106).cls = cNm (mOwn 106) ∧ plainName (mNm 106).cls = true := by decide +kernel
