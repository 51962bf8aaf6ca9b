/-- the words that serve everywhere -/
def tblG : List Cond := lw_tbl.filter goodWord
theorem tg {w : Cond} (h : w ∈ lw_tbl) (g : goodWord w = true) : w ∈ tblG := List.mem_filter.mpr ⟨h, g⟩
theorem tblG_good : ∀ w ∈ tblG, goodWord w = true := fun w h => (List.mem_filter.mp h).2
def isNest : Cond → Bool
  | .fieldLinkNest _ _ _ _ _ _ => true
  | .methodLinkNest _ _ _ _ => true
  | _ => false
def tblN : List Cond := lw_tbl.filter isNest
theorem tn {w : Cond} (h : w ∈ lw_tbl) (g : isNest w = true) : w ∈ tblN := List.mem_filter.mpr ⟨h, g⟩
theorem tblN_is : ∀ w ∈ tblN, isNest w = true := fun w h => (List.mem_filter.mp h).2
theorem tblN_in : ∀ w ∈ tblN, w ∈ lw_tbl := fun w h => (List.mem_filter.mp h).1
theorem tblG_in : ∀ w ∈ tblG, w ∈ lw_tbl := fun w h => (List.mem_filter.mp h).1
set_option maxRecDepth 100000 in
theorem ks_RX10_yX10_start : Cond.selects RX10 yX10_start yX10_start ∈ tblG := tg (List.mem_of_getElem? (i := 0) rfl) (by decide +kernel)
set_option maxRecDepth 100000 in
theorem ks_RX10_yX10_boardAt : Cond.selects RX10 yX10_boardAt yX10_boardAt ∈ tblG := tg (List.mem_of_getElem? (i := 1) rfl) (by decide +kernel)
set_option maxRecDepth 100000 in
theorem ks_RX11_yX11_imageOf : Cond.selects RX11 yX11_imageOf yX11_imageOf ∈ tblG := tg (List.mem_of_getElem? (i := 2) rfl) (by decide +kernel)
set_option maxRecDepth 100000 in
theorem ks_RX11_yX11_needRange : Cond.selects RX11 yX11_needRange yX11_needRange ∈ tblG := tg (List.mem_of_getElem? (i := 3) rfl) (by decide +kernel)
set_option maxRecDepth 100000 in
theorem ks_RX8_yX8_readClause : Cond.selects RX8 yX8_readClause yX8_readClause ∈ tblG := tg (List.mem_of_getElem? (i := 5) rfl) (by decide +kernel)
set_option maxRecDepth 100000 in
theorem ks_RX9_yX9_lettersHere : Cond.selects RX9 yX9_lettersHere yX9_lettersHere ∈ tblG := tg (List.mem_of_getElem? (i := 6) rfl) (by decide +kernel)
set_option maxRecDepth 100000 in
theorem ks_RX8_yX8_readPlayer : Cond.selects RX8 yX8_readPlayer yX8_readPlayer ∈ tblG := tg (List.mem_of_getElem? (i := 7) rfl) (by decide +kernel)
set_option maxRecDepth 100000 in
theorem ks_RX8_yX8_readMoment : Cond.selects RX8 yX8_readMoment yX8_readMoment ∈ tblG := tg (List.mem_of_getElem? (i := 8) rfl) (by decide +kernel)
set_option maxRecDepth 100000 in
theorem ks_RX8_yX8_readCards : Cond.selects RX8 yX8_readCards yX8_readCards ∈ tblG := tg (List.mem_of_getElem? (i := 9) rfl) (by decide +kernel)
set_option maxRecDepth 100000 in
theorem ks_RX8_yX8_readLaw : Cond.selects RX8 yX8_readLaw yX8_readLaw ∈ tblG := tg (List.mem_of_getElem? (i := 10) rfl) (by decide +kernel)
set_option maxRecDepth 100000 in
theorem ks_RX11_yX11_needPlayer : Cond.selects RX11 yX11_needPlayer yX11_needPlayer ∈ tblG := tg (List.mem_of_getElem? (i := 11) rfl) (by decide +kernel)
set_option maxRecDepth 100000 in
theorem ks_RX11_yX11_takePlan : Cond.selects RX11 yX11_takePlan yX11_takePlan ∈ tblG := tg (List.mem_of_getElem? (i := 12) rfl) (by decide +kernel)
set_option maxRecDepth 100000 in
theorem ks_RX7_yX7_readOr : Cond.selects RX7 yX7_readOr yX7_readOr ∈ tblG := tg (List.mem_of_getElem? (i := 13) rfl) (by decide +kernel)
set_option maxRecDepth 100000 in
theorem ks_RX7_yX7_readAnd : Cond.selects RX7 yX7_readAnd yX7_readAnd ∈ tblG := tg (List.mem_of_getElem? (i := 14) rfl) (by decide +kernel)
set_option maxRecDepth 100000 in
theorem ks_RX7_yX7_readOne : Cond.selects RX7 yX7_readOne yX7_readOne ∈ tblG := tg (List.mem_of_getElem? (i := 15) rfl) (by decide +kernel)
set_option maxRecDepth 100000 in
theorem ks_RX7_yX7_emit : Cond.selects RX7 yX7_emit yX7_emit ∈ tblG := tg (List.mem_of_getElem? (i := 16) rfl) (by decide +kernel)
set_option maxRecDepth 100000 in
theorem ks_RX7_yX7_readFact : Cond.selects RX7 yX7_readFact yX7_readFact ∈ tblG := tg (List.mem_of_getElem? (i := 17) rfl) (by decide +kernel)
set_option maxRecDepth 100000 in
theorem ks_RX7_yX7_readSize : Cond.selects RX7 yX7_readSize yX7_readSize ∈ tblG := tg (List.mem_of_getElem? (i := 18) rfl) (by decide +kernel)
set_option maxRecDepth 100000 in
theorem ks_RX1_yX1_add : Cond.selects RX1 yX1_add yX1_add ∈ tblG := tg (List.mem_of_getElem? (i := 19) rfl) (by decide +kernel)
set_option maxRecDepth 100000 in
theorem ks_RX4_yX4_mark : Cond.selects RX4 yX4_mark yX4_mark ∈ tblG := tg (List.mem_of_getElem? (i := 20) rfl) (by decide +kernel)
set_option maxRecDepth 100000 in
theorem ks_RX3_yX3_callAhead : Cond.selects RX3 yX3_callAhead yX3_callAhead ∈ tblG := tg (List.mem_of_getElem? (i := 21) rfl) (by decide +kernel)
set_option maxRecDepth 100000 in
theorem ks_RX3_yX3_setDelay : Cond.selects RX3 yX3_setDelay yX3_setDelay ∈ tblG := tg (List.mem_of_getElem? (i := 22) rfl) (by decide +kernel)
set_option maxRecDepth 100000 in
theorem ks_RX3_yX3_callBehind : Cond.selects RX3 yX3_callBehind yX3_callBehind ∈ tblG := tg (List.mem_of_getElem? (i := 23) rfl) (by decide +kernel)
set_option maxRecDepth 100000 in
theorem ks_RX3_yX3_delayOf : Cond.selects RX3 yX3_delayOf yX3_delayOf ∈ tblG := tg (List.mem_of_getElem? (i := 24) rfl) (by decide +kernel)
set_option maxRecDepth 100000 in
theorem ks_RX3_yX3_drawnDelay : Cond.selects RX3 yX3_drawnDelay yX3_drawnDelay ∈ tblG := tg (List.mem_of_getElem? (i := 25) rfl) (by decide +kernel)
set_option maxRecDepth 100000 in
theorem ks_RX3_yX3_addTally : Cond.selects RX3 yX3_addTally yX3_addTally ∈ tblG := tg (List.mem_of_getElem? (i := 26) rfl) (by decide +kernel)
set_option maxRecDepth 100000 in
theorem ks_RX3_yX3_judge : Cond.selects RX3 yX3_judge yX3_judge ∈ tblG := tg (List.mem_of_getElem? (i := 27) rfl) (by decide +kernel)
set_option maxRecDepth 100000 in
theorem ks_RX3_yX3_fallTogether : Cond.selects RX3 yX3_fallTogether yX3_fallTogether ∈ tblG := tg (List.mem_of_getElem? (i := 28) rfl) (by decide +kernel)
set_option maxRecDepth 100000 in
theorem ks_RX3_yX3_kindOfWin : Cond.selects RX3 yX3_kindOfWin yX3_kindOfWin ∈ tblG := tg (List.mem_of_getElem? (i := 29) rfl) (by decide +kernel)
set_option maxRecDepth 100000 in
theorem ks_RX3_yX3_payForFalse : Cond.selects RX3 yX3_payForFalse yX3_payForFalse ∈ tblG := tg (List.mem_of_getElem? (i := 30) rfl) (by decide +kernel)
set_option maxRecDepth 100000 in
theorem ks_RX3_yX3_setLast : Cond.selects RX3 yX3_setLast yX3_setLast ∈ tblG := tg (List.mem_of_getElem? (i := 31) rfl) (by decide +kernel)
set_option maxRecDepth 100000 in
theorem ks_RX4_yX4_record : Cond.selects RX4 yX4_record yX4_record ∈ tblG := tg (List.mem_of_getElem? (i := 32) rfl) (by decide +kernel)
set_option maxRecDepth 100000 in
theorem ks_RX4_yX4_turnOfMark : Cond.selects RX4 yX4_turnOfMark yX4_turnOfMark ∈ tblG := tg (List.mem_of_getElem? (i := 33) rfl) (by decide +kernel)
set_option maxRecDepth 100000 in
theorem ks_RX4_yX4_goTo : Cond.selects RX4 yX4_goTo yX4_goTo ∈ tblG := tg (List.mem_of_getElem? (i := 34) rfl) (by decide +kernel)
set_option maxRecDepth 100000 in
theorem ks_RX2_yX2_note : Cond.selects RX2 yX2_note yX2_note ∈ tblG := tg (List.mem_of_getElem? (i := 35) rfl) (by decide +kernel)
set_option maxRecDepth 100000 in
theorem ks_RX2_yX2_slotOf : Cond.selects RX2 yX2_slotOf yX2_slotOf ∈ tblG := tg (List.mem_of_getElem? (i := 36) rfl) (by decide +kernel)
set_option maxRecDepth 100000 in
theorem ks_RX2_yX2_isSame : Cond.selects RX2 yX2_isSame yX2_isSame ∈ tblG := tg (List.mem_of_getElem? (i := 37) rfl) (by decide +kernel)
set_option maxRecDepth 100000 in
theorem ks_RX11_yX11_needWager : Cond.selects RX11 yX11_needWager yX11_needWager ∈ tblG := tg (List.mem_of_getElem? (i := 38) rfl) (by decide +kernel)
set_option maxRecDepth 100000 in
theorem ks_RX10_yX10_choose : Cond.selects RX10 yX10_choose yX10_choose ∈ tblG := tg (List.mem_of_getElem? (i := 39) rfl) (by decide +kernel)
set_option maxRecDepth 100000 in
theorem ks_RX10_yX10_keepBetter : Cond.selects RX10 yX10_keepBetter yX10_keepBetter ∈ tblG := tg (List.mem_of_getElem? (i := 40) rfl) (by decide +kernel)
set_option maxRecDepth 100000 in
theorem ks_RX10_yX10_weigh : Cond.selects RX10 yX10_weigh yX10_weigh ∈ tblG := tg (List.mem_of_getElem? (i := 41) rfl) (by decide +kernel)
set_option maxRecDepth 100000 in
theorem ks_RX10_yX10_leads : Cond.selects RX10 yX10_leads yX10_leads ∈ tblG := tg (List.mem_of_getElem? (i := 42) rfl) (by decide +kernel)
set_option maxRecDepth 100000 in
theorem ks_RX10_yX10_allWays : Cond.selects RX10 yX10_allWays yX10_allWays ∈ tblG := tg (List.mem_of_getElem? (i := 43) rfl) (by decide +kernel)
set_option maxRecDepth 100000 in
theorem ks_RX12_yX12_clears : Cond.selects RX12 yX12_clears yX12_clears ∈ tblG := tg (List.mem_of_getElem? (i := 44) rfl) (by decide +kernel)
set_option maxRecDepth 100000 in
theorem ks_RX12_yX12_sets : Cond.selects RX12 yX12_sets yX12_sets ∈ tblG := tg (List.mem_of_getElem? (i := 45) rfl) (by decide +kernel)
set_option maxRecDepth 100000 in
theorem ks_RX12_yX12_forgets : Cond.selects RX12 yX12_forgets yX12_forgets ∈ tblG := tg (List.mem_of_getElem? (i := 46) rfl) (by decide +kernel)
set_option maxRecDepth 100000 in
theorem ks_RX12_yX12_stays : Cond.selects RX12 yX12_stays yX12_stays ∈ tblG := tg (List.mem_of_getElem? (i := 47) rfl) (by decide +kernel)
set_option maxRecDepth 100000 in
theorem ks_RX12_yX12_may : Cond.selects RX12 yX12_may yX12_may ∈ tblG := tg (List.mem_of_getElem? (i := 48) rfl) (by decide +kernel)
set_option maxRecDepth 100000 in
theorem ks_RX12_yX12_begins : Cond.selects RX12 yX12_begins yX12_begins ∈ tblG := tg (List.mem_of_getElem? (i := 49) rfl) (by decide +kernel)
set_option maxRecDepth 100000 in
theorem ks_RX12_yX12_fine : Cond.selects RX12 yX12_fine yX12_fine ∈ tblG := tg (List.mem_of_getElem? (i := 50) rfl) (by decide +kernel)
set_option maxRecDepth 100000 in
theorem ks_RX12_yX12_isMore : Cond.selects RX12 yX12_isMore yX12_isMore ∈ tblG := tg (List.mem_of_getElem? (i := 51) rfl) (by decide +kernel)
set_option maxRecDepth 100000 in
theorem ks_RX12_yX12_here : Cond.selects RX12 yX12_here yX12_here ∈ tblG := tg (List.mem_of_getElem? (i := 52) rfl) (by decide +kernel)
set_option maxRecDepth 100000 in
theorem ks_RX12_yX12_word : Cond.selects RX12 yX12_word yX12_word ∈ tblG := tg (List.mem_of_getElem? (i := 53) rfl) (by decide +kernel)
set_option maxRecDepth 100000 in
theorem ks_RX12_yX12_wrong : Cond.selects RX12 yX12_wrong yX12_wrong ∈ tblG := tg (List.mem_of_getElem? (i := 54) rfl) (by decide +kernel)
set_option maxRecDepth 100000 in
theorem ks_RX12_yX12_pass : Cond.selects RX12 yX12_pass yX12_pass ∈ tblG := tg (List.mem_of_getElem? (i := 55) rfl) (by decide +kernel)
set_option maxRecDepth 100000 in
theorem ks_RX12_yX12_readClause : Cond.selects RX12 yX12_readClause yX12_readClause ∈ tblG := tg (List.mem_of_getElem? (i := 56) rfl) (by decide +kernel)
set_option maxRecDepth 100000 in
theorem ks_RX12_yX12_readNumber : Cond.selects RX12 yX12_readNumber yX12_readNumber ∈ tblG := tg (List.mem_of_getElem? (i := 57) rfl) (by decide +kernel)
set_option maxRecDepth 100000 in
theorem ks_RX12_yX12_readCards : Cond.selects RX12 yX12_readCards yX12_readCards ∈ tblG := tg (List.mem_of_getElem? (i := 58) rfl) (by decide +kernel)
set_option maxRecDepth 100000 in
theorem ks_RX12_yX12_sign : Cond.selects RX12 yX12_sign yX12_sign ∈ tblG := tg (List.mem_of_getElem? (i := 59) rfl) (by decide +kernel)
set_option maxRecDepth 100000 in
theorem ks_RX12_yX12_result : Cond.selects RX12 yX12_result yX12_result ∈ tblG := tg (List.mem_of_getElem? (i := 60) rfl) (by decide +kernel)
set_option maxRecDepth 100000 in
theorem ks_RX12_yX12_readPlan : Cond.selects RX12 yX12_readPlan yX12_readPlan ∈ tblG := tg (List.mem_of_getElem? (i := 61) rfl) (by decide +kernel)
set_option maxRecDepth 100000 in
theorem ks_RX12_yX12_readAny : Cond.selects RX12 yX12_readAny yX12_readAny ∈ tblG := tg (List.mem_of_getElem? (i := 62) rfl) (by decide +kernel)
set_option maxRecDepth 100000 in
theorem ks_RX12_yX12_readAll : Cond.selects RX12 yX12_readAll yX12_readAll ∈ tblG := tg (List.mem_of_getElem? (i := 63) rfl) (by decide +kernel)
set_option maxRecDepth 100000 in
theorem ks_RX12_yX12_readOne : Cond.selects RX12 yX12_readOne yX12_readOne ∈ tblG := tg (List.mem_of_getElem? (i := 64) rfl) (by decide +kernel)
set_option maxRecDepth 100000 in
theorem ks_RX12_yX12_opensOne : Cond.selects RX12 yX12_opensOne yX12_opensOne ∈ tblG := tg (List.mem_of_getElem? (i := 65) rfl) (by decide +kernel)
set_option maxRecDepth 100000 in
theorem ks_RX12_yX12_emit : Cond.selects RX12 yX12_emit yX12_emit ∈ tblG := tg (List.mem_of_getElem? (i := 66) rfl) (by decide +kernel)
set_option maxRecDepth 100000 in
theorem ks_RX12_yX12_readKind : Cond.selects RX12 yX12_readKind yX12_readKind ∈ tblG := tg (List.mem_of_getElem? (i := 67) rfl) (by decide +kernel)
set_option maxRecDepth 100000 in
theorem ks_RX12_yX12_readHeld : Cond.selects RX12 yX12_readHeld yX12_readHeld ∈ tblG := tg (List.mem_of_getElem? (i := 68) rfl) (by decide +kernel)
set_option maxRecDepth 100000 in
theorem ks_RX12_yX12_whose : Cond.selects RX12 yX12_whose yX12_whose ∈ tblG := tg (List.mem_of_getElem? (i := 69) rfl) (by decide +kernel)
set_option maxRecDepth 100000 in
theorem ks_RX12_yX12_isOver : Cond.selects RX12 yX12_isOver yX12_isOver ∈ tblG := tg (List.mem_of_getElem? (i := 70) rfl) (by decide +kernel)
set_option maxRecDepth 100000 in
theorem ks_RX12_yX12_isOut : Cond.selects RX12 yX12_isOut yX12_isOut ∈ tblG := tg (List.mem_of_getElem? (i := 71) rfl) (by decide +kernel)
set_option maxRecDepth 100000 in
theorem ks_RX12_yX12_held : Cond.selects RX12 yX12_held yX12_held ∈ tblG := tg (List.mem_of_getElem? (i := 72) rfl) (by decide +kernel)
set_option maxRecDepth 100000 in
theorem ks_RX12_yX12_next : Cond.selects RX12 yX12_next yX12_next ∈ tblG := tg (List.mem_of_getElem? (i := 73) rfl) (by decide +kernel)
set_option maxRecDepth 100000 in
theorem ks_RX12_yX12_isPlayer : Cond.selects RX12 yX12_isPlayer yX12_isPlayer ∈ tblG := tg (List.mem_of_getElem? (i := 74) rfl) (by decide +kernel)
set_option maxRecDepth 100000 in
theorem ks_RX12_yX12_alikes : Cond.selects RX12 yX12_alikes yX12_alikes ∈ tblG := tg (List.mem_of_getElem? (i := 75) rfl) (by decide +kernel)
set_option maxRecDepth 100000 in
theorem ks_RX12_yX12_top : Cond.selects RX12 yX12_top yX12_top ∈ tblG := tg (List.mem_of_getElem? (i := 76) rfl) (by decide +kernel)
set_option maxRecDepth 100000 in
theorem ks_RX12_yX12_holds : Cond.selects RX12 yX12_holds yX12_holds ∈ tblG := tg (List.mem_of_getElem? (i := 77) rfl) (by decide +kernel)
set_option maxRecDepth 100000 in
theorem ks_RX12_yX12_asks : Cond.selects RX12 yX12_asks yX12_asks ∈ tblG := tg (List.mem_of_getElem? (i := 78) rfl) (by decide +kernel)
set_option maxRecDepth 100000 in
theorem ks_RX12_yX12_isMine : Cond.selects RX12 yX12_isMine yX12_isMine ∈ tblG := tg (List.mem_of_getElem? (i := 79) rfl) (by decide +kernel)
set_option maxRecDepth 100000 in
theorem ks_RX12_yX12_remembers : Cond.selects RX12 yX12_remembers yX12_remembers ∈ tblG := tg (List.mem_of_getElem? (i := 80) rfl) (by decide +kernel)
set_option maxRecDepth 100000 in
theorem ks_RX12_yX12_wouldBe : Cond.selects RX12 yX12_wouldBe yX12_wouldBe ∈ tblG := tg (List.mem_of_getElem? (i := 81) rfl) (by decide +kernel)
set_option maxRecDepth 100000 in
theorem ks_RX12_yX12_turn : Cond.selects RX12 yX12_turn yX12_turn ∈ tblG := tg (List.mem_of_getElem? (i := 82) rfl) (by decide +kernel)
set_option maxRecDepth 100000 in
theorem ks_RX12_yX12_turnsOver : Cond.selects RX12 yX12_turnsOver yX12_turnsOver ∈ tblG := tg (List.mem_of_getElem? (i := 83) rfl) (by decide +kernel)
set_option maxRecDepth 100000 in
theorem ks_RX12_yX12_comesToRow : Cond.selects RX12 yX12_comesToRow yX12_comesToRow ∈ tblG := tg (List.mem_of_getElem? (i := 84) rfl) (by decide +kernel)
set_option maxRecDepth 100000 in
theorem ks_RX12_yX12_comes : Cond.selects RX12 yX12_comes yX12_comes ∈ tblG := tg (List.mem_of_getElem? (i := 85) rfl) (by decide +kernel)
set_option maxRecDepth 100000 in
theorem ks_RX12_yX12_take : Cond.selects RX12 yX12_take yX12_take ∈ tblG := tg (List.mem_of_getElem? (i := 86) rfl) (by decide +kernel)
set_option maxRecDepth 100000 in
theorem ks_RX12_yX12_guesses : Cond.selects RX12 yX12_guesses yX12_guesses ∈ tblG := tg (List.mem_of_getElem? (i := 87) rfl) (by decide +kernel)
set_option maxRecDepth 100000 in
theorem ks_RX12_yX12_lays : Cond.selects RX12 yX12_lays yX12_lays ∈ tblG := tg (List.mem_of_getElem? (i := 88) rfl) (by decide +kernel)
set_option maxRecDepth 100000 in
theorem ks_RX12_yX12_takesFirst : Cond.selects RX12 yX12_takesFirst yX12_takesFirst ∈ tblG := tg (List.mem_of_getElem? (i := 89) rfl) (by decide +kernel)
set_option maxRecDepth 100000 in
theorem ks_RX12_yX12_plans : Cond.selects RX12 yX12_plans yX12_plans ∈ tblG := tg (List.mem_of_getElem? (i := 90) rfl) (by decide +kernel)
set_option maxRecDepth 100000 in
theorem ks_RX12_yX12_drawn : Cond.selects RX12 yX12_drawn yX12_drawn ∈ tblG := tg (List.mem_of_getElem? (i := 91) rfl) (by decide +kernel)
set_option maxRecDepth 100000 in
theorem ks_RX12_yX12_counts : Cond.selects RX12 yX12_counts yX12_counts ∈ tblG := tg (List.mem_of_getElem? (i := 92) rfl) (by decide +kernel)
set_option maxRecDepth 100000 in
theorem ks_RX12_yX12_judges : Cond.selects RX12 yX12_judges yX12_judges ∈ tblG := tg (List.mem_of_getElem? (i := 93) rfl) (by decide +kernel)
set_option maxRecDepth 100000 in
theorem ks_RX12_yX12_falls : Cond.selects RX12 yX12_falls yX12_falls ∈ tblG := tg (List.mem_of_getElem? (i := 94) rfl) (by decide +kernel)
set_option maxRecDepth 100000 in
theorem ks_RX12_yX12_pools : Cond.selects RX12 yX12_pools yX12_pools ∈ tblG := tg (List.mem_of_getElem? (i := 95) rfl) (by decide +kernel)
set_option maxRecDepth 100000 in
theorem ks_RX12_yX12_wins : Cond.selects RX12 yX12_wins yX12_wins ∈ tblG := tg (List.mem_of_getElem? (i := 96) rfl) (by decide +kernel)
set_option maxRecDepth 100000 in
theorem ks_RX12_yX12_notes : Cond.selects RX12 yX12_notes yX12_notes ∈ tblG := tg (List.mem_of_getElem? (i := 97) rfl) (by decide +kernel)
set_option maxRecDepth 100000 in
theorem ks_RX12_yX12_keeps : Cond.selects RX12 yX12_keeps yX12_keeps ∈ tblG := tg (List.mem_of_getElem? (i := 98) rfl) (by decide +kernel)
set_option maxRecDepth 100000 in
theorem ks_RX12_yX12_findEnds : Cond.selects RX12 yX12_findEnds yX12_findEnds ∈ tblG := tg (List.mem_of_getElem? (i := 99) rfl) (by decide +kernel)
set_option maxRecDepth 100000 in
theorem ks_RX12_yX12_writes : Cond.selects RX12 yX12_writes yX12_writes ∈ tblG := tg (List.mem_of_getElem? (i := 100) rfl) (by decide +kernel)
set_option maxRecDepth 100000 in
theorem ks_RX12_yX12_puts : Cond.selects RX12 yX12_puts yX12_puts ∈ tblG := tg (List.mem_of_getElem? (i := 101) rfl) (by decide +kernel)
set_option maxRecDepth 100000 in
theorem ks_RX12_yX12_earlier : Cond.selects RX12 yX12_earlier yX12_earlier ∈ tblG := tg (List.mem_of_getElem? (i := 102) rfl) (by decide +kernel)
set_option maxRecDepth 100000 in
theorem ks_RX12_yX12_isSame : Cond.selects RX12 yX12_isSame yX12_isSame ∈ tblG := tg (List.mem_of_getElem? (i := 103) rfl) (by decide +kernel)
set_option maxRecDepth 100000 in
theorem ks_RX12_yX12_leaveSame : Cond.selects RX12 yX12_leaveSame yX12_leaveSame ∈ tblG := tg (List.mem_of_getElem? (i := 104) rfl) (by decide +kernel)
set_option maxRecDepth 100000 in
theorem ks_RX12_yX12_back : Cond.selects RX12 yX12_back yX12_back ∈ tblG := tg (List.mem_of_getElem? (i := 105) rfl) (by decide +kernel)
set_option maxRecDepth 100000 in
theorem ks_RX12_yX12_turnFor : Cond.selects RX12 yX12_turnFor yX12_turnFor ∈ tblG := tg (List.mem_of_getElem? (i := 106) rfl) (by decide +kernel)
set_option maxRecDepth 100000 in
theorem ks_RX12_yX12_isOther : Cond.selects RX12 yX12_isOther yX12_isOther ∈ tblG := tg (List.mem_of_getElem? (i := 107) rfl) (by decide +kernel)
set_option maxRecDepth 100000 in
theorem ks_RX12_yX12_isWorth : Cond.selects RX12 yX12_isWorth yX12_isWorth ∈ tblG := tg (List.mem_of_getElem? (i := 108) rfl) (by decide +kernel)
set_option maxRecDepth 100000 in
theorem ks_RX12_yX12_gets : Cond.selects RX12 yX12_gets yX12_gets ∈ tblG := tg (List.mem_of_getElem? (i := 109) rfl) (by decide +kernel)
set_option maxRecDepth 100000 in
theorem ks_RX12_yX12_isBest : Cond.selects RX12 yX12_isBest yX12_isBest ∈ tblG := tg (List.mem_of_getElem? (i := 110) rfl) (by decide +kernel)
set_option maxRecDepth 100000 in
theorem ks_RX12_yX12_rememberedBy : Cond.selects RX12 yX12_rememberedBy yX12_rememberedBy ∈ tblG := tg (List.mem_of_getElem? (i := 111) rfl) (by decide +kernel)
set_option maxRecDepth 100000 in
theorem ks_RX12_yX12_waysOf : Cond.selects RX12 yX12_waysOf yX12_waysOf ∈ tblG := tg (List.mem_of_getElem? (i := 112) rfl) (by decide +kernel)
set_option maxRecDepth 100000 in
theorem ks_RX12_yX12_hasMost : Cond.selects RX12 yX12_hasMost yX12_hasMost ∈ tblG := tg (List.mem_of_getElem? (i := 113) rfl) (by decide +kernel)
set_option maxRecDepth 100000 in
theorem ks_RX12_yX12_quickness : Cond.selects RX12 yX12_quickness yX12_quickness ∈ tblG := tg (List.mem_of_getElem? (i := 114) rfl) (by decide +kernel)
set_option maxRecDepth 100000 in
theorem ks_RX12_yX12_shuffles : Cond.selects RX12 yX12_shuffles yX12_shuffles ∈ tblG := tg (List.mem_of_getElem? (i := 115) rfl) (by decide +kernel)
set_option maxRecDepth 100000 in
theorem ks_RX12_yX12_keepsAll : Cond.selects RX12 yX12_keepsAll yX12_keepsAll ∈ tblG := tg (List.mem_of_getElem? (i := 116) rfl) (by decide +kernel)
set_option maxRecDepth 100000 in
theorem ks_RX12_yX12_keepsRow : Cond.selects RX12 yX12_keepsRow yX12_keepsRow ∈ tblG := tg (List.mem_of_getElem? (i := 117) rfl) (by decide +kernel)
set_option maxRecDepth 100000 in
theorem kn_RL : Cond.initialized RL ∈ tblG := tg (List.mem_of_getElem? (i := 118) rfl) (by decide +kernel)
set_option maxRecDepth 100000 in
theorem kn_RX11 : Cond.initialized RX11 ∈ tblG := tg (List.mem_of_getElem? (i := 119) rfl) (by decide +kernel)
set_option maxRecDepth 100000 in
theorem kn_RX9 : Cond.initialized RX9 ∈ tblG := tg (List.mem_of_getElem? (i := 120) rfl) (by decide +kernel)
set_option maxRecDepth 100000 in
theorem kn_RX8 : Cond.initialized RX8 ∈ tblG := tg (List.mem_of_getElem? (i := 121) rfl) (by decide +kernel)
set_option maxRecDepth 100000 in
theorem kn_RX0 : Cond.initialized RX0 ∈ tblG := tg (List.mem_of_getElem? (i := 122) rfl) (by decide +kernel)
set_option maxRecDepth 100000 in
theorem kn_RX6 : Cond.initialized RX6 ∈ tblG := tg (List.mem_of_getElem? (i := 123) rfl) (by decide +kernel)
set_option maxRecDepth 100000 in
theorem kn_RX7 : Cond.initialized RX7 ∈ tblG := tg (List.mem_of_getElem? (i := 124) rfl) (by decide +kernel)
set_option maxRecDepth 100000 in
theorem kn_RX1 : Cond.initialized RX1 ∈ tblG := tg (List.mem_of_getElem? (i := 125) rfl) (by decide +kernel)
set_option maxRecDepth 100000 in
theorem kn_RX3 : Cond.initialized RX3 ∈ tblG := tg (List.mem_of_getElem? (i := 126) rfl) (by decide +kernel)
set_option maxRecDepth 100000 in
theorem kn_RX2 : Cond.initialized RX2 ∈ tblG := tg (List.mem_of_getElem? (i := 127) rfl) (by decide +kernel)
set_option maxRecDepth 100000 in
theorem kn_RX10 : Cond.initialized RX10 ∈ tblG := tg (List.mem_of_getElem? (i := 128) rfl) (by decide +kernel)
set_option maxRecDepth 100000 in
theorem kn_RX4 : Cond.initialized RX4 ∈ tblG := tg (List.mem_of_getElem? (i := 129) rfl) (by decide +kernel)
set_option maxRecDepth 100000 in
theorem kn_RX5 : Cond.initialized RX5 ∈ tblG := tg (List.mem_of_getElem? (i := 130) rfl) (by decide +kernel)
set_option maxRecDepth 100000 in
theorem kn_RX12 : Cond.initialized RX12 ∈ tblG := tg (List.mem_of_getElem? (i := 131) rfl) (by decide +kernel)
set_option maxRecDepth 100000 in
theorem kn_java_lang_Throwable : Cond.initialized "java/lang/Throwable" ∈ tblG := tg (List.mem_of_getElem? (i := 132) rfl) (by decide +kernel)
set_option maxRecDepth 100000 in
theorem kn_java_lang_Exception : Cond.initialized "java/lang/Exception" ∈ tblG := tg (List.mem_of_getElem? (i := 133) rfl) (by decide +kernel)
set_option maxRecDepth 100000 in
theorem kn_java_lang_RuntimeException : Cond.initialized "java/lang/RuntimeException" ∈ tblG := tg (List.mem_of_getElem? (i := 134) rfl) (by decide +kernel)
set_option maxRecDepth 100000 in
theorem kn_java_lang_IllegalArgumentException : Cond.initialized "java/lang/IllegalArgumentException" ∈ tblG := tg (List.mem_of_getElem? (i := 135) rfl) (by decide +kernel)
set_option maxRecDepth 100000 in
theorem kn_RJ9 : Cond.initialized RJ9 ∈ tblG := tg (List.mem_of_getElem? (i := 136) rfl) (by decide +kernel)
set_option maxRecDepth 100000 in
theorem kn_RJ7 : Cond.initialized RJ7 ∈ tblG := tg (List.mem_of_getElem? (i := 137) rfl) (by decide +kernel)
set_option maxRecDepth 100000 in
theorem kn_RJ0 : Cond.initialized RJ0 ∈ tblG := tg (List.mem_of_getElem? (i := 138) rfl) (by decide +kernel)
set_option maxRecDepth 100000 in
theorem kn_RJ1 : Cond.initialized RJ1 ∈ tblG := tg (List.mem_of_getElem? (i := 139) rfl) (by decide +kernel)
set_option maxRecDepth 100000 in
theorem kn_RJ3 : Cond.initialized RJ3 ∈ tblG := tg (List.mem_of_getElem? (i := 140) rfl) (by decide +kernel)
set_option maxRecDepth 100000 in
theorem kn_RJ2 : Cond.initialized RJ2 ∈ tblG := tg (List.mem_of_getElem? (i := 141) rfl) (by decide +kernel)
set_option maxRecDepth 100000 in
theorem kn_java_util_NoSuchElementException : Cond.initialized "java/util/NoSuchElementException" ∈ tblG := tg (List.mem_of_getElem? (i := 142) rfl) (by decide +kernel)
set_option maxRecDepth 100000 in
theorem kn_RJ10 : Cond.initialized RJ10 ∈ tblG := tg (List.mem_of_getElem? (i := 143) rfl) (by decide +kernel)
set_option maxRecDepth 100000 in
theorem kl_RL_8 : Cond.classLink RL 8 RX11 ∈ tblG := tg (List.mem_of_getElem? (i := 144) rfl) (by decide +kernel)
set_option maxRecDepth 100000 in
theorem kt_RX11 : Cond.instantiable RX11 16 ∈ tblG := tg (List.mem_of_getElem? (i := 145) rfl) (by decide +kernel)
set_option maxRecDepth 100000 in
theorem km_RL_104 : Cond.methodLink RL 104 yX11_init ∈ tblG := tg (List.mem_of_getElem? (i := 146) rfl) (by decide +kernel)
set_option maxRecDepth 100000 in
theorem km_RX11_1 : Cond.methodLink RX11 1 objectInit ∈ tblG := tg (List.mem_of_getElem? (i := 149) rfl) (by decide +kernel)
set_option maxRecDepth 100000 in
theorem kl_RX11_7 : Cond.classLink RX11 7 RX9 ∈ tblG := tg (List.mem_of_getElem? (i := 152) rfl) (by decide +kernel)
set_option maxRecDepth 100000 in
theorem kt_RX9 : Cond.instantiable RX9 6 ∈ tblG := tg (List.mem_of_getElem? (i := 153) rfl) (by decide +kernel)
set_option maxRecDepth 100000 in
theorem km_RX11_9 : Cond.methodLinkNest RX11 9 yX9_init RX11 ∈ tblN := tn (List.mem_of_getElem? (i := 154) rfl) (by decide +kernel)
set_option maxRecDepth 100000 in
theorem km_RX9_3 : Cond.methodLink RX9 3 objectInit ∈ tblG := tg (List.mem_of_getElem? (i := 157) rfl) (by decide +kernel)
set_option maxRecDepth 100000 in
theorem kl_RX11_16 : Cond.classLink RX11 16 RX8 ∈ tblG := tg (List.mem_of_getElem? (i := 186) rfl) (by decide +kernel)
set_option maxRecDepth 100000 in
theorem kt_RX8 : Cond.instantiable RX8 6 ∈ tblG := tg (List.mem_of_getElem? (i := 187) rfl) (by decide +kernel)
set_option maxRecDepth 100000 in
theorem km_RX11_18 : Cond.methodLinkNest RX11 18 yX8_init RX11 ∈ tblN := tn (List.mem_of_getElem? (i := 188) rfl) (by decide +kernel)
set_option maxRecDepth 100000 in
theorem km_RX8_3 : Cond.methodLink RX8 3 objectInit ∈ tblG := tg (List.mem_of_getElem? (i := 191) rfl) (by decide +kernel)
set_option maxRecDepth 100000 in
theorem kl_RX8_21 : Cond.classLink RX8 21 RX0 ∈ tblG := tg (List.mem_of_getElem? (i := 192) rfl) (by decide +kernel)
set_option maxRecDepth 100000 in
theorem kt_RX0 : Cond.instantiable RX0 9 ∈ tblG := tg (List.mem_of_getElem? (i := 193) rfl) (by decide +kernel)
set_option maxRecDepth 100000 in
theorem km_RX8_23 : Cond.methodLinkNest RX8 23 yX0_init RX11 ∈ tblN := tn (List.mem_of_getElem? (i := 194) rfl) (by decide +kernel)
set_option maxRecDepth 100000 in
theorem km_RX0_3 : Cond.methodLink RX0 3 objectInit ∈ tblG := tg (List.mem_of_getElem? (i := 197) rfl) (by decide +kernel)
set_option maxRecDepth 100000 in
theorem kl_RX0_9 : Cond.classLink RX0 9 RX6 ∈ tblG := tg (List.mem_of_getElem? (i := 198) rfl) (by decide +kernel)
set_option maxRecDepth 100000 in
theorem kt_RX6 : Cond.instantiable RX6 2 ∈ tblG := tg (List.mem_of_getElem? (i := 199) rfl) (by decide +kernel)
set_option maxRecDepth 100000 in
theorem km_RX0_11 : Cond.methodLinkNest RX0 11 yX6_init RX11 ∈ tblN := tn (List.mem_of_getElem? (i := 200) rfl) (by decide +kernel)
set_option maxRecDepth 100000 in
theorem km_RX6_3 : Cond.methodLink RX6 3 objectInit ∈ tblG := tg (List.mem_of_getElem? (i := 203) rfl) (by decide +kernel)
set_option maxRecDepth 100000 in
theorem kl_RX11_26 : Cond.classLink RX11 26 RX7 ∈ tblG := tg (List.mem_of_getElem? (i := 273) rfl) (by decide +kernel)
set_option maxRecDepth 100000 in
theorem kt_RX7 : Cond.instantiable RX7 2 ∈ tblG := tg (List.mem_of_getElem? (i := 274) rfl) (by decide +kernel)
set_option maxRecDepth 100000 in
theorem km_RX11_28 : Cond.methodLink RX11 28 yX7_init ∈ tblG := tg (List.mem_of_getElem? (i := 275) rfl) (by decide +kernel)
set_option maxRecDepth 100000 in
theorem km_RX7_3 : Cond.methodLink RX7 3 objectInit ∈ tblG := tg (List.mem_of_getElem? (i := 278) rfl) (by decide +kernel)
set_option maxRecDepth 100000 in
theorem kl_RX11_33 : Cond.classLink RX11 33 RX1 ∈ tblG := tg (List.mem_of_getElem? (i := 286) rfl) (by decide +kernel)
set_option maxRecDepth 100000 in
theorem kt_RX1 : Cond.instantiable RX1 3 ∈ tblG := tg (List.mem_of_getElem? (i := 287) rfl) (by decide +kernel)
set_option maxRecDepth 100000 in
theorem km_RX11_35 : Cond.methodLinkNest RX11 35 yX1_init RX11 ∈ tblN := tn (List.mem_of_getElem? (i := 288) rfl) (by decide +kernel)
set_option maxRecDepth 100000 in
theorem km_RX1_3 : Cond.methodLink RX1 3 objectInit ∈ tblG := tg (List.mem_of_getElem? (i := 291) rfl) (by decide +kernel)
set_option maxRecDepth 100000 in
theorem kl_RX11_43 : Cond.classLink RX11 43 RX3 ∈ tblG := tg (List.mem_of_getElem? (i := 303) rfl) (by decide +kernel)
set_option maxRecDepth 100000 in
theorem kt_RX3 : Cond.instantiable RX3 14 ∈ tblG := tg (List.mem_of_getElem? (i := 304) rfl) (by decide +kernel)
set_option maxRecDepth 100000 in
theorem km_RX11_45 : Cond.methodLink RX11 45 yX3_init ∈ tblG := tg (List.mem_of_getElem? (i := 305) rfl) (by decide +kernel)
set_option maxRecDepth 100000 in
theorem km_RX3_5 : Cond.methodLink RX3 5 objectInit ∈ tblG := tg (List.mem_of_getElem? (i := 308) rfl) (by decide +kernel)
set_option maxRecDepth 100000 in
theorem kl_RX3_11 : Cond.classLink RX3 11 RX0 ∈ tblG := tg (List.mem_of_getElem? (i := 309) rfl) (by decide +kernel)
set_option maxRecDepth 100000 in
theorem km_RX3_13 : Cond.methodLinkNest RX3 13 yX0_init RX11 ∈ tblN := tn (List.mem_of_getElem? (i := 310) rfl) (by decide +kernel)
set_option maxRecDepth 100000 in
theorem kl_RX3_22 : Cond.classLink RX3 22 RX7 ∈ tblG := tg (List.mem_of_getElem? (i := 311) rfl) (by decide +kernel)
set_option maxRecDepth 100000 in
theorem kl_RX11_52 : Cond.classLink RX11 52 RX2 ∈ tblG := tg (List.mem_of_getElem? (i := 370) rfl) (by decide +kernel)
set_option maxRecDepth 100000 in
theorem kt_RX2 : Cond.instantiable RX2 8 ∈ tblG := tg (List.mem_of_getElem? (i := 371) rfl) (by decide +kernel)
set_option maxRecDepth 100000 in
theorem km_RX11_54 : Cond.methodLink RX11 54 yX2_init ∈ tblG := tg (List.mem_of_getElem? (i := 372) rfl) (by decide +kernel)
set_option maxRecDepth 100000 in
theorem km_RX2_3 : Cond.methodLink RX2 3 objectInit ∈ tblG := tg (List.mem_of_getElem? (i := 375) rfl) (by decide +kernel)
set_option maxRecDepth 100000 in
theorem kl_RX2_22 : Cond.classLink RX2 22 RX3 ∈ tblG := tg (List.mem_of_getElem? (i := 376) rfl) (by decide +kernel)
set_option maxRecDepth 100000 in
theorem km_RX2_24 : Cond.methodLink RX2 24 yX3_init ∈ tblG := tg (List.mem_of_getElem? (i := 377) rfl) (by decide +kernel)
set_option maxRecDepth 100000 in
theorem kl_RX11_59 : Cond.classLink RX11 59 RX10 ∈ tblG := tg (List.mem_of_getElem? (i := 409) rfl) (by decide +kernel)
set_option maxRecDepth 100000 in
theorem kt_RX10 : Cond.instantiable RX10 9 ∈ tblG := tg (List.mem_of_getElem? (i := 410) rfl) (by decide +kernel)
set_option maxRecDepth 100000 in
theorem km_RX11_61 : Cond.methodLink RX11 61 yX10_init ∈ tblG := tg (List.mem_of_getElem? (i := 411) rfl) (by decide +kernel)
set_option maxRecDepth 100000 in
theorem km_RX10_3 : Cond.methodLink RX10 3 objectInit ∈ tblG := tg (List.mem_of_getElem? (i := 414) rfl) (by decide +kernel)
set_option maxRecDepth 100000 in
theorem kl_RX10_11 : Cond.classLink RX10 11 RX0 ∈ tblG := tg (List.mem_of_getElem? (i := 415) rfl) (by decide +kernel)
set_option maxRecDepth 100000 in
theorem km_RX10_21 : Cond.methodLinkNest RX10 21 yX0_init RX11 ∈ tblN := tn (List.mem_of_getElem? (i := 417) rfl) (by decide +kernel)
set_option maxRecDepth 100000 in
theorem kl_RX11_66 : Cond.classLink RX11 66 RX4 ∈ tblG := tg (List.mem_of_getElem? (i := 450) rfl) (by decide +kernel)
set_option maxRecDepth 100000 in
theorem kt_RX4 : Cond.instantiable RX4 6 ∈ tblG := tg (List.mem_of_getElem? (i := 451) rfl) (by decide +kernel)
set_option maxRecDepth 100000 in
theorem km_RX11_68 : Cond.methodLinkNest RX11 68 yX4_init RX11 ∈ tblN := tn (List.mem_of_getElem? (i := 452) rfl) (by decide +kernel)
set_option maxRecDepth 100000 in
theorem km_RX4_3 : Cond.methodLink RX4 3 objectInit ∈ tblG := tg (List.mem_of_getElem? (i := 455) rfl) (by decide +kernel)
set_option maxRecDepth 100000 in
theorem kl_RX11_73 : Cond.classLink RX11 73 RX5 ∈ tblG := tg (List.mem_of_getElem? (i := 477) rfl) (by decide +kernel)
set_option maxRecDepth 100000 in
theorem kt_RX5 : Cond.instantiable RX5 3 ∈ tblG := tg (List.mem_of_getElem? (i := 478) rfl) (by decide +kernel)
set_option maxRecDepth 100000 in
theorem km_RX11_75 : Cond.methodLink RX11 75 yX5_init ∈ tblG := tg (List.mem_of_getElem? (i := 479) rfl) (by decide +kernel)
set_option maxRecDepth 100000 in
theorem km_RX5_1 : Cond.methodLink RX5 1 objectInit ∈ tblG := tg (List.mem_of_getElem? (i := 482) rfl) (by decide +kernel)
set_option maxRecDepth 100000 in
theorem kl_RX5_7 : Cond.classLink RX5 7 RX9 ∈ tblG := tg (List.mem_of_getElem? (i := 483) rfl) (by decide +kernel)
set_option maxRecDepth 100000 in
theorem km_RX5_9 : Cond.methodLinkNest RX5 9 yX9_init RX11 ∈ tblN := tn (List.mem_of_getElem? (i := 484) rfl) (by decide +kernel)
set_option maxRecDepth 100000 in
theorem kl_RX5_22 : Cond.classLink RX5 22 RX3 ∈ tblG := tg (List.mem_of_getElem? (i := 485) rfl) (by decide +kernel)
set_option maxRecDepth 100000 in
theorem km_RX5_24 : Cond.methodLink RX5 24 yX3_init ∈ tblG := tg (List.mem_of_getElem? (i := 486) rfl) (by decide +kernel)
set_option maxRecDepth 100000 in
theorem km_RL_108 : Cond.methodLink RL 108 yX11_feed ∈ tblG := tg (List.mem_of_getElem? (i := 546) rfl) (by decide +kernel)
set_option maxRecDepth 100000 in
theorem ks_RX11_yX11_feed : Cond.selects RX11 yX11_feed yX11_feed ∈ tblG := tg (List.mem_of_getElem? (i := 548) rfl) (by decide +kernel)
set_option maxRecDepth 100000 in
theorem km_RX11_86 : Cond.methodLink RX11 86 yX9_hasRoom ∈ tblG := tg (List.mem_of_getElem? (i := 550) rfl) (by decide +kernel)
set_option maxRecDepth 100000 in
theorem ks_RX9_yX9_hasRoom : Cond.selects RX9 yX9_hasRoom yX9_hasRoom ∈ tblG := tg (List.mem_of_getElem? (i := 552) rfl) (by decide +kernel)
set_option maxRecDepth 100000 in
theorem km_RX11_90 : Cond.methodLink RX11 90 yX9_addFour ∈ tblG := tg (List.mem_of_getElem? (i := 554) rfl) (by decide +kernel)
set_option maxRecDepth 100000 in
theorem ks_RX9_yX9_addFour : Cond.selects RX9 yX9_addFour yX9_addFour ∈ tblG := tg (List.mem_of_getElem? (i := 556) rfl) (by decide +kernel)
set_option maxRecDepth 100000 in
theorem km_RL_128 : Cond.methodLink RL 128 yX11_fault ∈ tblG := tg (List.mem_of_getElem? (i := 558) rfl) (by decide +kernel)
set_option maxRecDepth 100000 in
theorem ks_RX11_yX11_fault : Cond.selects RX11 yX11_fault yX11_fault ∈ tblG := tg (List.mem_of_getElem? (i := 560) rfl) (by decide +kernel)
set_option maxRecDepth 100000 in
theorem km_RL_145 : Cond.methodLink RL 145 yX11_pool ∈ tblG := tg (List.mem_of_getElem? (i := 562) rfl) (by decide +kernel)
set_option maxRecDepth 100000 in
theorem ks_RX11_yX11_pool : Cond.selects RX11 yX11_pool yX11_pool ∈ tblG := tg (List.mem_of_getElem? (i := 564) rfl) (by decide +kernel)
set_option maxRecDepth 100000 in
theorem km_RX11_197 : Cond.methodLink RX11 197 yX6_kindAt ∈ tblG := tg (List.mem_of_getElem? (i := 566) rfl) (by decide +kernel)
set_option maxRecDepth 100000 in
theorem ks_RX6_yX6_kindAt : Cond.selects RX6 yX6_kindAt yX6_kindAt ∈ tblG := tg (List.mem_of_getElem? (i := 568) rfl) (by decide +kernel)
set_option maxRecDepth 100000 in
theorem km_RL_152 : Cond.methodLink RL 152 yX11_alike ∈ tblG := tg (List.mem_of_getElem? (i := 570) rfl) (by decide +kernel)
set_option maxRecDepth 100000 in
theorem ks_RX11_yX11_alike : Cond.selects RX11 yX11_alike yX11_alike ∈ tblG := tg (List.mem_of_getElem? (i := 572) rfl) (by decide +kernel)
set_option maxRecDepth 100000 in
theorem km_RX11_203 : Cond.methodLink RX11 203 yX0_likeTops ∈ tblG := tg (List.mem_of_getElem? (i := 574) rfl) (by decide +kernel)
set_option maxRecDepth 100000 in
theorem ks_RX0_yX0_likeTops : Cond.selects RX0 yX0_likeTops yX0_likeTops ∈ tblG := tg (List.mem_of_getElem? (i := 576) rfl) (by decide +kernel)
set_option maxRecDepth 100000 in
theorem km_RX0_72 : Cond.methodLink RX0 72 yX0_likeTopsIf ∈ tblG := tg (List.mem_of_getElem? (i := 578) rfl) (by decide +kernel)
set_option maxRecDepth 100000 in
theorem ks_RX0_yX0_likeTopsIf : Cond.selects RX0 yX0_likeTopsIf yX0_likeTopsIf ∈ tblG := tg (List.mem_of_getElem? (i := 580) rfl) (by decide +kernel)
set_option maxRecDepth 100000 in
theorem km_RX0_75 : Cond.methodLink RX0 75 yX6_topKind ∈ tblG := tg (List.mem_of_getElem? (i := 582) rfl) (by decide +kernel)
set_option maxRecDepth 100000 in
theorem ks_RX6_yX6_topKind : Cond.selects RX6 yX6_topKind yX6_topKind ∈ tblG := tg (List.mem_of_getElem? (i := 584) rfl) (by decide +kernel)
set_option maxRecDepth 100000 in
theorem km_RL_162 : Cond.methodLink RL 162 yX11_draws ∈ tblG := tg (List.mem_of_getElem? (i := 586) rfl) (by decide +kernel)
set_option maxRecDepth 100000 in
theorem ks_RX11_yX11_draws : Cond.selects RX11 yX11_draws yX11_draws ∈ tblG := tg (List.mem_of_getElem? (i := 588) rfl) (by decide +kernel)
set_option maxRecDepth 100000 in
theorem km_RX11_124 : Cond.methodLink RX11 124 yX4_settle ∈ tblG := tg (List.mem_of_getElem? (i := 590) rfl) (by decide +kernel)
set_option maxRecDepth 100000 in
theorem ks_RX4_yX4_settle : Cond.selects RX4 yX4_settle yX4_settle ∈ tblG := tg (List.mem_of_getElem? (i := 592) rfl) (by decide +kernel)
set_option maxRecDepth 100000 in
theorem km_RL_167 : Cond.methodLink RL 167 yX11_still ∈ tblG := tg (List.mem_of_getElem? (i := 594) rfl) (by decide +kernel)
set_option maxRecDepth 100000 in
theorem ks_RX11_yX11_still : Cond.selects RX11 yX11_still yX11_still ∈ tblG := tg (List.mem_of_getElem? (i := 596) rfl) (by decide +kernel)
set_option maxRecDepth 100000 in
theorem km_RL_189 : Cond.methodLink RL 189 yX11_where ∈ tblG := tg (List.mem_of_getElem? (i := 598) rfl) (by decide +kernel)
set_option maxRecDepth 100000 in
theorem ks_RX11_yX11_where : Cond.selects RX11 yX11_where yX11_where ∈ tblG := tg (List.mem_of_getElem? (i := 600) rfl) (by decide +kernel)
set_option maxRecDepth 100000 in
theorem km_RX11_255 : Cond.methodLink RX11 255 yX10_likeTurn ∈ tblG := tg (List.mem_of_getElem? (i := 602) rfl) (by decide +kernel)
set_option maxRecDepth 100000 in
theorem ks_RX10_yX10_likeTurn : Cond.selects RX10 yX10_likeTurn yX10_likeTurn ∈ tblG := tg (List.mem_of_getElem? (i := 604) rfl) (by decide +kernel)
set_option maxRecDepth 100000 in
theorem km_RX10_30 : Cond.methodLink RX10 30 yX10_start ∈ tblG := tg (List.mem_of_getElem? (i := 606) rfl) (by decide +kernel)
set_option maxRecDepth 100000 in
theorem km_RX10_22 : Cond.methodLink RX10 22 yX10_boardAt ∈ tblG := tg (List.mem_of_getElem? (i := 610) rfl) (by decide +kernel)
set_option maxRecDepth 100000 in
theorem km_RX10_26 : Cond.methodLink RX10 26 yX0_become ∈ tblG := tg (List.mem_of_getElem? (i := 614) rfl) (by decide +kernel)
set_option maxRecDepth 100000 in
theorem ks_RX0_yX0_become : Cond.selects RX0 yX0_become yX0_become ∈ tblG := tg (List.mem_of_getElem? (i := 616) rfl) (by decide +kernel)
set_option maxRecDepth 100000 in
theorem km_RX0_47 : Cond.methodLink RX0 47 yX0_pileOf ∈ tblG := tg (List.mem_of_getElem? (i := 618) rfl) (by decide +kernel)
set_option maxRecDepth 100000 in
theorem ks_RX0_yX0_pileOf : Cond.selects RX0 yX0_pileOf yX0_pileOf ∈ tblG := tg (List.mem_of_getElem? (i := 620) rfl) (by decide +kernel)
set_option maxRecDepth 100000 in
theorem km_RX0_36 : Cond.methodLink RX0 36 yX0_rowOf ∈ tblG := tg (List.mem_of_getElem? (i := 622) rfl) (by decide +kernel)
set_option maxRecDepth 100000 in
theorem ks_RX0_yX0_rowOf : Cond.selects RX0 yX0_rowOf yX0_rowOf ∈ tblG := tg (List.mem_of_getElem? (i := 624) rfl) (by decide +kernel)
set_option maxRecDepth 100000 in
theorem km_RX0_40 : Cond.methodLink RX0 40 yX0_heapOf ∈ tblG := tg (List.mem_of_getElem? (i := 626) rfl) (by decide +kernel)
set_option maxRecDepth 100000 in
theorem ks_RX0_yX0_heapOf : Cond.selects RX0 yX0_heapOf yX0_heapOf ∈ tblG := tg (List.mem_of_getElem? (i := 628) rfl) (by decide +kernel)
set_option maxRecDepth 100000 in
theorem km_RX0_56 : Cond.methodLink RX0 56 yX6_become ∈ tblG := tg (List.mem_of_getElem? (i := 630) rfl) (by decide +kernel)
set_option maxRecDepth 100000 in
theorem ks_RX6_yX6_become : Cond.selects RX6 yX6_become yX6_become ∈ tblG := tg (List.mem_of_getElem? (i := 632) rfl) (by decide +kernel)
set_option maxRecDepth 100000 in
theorem km_RX6_19 : Cond.methodLink RX6 19 yX6_put ∈ tblG := tg (List.mem_of_getElem? (i := 634) rfl) (by decide +kernel)
set_option maxRecDepth 100000 in
theorem ks_RX6_yX6_put : Cond.selects RX6 yX6_put yX6_put ∈ tblG := tg (List.mem_of_getElem? (i := 636) rfl) (by decide +kernel)
set_option maxRecDepth 100000 in
theorem km_RX10_33 : Cond.methodLink RX10 33 yX0_step ∈ tblG := tg (List.mem_of_getElem? (i := 638) rfl) (by decide +kernel)
set_option maxRecDepth 100000 in
theorem ks_RX0_yX0_step : Cond.selects RX0 yX0_step yX0_step ∈ tblG := tg (List.mem_of_getElem? (i := 640) rfl) (by decide +kernel)
set_option maxRecDepth 100000 in
theorem km_RX0_92 : Cond.methodLink RX0 92 yX0_whose ∈ tblG := tg (List.mem_of_getElem? (i := 642) rfl) (by decide +kernel)
set_option maxRecDepth 100000 in
theorem ks_RX0_yX0_whose : Cond.selects RX0 yX0_whose yX0_whose ∈ tblG := tg (List.mem_of_getElem? (i := 644) rfl) (by decide +kernel)
set_option maxRecDepth 100000 in
theorem km_RX0_68 : Cond.methodLink RX0 68 yX0_remaining ∈ tblG := tg (List.mem_of_getElem? (i := 646) rfl) (by decide +kernel)
set_option maxRecDepth 100000 in
theorem ks_RX0_yX0_remaining : Cond.selects RX0 yX0_remaining yX0_remaining ∈ tblG := tg (List.mem_of_getElem? (i := 648) rfl) (by decide +kernel)
set_option maxRecDepth 100000 in
theorem km_RX0_60 : Cond.methodLink RX0 60 yX0_isOut ∈ tblG := tg (List.mem_of_getElem? (i := 650) rfl) (by decide +kernel)
set_option maxRecDepth 100000 in
theorem ks_RX0_yX0_isOut : Cond.selects RX0 yX0_isOut yX0_isOut ∈ tblG := tg (List.mem_of_getElem? (i := 652) rfl) (by decide +kernel)
set_option maxRecDepth 100000 in
theorem km_RX0_64 : Cond.methodLink RX0 64 yX0_firstIn ∈ tblG := tg (List.mem_of_getElem? (i := 654) rfl) (by decide +kernel)
set_option maxRecDepth 100000 in
theorem ks_RX0_yX0_firstIn : Cond.selects RX0 yX0_firstIn yX0_firstIn ∈ tblG := tg (List.mem_of_getElem? (i := 656) rfl) (by decide +kernel)
set_option maxRecDepth 100000 in
theorem km_RX0_95 : Cond.methodLink RX0 95 yX0_turnOver ∈ tblG := tg (List.mem_of_getElem? (i := 658) rfl) (by decide +kernel)
set_option maxRecDepth 100000 in
theorem ks_RX0_yX0_turnOver : Cond.selects RX0 yX0_turnOver yX0_turnOver ∈ tblG := tg (List.mem_of_getElem? (i := 660) rfl) (by decide +kernel)
set_option maxRecDepth 100000 in
theorem km_RX0_82 : Cond.methodLink RX0 82 yX6_takeAll ∈ tblG := tg (List.mem_of_getElem? (i := 662) rfl) (by decide +kernel)
set_option maxRecDepth 100000 in
theorem ks_RX6_yX6_takeAll : Cond.selects RX6 yX6_takeAll yX6_takeAll ∈ tblG := tg (List.mem_of_getElem? (i := 664) rfl) (by decide +kernel)
set_option maxRecDepth 100000 in
theorem km_RX0_98 : Cond.methodLink RX0 98 yX0_lay ∈ tblG := tg (List.mem_of_getElem? (i := 666) rfl) (by decide +kernel)
set_option maxRecDepth 100000 in
theorem ks_RX0_yX0_lay : Cond.selects RX0 yX0_lay yX0_lay ∈ tblG := tg (List.mem_of_getElem? (i := 668) rfl) (by decide +kernel)
set_option maxRecDepth 100000 in
theorem km_RX0_85 : Cond.methodLink RX0 85 yX6_takeFirst ∈ tblG := tg (List.mem_of_getElem? (i := 670) rfl) (by decide +kernel)
set_option maxRecDepth 100000 in
theorem ks_RX6_yX6_takeFirst : Cond.selects RX6 yX6_takeFirst yX6_takeFirst ∈ tblG := tg (List.mem_of_getElem? (i := 672) rfl) (by decide +kernel)
set_option maxRecDepth 100000 in
theorem km_RX0_88 : Cond.methodLink RX0 88 yX6_put ∈ tblG := tg (List.mem_of_getElem? (i := 674) rfl) (by decide +kernel)
set_option maxRecDepth 100000 in
theorem km_RX10_37 : Cond.methodLink RX10 37 yX0_likeTops ∈ tblG := tg (List.mem_of_getElem? (i := 675) rfl) (by decide +kernel)
set_option maxRecDepth 100000 in
theorem km_RL_216 : Cond.methodLink RL 216 yX11_shuffle ∈ tblG := tg (List.mem_of_getElem? (i := 676) rfl) (by decide +kernel)
set_option maxRecDepth 100000 in
theorem ks_RX11_yX11_shuffle : Cond.selects RX11 yX11_shuffle yX11_shuffle ∈ tblG := tg (List.mem_of_getElem? (i := 678) rfl) (by decide +kernel)
set_option maxRecDepth 100000 in
theorem km_RX11_304 : Cond.methodLink RX11 304 yX0_mix ∈ tblG := tg (List.mem_of_getElem? (i := 680) rfl) (by decide +kernel)
set_option maxRecDepth 100000 in
theorem ks_RX0_yX0_mix : Cond.selects RX0 yX0_mix yX0_mix ∈ tblG := tg (List.mem_of_getElem? (i := 682) rfl) (by decide +kernel)
set_option maxRecDepth 100000 in
theorem km_RX0_102 : Cond.methodLink RX0 102 yX6_exchange ∈ tblG := tg (List.mem_of_getElem? (i := 685) rfl) (by decide +kernel)
set_option maxRecDepth 100000 in
theorem ks_RX6_yX6_exchange : Cond.selects RX6 yX6_exchange yX6_exchange ∈ tblG := tg (List.mem_of_getElem? (i := 687) rfl) (by decide +kernel)
set_option maxRecDepth 100000 in
theorem km_RL_233 : Cond.methodLink RL 233 yX11_right ∈ tblG := tg (List.mem_of_getElem? (i := 689) rfl) (by decide +kernel)
set_option maxRecDepth 100000 in
theorem ks_RX11_yX11_right : Cond.selects RX11 yX11_right yX11_right ∈ tblG := tg (List.mem_of_getElem? (i := 691) rfl) (by decide +kernel)
set_option maxRecDepth 100000 in
theorem km_RX11_313 : Cond.methodLink RX11 313 yX1_turnAt ∈ tblG := tg (List.mem_of_getElem? (i := 693) rfl) (by decide +kernel)
set_option maxRecDepth 100000 in
theorem ks_RX1_yX1_turnAt : Cond.selects RX1 yX1_turnAt yX1_turnAt ∈ tblG := tg (List.mem_of_getElem? (i := 695) rfl) (by decide +kernel)
set_option maxRecDepth 100000 in
theorem km_RX11_316 : Cond.methodLink RX11 316 yX4_winnerOf ∈ tblG := tg (List.mem_of_getElem? (i := 697) rfl) (by decide +kernel)
set_option maxRecDepth 100000 in
theorem ks_RX4_yX4_winnerOf : Cond.selects RX4 yX4_winnerOf yX4_winnerOf ∈ tblG := tg (List.mem_of_getElem? (i := 699) rfl) (by decide +kernel)
set_option maxRecDepth 100000 in
theorem km_RX11_319 : Cond.methodLink RX11 319 yX1_playerAt ∈ tblG := tg (List.mem_of_getElem? (i := 702) rfl) (by decide +kernel)
set_option maxRecDepth 100000 in
theorem ks_RX1_yX1_playerAt : Cond.selects RX1 yX1_playerAt yX1_playerAt ∈ tblG := tg (List.mem_of_getElem? (i := 704) rfl) (by decide +kernel)
set_option maxRecDepth 100000 in
theorem km_RL_240 : Cond.methodLink RL 240 yX11_image ∈ tblG := tg (List.mem_of_getElem? (i := 706) rfl) (by decide +kernel)
set_option maxRecDepth 100000 in
theorem ks_RX11_yX11_image : Cond.selects RX11 yX11_image yX11_image ∈ tblG := tg (List.mem_of_getElem? (i := 708) rfl) (by decide +kernel)
set_option maxRecDepth 100000 in
theorem km_RX11_322 : Cond.methodLink RX11 322 yX11_imageOf ∈ tblG := tg (List.mem_of_getElem? (i := 710) rfl) (by decide +kernel)
set_option maxRecDepth 100000 in
theorem km_RX11_326 : Cond.methodLink RX11 326 yX5_take ∈ tblG := tg (List.mem_of_getElem? (i := 714) rfl) (by decide +kernel)
set_option maxRecDepth 100000 in
theorem ks_RX5_yX5_take : Cond.selects RX5 yX5_take yX5_take ∈ tblG := tg (List.mem_of_getElem? (i := 716) rfl) (by decide +kernel)
set_option maxRecDepth 100000 in
theorem km_RX5_31 : Cond.methodLink RX5 31 yX3_become ∈ tblG := tg (List.mem_of_getElem? (i := 718) rfl) (by decide +kernel)
set_option maxRecDepth 100000 in
theorem ks_RX3_yX3_become : Cond.selects RX3 yX3_become yX3_become ∈ tblG := tg (List.mem_of_getElem? (i := 720) rfl) (by decide +kernel)
set_option maxRecDepth 100000 in
theorem km_RX3_50 : Cond.methodLink RX3 50 yX0_become ∈ tblG := tg (List.mem_of_getElem? (i := 722) rfl) (by decide +kernel)
set_option maxRecDepth 100000 in
theorem km_RX5_35 : Cond.methodLink RX5 35 yX9_become ∈ tblG := tg (List.mem_of_getElem? (i := 723) rfl) (by decide +kernel)
set_option maxRecDepth 100000 in
theorem ks_RX9_yX9_become : Cond.selects RX9 yX9_become yX9_become ∈ tblG := tg (List.mem_of_getElem? (i := 725) rfl) (by decide +kernel)
set_option maxRecDepth 100000 in
theorem km_RL_244 : Cond.methodLink RL 244 yX11_restore ∈ tblG := tg (List.mem_of_getElem? (i := 727) rfl) (by decide +kernel)
set_option maxRecDepth 100000 in
theorem ks_RX11_yX11_restore : Cond.selects RX11 yX11_restore yX11_restore ∈ tblG := tg (List.mem_of_getElem? (i := 729) rfl) (by decide +kernel)
set_option maxRecDepth 100000 in
theorem km_RX11_330 : Cond.methodLink RX11 330 yX5_bring ∈ tblG := tg (List.mem_of_getElem? (i := 731) rfl) (by decide +kernel)
set_option maxRecDepth 100000 in
theorem ks_RX5_yX5_bring : Cond.selects RX5 yX5_bring yX5_bring ∈ tblG := tg (List.mem_of_getElem? (i := 733) rfl) (by decide +kernel)
set_option maxRecDepth 100000 in
theorem km_RX5_39 : Cond.methodLink RX5 39 yX4_keepWinners ∈ tblG := tg (List.mem_of_getElem? (i := 735) rfl) (by decide +kernel)
set_option maxRecDepth 100000 in
theorem ks_RX4_yX4_keepWinners : Cond.selects RX4 yX4_keepWinners yX4_keepWinners ∈ tblG := tg (List.mem_of_getElem? (i := 737) rfl) (by decide +kernel)
set_option maxRecDepth 100000 in
theorem km_RX5_47 : Cond.methodLink RX5 47 yX4_settle ∈ tblG := tg (List.mem_of_getElem? (i := 739) rfl) (by decide +kernel)
set_option maxRecDepth 100000 in
theorem km_RL_248 : Cond.methodLink RL 248 yX11_status ∈ tblG := tg (List.mem_of_getElem? (i := 740) rfl) (by decide +kernel)
set_option maxRecDepth 100000 in
theorem ks_RX11_yX11_status : Cond.selects RX11 yX11_status yX11_status ∈ tblG := tg (List.mem_of_getElem? (i := 742) rfl) (by decide +kernel)
set_option maxRecDepth 100000 in
theorem km_RL_252 : Cond.methodLink RL 252 yX11_count ∈ tblG := tg (List.mem_of_getElem? (i := 744) rfl) (by decide +kernel)
set_option maxRecDepth 100000 in
theorem ks_RX11_yX11_count : Cond.selects RX11 yX11_count yX11_count ∈ tblG := tg (List.mem_of_getElem? (i := 746) rfl) (by decide +kernel)
set_option maxRecDepth 100000 in
theorem km_RL_112 : Cond.methodLink RL 112 yL_table ∈ tblG := tg (List.mem_of_getElem? (i := 748) rfl) (by decide +kernel)
set_option maxRecDepth 100000 in
theorem kl_RL_13 : Cond.classLink RL 13 "java/lang/IllegalArgumentException" ∈ tblG := tg (List.mem_of_getElem? (i := 751) rfl) (by decide +kernel)
set_option maxRecDepth 100000 in
theorem km_RL_7 : Cond.methodLink RL 7 yX11_table ∈ tblG := tg (List.mem_of_getElem? (i := 752) rfl) (by decide +kernel)
set_option maxRecDepth 100000 in
theorem ks_RX11_yX11_table : Cond.selects RX11 yX11_table yX11_table ∈ tblG := tg (List.mem_of_getElem? (i := 754) rfl) (by decide +kernel)
set_option maxRecDepth 100000 in
theorem km_RX11_98 : Cond.methodLink RX11 98 yX11_needRange ∈ tblG := tg (List.mem_of_getElem? (i := 756) rfl) (by decide +kernel)
set_option maxRecDepth 100000 in
theorem kl_RX11_349 : Cond.classLink RX11 349 "java/lang/IllegalArgumentException" ∈ tblG := tg (List.mem_of_getElem? (i := 760) rfl) (by decide +kernel)
set_option maxRecDepth 100000 in
theorem kt_java_lang_IllegalArgumentException : Cond.instantiable "java/lang/IllegalArgumentException" 6 ∈ tblG := tg (List.mem_of_getElem? (i := 761) rfl) (by decide +kernel)
set_option maxRecDepth 100000 in
theorem kt_java_lang_Throwable : Cond.instantiable "java/lang/Throwable" 6 ∈ tblG := tg (List.mem_of_getElem? (i := 798) rfl) (by decide +kernel)
set_option maxRecDepth 100000 in
theorem km_RX11_353 : Cond.methodLink RX11 353 ⟨"java/lang/IllegalArgumentException", "<init>", "(Ljava/lang/String;)V"⟩ ∈ tblG := tg (List.mem_of_getElem? (i := 801) rfl) (by decide +kernel)
set_option maxRecDepth 100000 in
theorem km_RX11_102 : Cond.methodLink RX11 102 yX9_open ∈ tblG := tg (List.mem_of_getElem? (i := 826) rfl) (by decide +kernel)
set_option maxRecDepth 100000 in
theorem ks_RX9_yX9_open : Cond.selects RX9 yX9_open yX9_open ∈ tblG := tg (List.mem_of_getElem? (i := 828) rfl) (by decide +kernel)
set_option maxRecDepth 100000 in
theorem km_RX9_22 : Cond.methodLink RX9 22 yJ9_min_7cf53 ∈ tblG := tg (List.mem_of_getElem? (i := 830) rfl) (by decide +kernel)
set_option maxRecDepth 100000 in
theorem km_RX11_105 : Cond.methodLink RX11 105 yX8_read ∈ tblG := tg (List.mem_of_getElem? (i := 833) rfl) (by decide +kernel)
set_option maxRecDepth 100000 in
theorem ks_RX8_yX8_read : Cond.selects RX8 yX8_read yX8_read ∈ tblG := tg (List.mem_of_getElem? (i := 835) rfl) (by decide +kernel)
set_option maxRecDepth 100000 in
theorem km_RX8_43 : Cond.methodLink RX8 43 yJ7_fill_53178 ∈ tblG := tg (List.mem_of_getElem? (i := 837) rfl) (by decide +kernel)
set_option maxRecDepth 100000 in
theorem km_RX8_49 : Cond.methodLink RX8 49 yX0_clear ∈ tblG := tg (List.mem_of_getElem? (i := 840) rfl) (by decide +kernel)
set_option maxRecDepth 100000 in
theorem ks_RX0_yX0_clear : Cond.selects RX0 yX0_clear yX0_clear ∈ tblG := tg (List.mem_of_getElem? (i := 842) rfl) (by decide +kernel)
set_option maxRecDepth 100000 in
theorem km_RX8_57 : Cond.methodLink RX8 57 yX9_peek ∈ tblG := tg (List.mem_of_getElem? (i := 844) rfl) (by decide +kernel)
set_option maxRecDepth 100000 in
theorem ks_RX9_yX9_peek : Cond.selects RX9 yX9_peek yX9_peek ∈ tblG := tg (List.mem_of_getElem? (i := 846) rfl) (by decide +kernel)
set_option maxRecDepth 100000 in
theorem km_RX8_61 : Cond.methodLink RX8 61 yX8_readClause ∈ tblG := tg (List.mem_of_getElem? (i := 848) rfl) (by decide +kernel)
set_option maxRecDepth 100000 in
theorem km_RX8_75 : Cond.methodLink RX8 75 yX9_takeWord ∈ tblG := tg (List.mem_of_getElem? (i := 853) rfl) (by decide +kernel)
set_option maxRecDepth 100000 in
theorem ks_RX9_yX9_takeWord : Cond.selects RX9 yX9_takeWord yX9_takeWord ∈ tblG := tg (List.mem_of_getElem? (i := 855) rfl) (by decide +kernel)
set_option maxRecDepth 100000 in
theorem km_RX9_49 : Cond.methodLink RX9 49 yX9_peek ∈ tblG := tg (List.mem_of_getElem? (i := 857) rfl) (by decide +kernel)
set_option maxRecDepth 100000 in
theorem km_RX9_53 : Cond.methodLink RX9 53 yX9_lettersHere ∈ tblG := tg (List.mem_of_getElem? (i := 858) rfl) (by decide +kernel)
set_option maxRecDepth 100000 in
theorem km_RX9_41 : Cond.methodLink RX9 41 yX9_signAt ∈ tblG := tg (List.mem_of_getElem? (i := 862) rfl) (by decide +kernel)
set_option maxRecDepth 100000 in
theorem ks_RX9_yX9_signAt : Cond.selects RX9 yX9_signAt yX9_signAt ∈ tblG := tg (List.mem_of_getElem? (i := 864) rfl) (by decide +kernel)
set_option maxRecDepth 100000 in
theorem km_RX9_45 : Cond.methodLink RX9 45 yX9_isLetter ∈ tblG := tg (List.mem_of_getElem? (i := 866) rfl) (by decide +kernel)
set_option maxRecDepth 100000 in
theorem km_RX9_56 : Cond.methodLink RX9 56 yJ0_length_8abf5 ∈ tblG := tg (List.mem_of_getElem? (i := 869) rfl) (by decide +kernel)
set_option maxRecDepth 100000 in
theorem ks_RJ0_yJ0_length_8abf5 : Cond.selects RJ0 yJ0_length_8abf5 yJ0_length_8abf5 ∈ tblG := tg (List.mem_of_getElem? (i := 871) rfl) (by decide +kernel)
set_option maxRecDepth 100000 in
theorem km_RJ0_335 : Cond.methodLink RJ0 335 yJ0_coder_7d493 ∈ tblG := tg (List.mem_of_getElem? (i := 873) rfl) (by decide +kernel)
set_option maxRecDepth 100000 in
theorem ks_RJ0_yJ0_coder_7d493 : Cond.selects RJ0 yJ0_coder_7d493 yJ0_coder_7d493 ∈ tblG := tg (List.mem_of_getElem? (i := 875) rfl) (by decide +kernel)
set_option maxRecDepth 100000 in
theorem km_RX9_61 : Cond.methodLink RX9 61 yJ0_charAt_5068e ∈ tblG := tg (List.mem_of_getElem? (i := 879) rfl) (by decide +kernel)
set_option maxRecDepth 100000 in
theorem ks_RJ0_yJ0_charAt_5068e : Cond.selects RJ0 yJ0_charAt_5068e yJ0_charAt_5068e ∈ tblG := tg (List.mem_of_getElem? (i := 881) rfl) (by decide +kernel)
set_option maxRecDepth 100000 in
theorem km_RJ0_492 : Cond.methodLink RJ0 492 yJ0_isLatin1_aae02 ∈ tblG := tg (List.mem_of_getElem? (i := 883) rfl) (by decide +kernel)
set_option maxRecDepth 100000 in
theorem ks_RJ0_yJ0_isLatin1_aae02 : Cond.selects RJ0 yJ0_isLatin1_aae02 yJ0_isLatin1_aae02 ∈ tblG := tg (List.mem_of_getElem? (i := 885) rfl) (by decide +kernel)
set_option maxRecDepth 100000 in
theorem km_RJ0_495 : Cond.methodLink RJ0 495 yJ1_charAt_3b067 ∈ tblG := tg (List.mem_of_getElem? (i := 887) rfl) (by decide +kernel)
set_option maxRecDepth 100000 in
theorem km_RJ1_9 : Cond.methodLink RJ1 9 yJ0_checkIndex_df160 ∈ tblG := tg (List.mem_of_getElem? (i := 890) rfl) (by decide +kernel)
set_option maxRecDepth 100000 in
theorem km_RJ0_1059 : Cond.methodLink RJ0 1059 yJ3_checkIndex_8e157 ∈ tblG := tg (List.mem_of_getElem? (i := 895) rfl) (by decide +kernel)
set_option maxRecDepth 100000 in
theorem km_RJ0_498 : Cond.methodLink RJ0 498 yJ2_charAt_3b067 ∈ tblG := tg (List.mem_of_getElem? (i := 898) rfl) (by decide +kernel)
set_option maxRecDepth 100000 in
theorem km_RJ2_67 : Cond.methodLink RJ2 67 yJ2_checkIndex_2214a ∈ tblG := tg (List.mem_of_getElem? (i := 901) rfl) (by decide +kernel)
set_option maxRecDepth 100000 in
theorem km_RJ2_48 : Cond.methodLink RJ2 48 yJ2_length_9d52b ∈ tblG := tg (List.mem_of_getElem? (i := 904) rfl) (by decide +kernel)
set_option maxRecDepth 100000 in
theorem km_RJ2_414 : Cond.methodLink RJ2 414 yJ0_checkIndex_df160 ∈ tblG := tg (List.mem_of_getElem? (i := 907) rfl) (by decide +kernel)
set_option maxRecDepth 100000 in
theorem km_RJ2_71 : Cond.methodLink RJ2 71 yJ2_getChar_3b067 ∈ tblG := tg (List.mem_of_getElem? (i := 908) rfl) (by decide +kernel)
set_option maxRecDepth 100000 in
theorem km_RX8_79 : Cond.methodLink RX8 79 yX9_failIf ∈ tblG := tg (List.mem_of_getElem? (i := 917) rfl) (by decide +kernel)
set_option maxRecDepth 100000 in
theorem ks_RX9_yX9_failIf : Cond.selects RX9 yX9_failIf yX9_failIf ∈ tblG := tg (List.mem_of_getElem? (i := 919) rfl) (by decide +kernel)
set_option maxRecDepth 100000 in
theorem km_RX8_83 : Cond.methodLink RX8 83 yX8_readPlayer ∈ tblG := tg (List.mem_of_getElem? (i := 921) rfl) (by decide +kernel)
set_option maxRecDepth 100000 in
theorem km_RX8_99 : Cond.methodLink RX8 99 yX9_takeNumber ∈ tblG := tg (List.mem_of_getElem? (i := 925) rfl) (by decide +kernel)
set_option maxRecDepth 100000 in
theorem ks_RX9_yX9_takeNumber : Cond.selects RX9 yX9_takeNumber yX9_takeNumber ∈ tblG := tg (List.mem_of_getElem? (i := 927) rfl) (by decide +kernel)
set_option maxRecDepth 100000 in
theorem km_RX9_65 : Cond.methodLink RX9 65 yX9_isDigit ∈ tblG := tg (List.mem_of_getElem? (i := 929) rfl) (by decide +kernel)
set_option maxRecDepth 100000 in
theorem km_RX9_37 : Cond.methodLink RX9 37 yX9_failIf ∈ tblG := tg (List.mem_of_getElem? (i := 932) rfl) (by decide +kernel)
set_option maxRecDepth 100000 in
theorem km_RX9_68 : Cond.methodLink RX9 68 yX9_here ∈ tblG := tg (List.mem_of_getElem? (i := 933) rfl) (by decide +kernel)
set_option maxRecDepth 100000 in
theorem ks_RX9_yX9_here : Cond.selects RX9 yX9_here yX9_here ∈ tblG := tg (List.mem_of_getElem? (i := 935) rfl) (by decide +kernel)
set_option maxRecDepth 100000 in
theorem km_RX8_102 : Cond.methodLink RX8 102 yX8_setTrait ∈ tblG := tg (List.mem_of_getElem? (i := 938) rfl) (by decide +kernel)
set_option maxRecDepth 100000 in
theorem ks_RX8_yX8_setTrait : Cond.selects RX8 yX8_setTrait yX8_setTrait ∈ tblG := tg (List.mem_of_getElem? (i := 940) rfl) (by decide +kernel)
set_option maxRecDepth 100000 in
theorem km_RX8_133 : Cond.methodLink RX8 133 yJ9_min_7cf53 ∈ tblG := tg (List.mem_of_getElem? (i := 942) rfl) (by decide +kernel)
set_option maxRecDepth 100000 in
theorem km_RX8_89 : Cond.methodLink RX8 89 yX8_readMoment ∈ tblG := tg (List.mem_of_getElem? (i := 944) rfl) (by decide +kernel)
set_option maxRecDepth 100000 in
theorem km_RX8_94 : Cond.methodLink RX8 94 yX8_readCards ∈ tblG := tg (List.mem_of_getElem? (i := 949) rfl) (by decide +kernel)
set_option maxRecDepth 100000 in
theorem km_RX8_108 : Cond.methodLink RX8 108 yX0_rowOf ∈ tblG := tg (List.mem_of_getElem? (i := 953) rfl) (by decide +kernel)
set_option maxRecDepth 100000 in
theorem km_RX8_138 : Cond.methodLink RX8 138 yX0_allCards ∈ tblG := tg (List.mem_of_getElem? (i := 954) rfl) (by decide +kernel)
set_option maxRecDepth 100000 in
theorem ks_RX0_yX0_allCards : Cond.selects RX0 yX0_allCards yX0_allCards ∈ tblG := tg (List.mem_of_getElem? (i := 956) rfl) (by decide +kernel)
set_option maxRecDepth 100000 in
theorem km_RX8_141 : Cond.methodLink RX8 141 yX9_isLetter ∈ tblG := tg (List.mem_of_getElem? (i := 958) rfl) (by decide +kernel)
set_option maxRecDepth 100000 in
theorem km_RX8_65 : Cond.methodLink RX8 65 yX9_fail ∈ tblG := tg (List.mem_of_getElem? (i := 959) rfl) (by decide +kernel)
set_option maxRecDepth 100000 in
theorem ks_RX9_yX9_fail : Cond.selects RX9 yX9_fail yX9_fail ∈ tblG := tg (List.mem_of_getElem? (i := 961) rfl) (by decide +kernel)
set_option maxRecDepth 100000 in
theorem km_RX8_145 : Cond.methodLink RX8 145 yX9_here ∈ tblG := tg (List.mem_of_getElem? (i := 963) rfl) (by decide +kernel)
set_option maxRecDepth 100000 in
theorem km_RX8_148 : Cond.methodLink RX8 148 yX6_put ∈ tblG := tg (List.mem_of_getElem? (i := 964) rfl) (by decide +kernel)
set_option maxRecDepth 100000 in
theorem km_RX8_117 : Cond.methodLink RX8 117 yX6_openFirst ∈ tblG := tg (List.mem_of_getElem? (i := 967) rfl) (by decide +kernel)
set_option maxRecDepth 100000 in
theorem ks_RX6_yX6_openFirst : Cond.selects RX6 yX6_openFirst yX6_openFirst ∈ tblG := tg (List.mem_of_getElem? (i := 969) rfl) (by decide +kernel)
set_option maxRecDepth 100000 in
theorem km_RX8_120 : Cond.methodLink RX8 120 yX8_readLaw ∈ tblG := tg (List.mem_of_getElem? (i := 971) rfl) (by decide +kernel)
set_option maxRecDepth 100000 in
theorem km_RX8_123 : Cond.methodLink RX8 123 yX9_needSign ∈ tblG := tg (List.mem_of_getElem? (i := 978) rfl) (by decide +kernel)
set_option maxRecDepth 100000 in
theorem ks_RX9_yX9_needSign : Cond.selects RX9 yX9_needSign yX9_needSign ∈ tblG := tg (List.mem_of_getElem? (i := 980) rfl) (by decide +kernel)
set_option maxRecDepth 100000 in
theorem km_RX11_112 : Cond.methodLink RX11 112 yX8_become ∈ tblG := tg (List.mem_of_getElem? (i := 982) rfl) (by decide +kernel)
set_option maxRecDepth 100000 in
theorem ks_RX8_yX8_become : Cond.selects RX8 yX8_become yX8_become ∈ tblG := tg (List.mem_of_getElem? (i := 984) rfl) (by decide +kernel)
set_option maxRecDepth 100000 in
theorem km_RX8_36 : Cond.methodLink RX8 36 yX0_become ∈ tblG := tg (List.mem_of_getElem? (i := 986) rfl) (by decide +kernel)
set_option maxRecDepth 100000 in
theorem km_RX11_115 : Cond.methodLink RX11 115 yX3_begin ∈ tblG := tg (List.mem_of_getElem? (i := 987) rfl) (by decide +kernel)
set_option maxRecDepth 100000 in
theorem ks_RX3_yX3_begin : Cond.selects RX3 yX3_begin yX3_begin ∈ tblG := tg (List.mem_of_getElem? (i := 989) rfl) (by decide +kernel)
set_option maxRecDepth 100000 in
theorem km_RX3_55 : Cond.methodLink RX3 55 yJ7_fill_53178 ∈ tblG := tg (List.mem_of_getElem? (i := 991) rfl) (by decide +kernel)
set_option maxRecDepth 100000 in
theorem km_RX11_130 : Cond.methodLink RX11 130 yX9_close ∈ tblG := tg (List.mem_of_getElem? (i := 992) rfl) (by decide +kernel)
set_option maxRecDepth 100000 in
theorem ks_RX9_yX9_close : Cond.selects RX9 yX9_close yX9_close ∈ tblG := tg (List.mem_of_getElem? (i := 994) rfl) (by decide +kernel)
set_option maxRecDepth 100000 in
theorem km_RL_118 : Cond.methodLink RL 118 yL_plan ∈ tblG := tg (List.mem_of_getElem? (i := 996) rfl) (by decide +kernel)
set_option maxRecDepth 100000 in
theorem kl_RL_19 : Cond.classLink RL 19 "java/util/NoSuchElementException" ∈ tblG := tg (List.mem_of_getElem? (i := 999) rfl) (by decide +kernel)
set_option maxRecDepth 100000 in
theorem km_RL_15 : Cond.methodLink RL 15 yX11_plan ∈ tblG := tg (List.mem_of_getElem? (i := 1000) rfl) (by decide +kernel)
set_option maxRecDepth 100000 in
theorem ks_RX11_yX11_plan : Cond.selects RX11 yX11_plan yX11_plan ∈ tblG := tg (List.mem_of_getElem? (i := 1002) rfl) (by decide +kernel)
set_option maxRecDepth 100000 in
theorem km_RX11_134 : Cond.methodLink RX11 134 yX11_needPlayer ∈ tblG := tg (List.mem_of_getElem? (i := 1004) rfl) (by decide +kernel)
set_option maxRecDepth 100000 in
theorem kl_RX11_342 : Cond.classLink RX11 342 "java/util/NoSuchElementException" ∈ tblG := tg (List.mem_of_getElem? (i := 1008) rfl) (by decide +kernel)
set_option maxRecDepth 100000 in
theorem kt_java_util_NoSuchElementException : Cond.instantiable "java/util/NoSuchElementException" 6 ∈ tblG := tg (List.mem_of_getElem? (i := 1009) rfl) (by decide +kernel)
set_option maxRecDepth 100000 in
theorem km_RX11_346 : Cond.methodLink RX11 346 ⟨"java/util/NoSuchElementException", "<init>", "(Ljava/lang/String;)V"⟩ ∈ tblG := tg (List.mem_of_getElem? (i := 1018) rfl) (by decide +kernel)
set_option maxRecDepth 100000 in
theorem km_RX11_137 : Cond.methodLink RX11 137 yJ9_min_7cf53 ∈ tblG := tg (List.mem_of_getElem? (i := 1024) rfl) (by decide +kernel)
set_option maxRecDepth 100000 in
theorem km_RX11_143 : Cond.methodLink RX11 143 yX11_takePlan ∈ tblG := tg (List.mem_of_getElem? (i := 1025) rfl) (by decide +kernel)
set_option maxRecDepth 100000 in
theorem km_RX11_354 : Cond.methodLink RX11 354 yX7_read ∈ tblG := tg (List.mem_of_getElem? (i := 1029) rfl) (by decide +kernel)
set_option maxRecDepth 100000 in
theorem ks_RX7_yX7_read : Cond.selects RX7 yX7_read yX7_read ∈ tblG := tg (List.mem_of_getElem? (i := 1031) rfl) (by decide +kernel)
set_option maxRecDepth 100000 in
theorem km_RX7_31 : Cond.methodLink RX7 31 yX7_readOr ∈ tblG := tg (List.mem_of_getElem? (i := 1033) rfl) (by decide +kernel)
set_option maxRecDepth 100000 in
theorem km_RX7_45 : Cond.methodLink RX7 45 yX7_readAnd ∈ tblG := tg (List.mem_of_getElem? (i := 1037) rfl) (by decide +kernel)
set_option maxRecDepth 100000 in
theorem km_RX7_58 : Cond.methodLink RX7 58 yX7_readOne ∈ tblG := tg (List.mem_of_getElem? (i := 1041) rfl) (by decide +kernel)
set_option maxRecDepth 100000 in
theorem km_RX7_35 : Cond.methodLink RX7 35 yX9_peek ∈ tblG := tg (List.mem_of_getElem? (i := 1045) rfl) (by decide +kernel)
set_option maxRecDepth 100000 in
theorem km_RX7_66 : Cond.methodLink RX7 66 yX9_takeSign ∈ tblG := tg (List.mem_of_getElem? (i := 1046) rfl) (by decide +kernel)
set_option maxRecDepth 100000 in
theorem ks_RX9_yX9_takeSign : Cond.selects RX9 yX9_takeSign yX9_takeSign ∈ tblG := tg (List.mem_of_getElem? (i := 1048) rfl) (by decide +kernel)
set_option maxRecDepth 100000 in
theorem km_RX7_70 : Cond.methodLink RX7 70 yX9_failIf ∈ tblG := tg (List.mem_of_getElem? (i := 1050) rfl) (by decide +kernel)
set_option maxRecDepth 100000 in
theorem km_RX7_74 : Cond.methodLink RX7 74 yX9_needSign ∈ tblG := tg (List.mem_of_getElem? (i := 1051) rfl) (by decide +kernel)
set_option maxRecDepth 100000 in
theorem km_RX7_50 : Cond.methodLink RX7 50 yX9_takeWord ∈ tblG := tg (List.mem_of_getElem? (i := 1053) rfl) (by decide +kernel)
set_option maxRecDepth 100000 in
theorem km_RX7_54 : Cond.methodLink RX7 54 yX7_emit ∈ tblG := tg (List.mem_of_getElem? (i := 1054) rfl) (by decide +kernel)
set_option maxRecDepth 100000 in
theorem km_RX7_80 : Cond.methodLink RX7 80 yX7_readFact ∈ tblG := tg (List.mem_of_getElem? (i := 1058) rfl) (by decide +kernel)
set_option maxRecDepth 100000 in
theorem km_RX7_92 : Cond.methodLink RX7 92 yX9_takeKind ∈ tblG := tg (List.mem_of_getElem? (i := 1066) rfl) (by decide +kernel)
set_option maxRecDepth 100000 in
theorem ks_RX9_yX9_takeKind : Cond.selects RX9 yX9_takeKind yX9_takeKind ∈ tblG := tg (List.mem_of_getElem? (i := 1068) rfl) (by decide +kernel)
set_option maxRecDepth 100000 in
theorem km_RX7_99 : Cond.methodLink RX7 99 yX7_readSize ∈ tblG := tg (List.mem_of_getElem? (i := 1072) rfl) (by decide +kernel)
set_option maxRecDepth 100000 in
theorem km_RX7_109 : Cond.methodLink RX7 109 yX9_takeNumber ∈ tblG := tg (List.mem_of_getElem? (i := 1076) rfl) (by decide +kernel)
set_option maxRecDepth 100000 in
theorem km_RX7_41 : Cond.methodLink RX7 41 yX9_fail ∈ tblG := tg (List.mem_of_getElem? (i := 1080) rfl) (by decide +kernel)
set_option maxRecDepth 100000 in
theorem km_RX11_355 : Cond.methodLink RX11 355 yX7_init_ ∈ tblG := tg (List.mem_of_getElem? (i := 1083) rfl) (by decide +kernel)
set_option maxRecDepth 100000 in
theorem km_RX7_19 : Cond.methodLink RX7 19 yJ9_max_7cf53 ∈ tblG := tg (List.mem_of_getElem? (i := 1086) rfl) (by decide +kernel)
set_option maxRecDepth 100000 in
theorem km_RX7_25 : Cond.methodLink RX7 25 yJ7_copyOf_59c91 ∈ tblG := tg (List.mem_of_getElem? (i := 1089) rfl) (by decide +kernel)
set_option maxRecDepth 100000 in
theorem km_RJ7_316 : Cond.methodLink RJ7 316 ⟨"[I", "clone", "()Ljava/lang/Object;"⟩ ∈ tblG := tg (List.mem_of_getElem? (i := 1092) rfl) (by decide +kernel)
set_option maxRecDepth 100000 in
theorem kl_RJ7_317 : Cond.classLink RJ7 317 "[I" ∈ tblG := tg (List.mem_of_getElem? (i := 1098) rfl) (by decide +kernel)
set_option maxRecDepth 100000 in
theorem km_RJ7_304 : Cond.methodLink RJ7 304 yJ9_min_7cf53 ∈ tblG := tg (List.mem_of_getElem? (i := 1099) rfl) (by decide +kernel)
set_option maxRecDepth 100000 in
theorem km_RJ7_150 : Cond.methodLink RJ7 150 ⟨"java/lang/System", "arraycopy", "(Ljava/lang/Object;ILjava/lang/Object;II)V"⟩ ∈ tblG := tg (List.mem_of_getElem? (i := 1100) rfl) (by decide +kernel)
set_option maxRecDepth 100000 in
theorem km_RX11_358 : Cond.methodLink RX11 358 yX3_setPlan ∈ tblG := tg (List.mem_of_getElem? (i := 1103) rfl) (by decide +kernel)
set_option maxRecDepth 100000 in
theorem ks_RX3_yX3_setPlan : Cond.selects RX3 yX3_setPlan yX3_setPlan ∈ tblG := tg (List.mem_of_getElem? (i := 1105) rfl) (by decide +kernel)
set_option maxRecDepth 100000 in
theorem km_RL_122 : Cond.methodLink RL 122 yL_guess ∈ tblG := tg (List.mem_of_getElem? (i := 1107) rfl) (by decide +kernel)
set_option maxRecDepth 100000 in
theorem km_RL_21 : Cond.methodLink RL 21 yX11_guess ∈ tblG := tg (List.mem_of_getElem? (i := 1110) rfl) (by decide +kernel)
set_option maxRecDepth 100000 in
theorem ks_RX11_yX11_guess : Cond.selects RX11 yX11_guess yX11_guess ∈ tblG := tg (List.mem_of_getElem? (i := 1112) rfl) (by decide +kernel)
set_option maxRecDepth 100000 in
theorem km_RL_125 : Cond.methodLink RL 125 yL_book ∈ tblG := tg (List.mem_of_getElem? (i := 1114) rfl) (by decide +kernel)
set_option maxRecDepth 100000 in
theorem km_RL_24 : Cond.methodLink RL 24 yX11_book ∈ tblG := tg (List.mem_of_getElem? (i := 1117) rfl) (by decide +kernel)
set_option maxRecDepth 100000 in
theorem ks_RX11_yX11_book : Cond.selects RX11 yX11_book yX11_book ∈ tblG := tg (List.mem_of_getElem? (i := 1119) rfl) (by decide +kernel)
set_option maxRecDepth 100000 in
theorem km_RX11_146 : Cond.methodLink RX11 146 yX1_read ∈ tblG := tg (List.mem_of_getElem? (i := 1121) rfl) (by decide +kernel)
set_option maxRecDepth 100000 in
theorem ks_RX1_yX1_read : Cond.selects RX1 yX1_read yX1_read ∈ tblG := tg (List.mem_of_getElem? (i := 1123) rfl) (by decide +kernel)
set_option maxRecDepth 100000 in
theorem km_RX1_38 : Cond.methodLink RX1 38 yX9_peek ∈ tblG := tg (List.mem_of_getElem? (i := 1125) rfl) (by decide +kernel)
set_option maxRecDepth 100000 in
theorem km_RX1_45 : Cond.methodLink RX1 45 yX9_takeNumber ∈ tblG := tg (List.mem_of_getElem? (i := 1126) rfl) (by decide +kernel)
set_option maxRecDepth 100000 in
theorem km_RX1_49 : Cond.methodLink RX1 49 yX9_failIf ∈ tblG := tg (List.mem_of_getElem? (i := 1127) rfl) (by decide +kernel)
set_option maxRecDepth 100000 in
theorem km_RX1_53 : Cond.methodLink RX1 53 yX9_needSign ∈ tblG := tg (List.mem_of_getElem? (i := 1128) rfl) (by decide +kernel)
set_option maxRecDepth 100000 in
theorem km_RX1_29 : Cond.methodLink RX1 29 yX1_add ∈ tblG := tg (List.mem_of_getElem? (i := 1129) rfl) (by decide +kernel)
set_option maxRecDepth 100000 in
theorem km_RX11_149 : Cond.methodLink RX11 149 yX1_become ∈ tblG := tg (List.mem_of_getElem? (i := 1133) rfl) (by decide +kernel)
set_option maxRecDepth 100000 in
theorem ks_RX1_yX1_become : Cond.selects RX1 yX1_become yX1_become ∈ tblG := tg (List.mem_of_getElem? (i := 1135) rfl) (by decide +kernel)
set_option maxRecDepth 100000 in
theorem km_RX1_22 : Cond.methodLink RX1 22 yX1_turnAt ∈ tblG := tg (List.mem_of_getElem? (i := 1137) rfl) (by decide +kernel)
set_option maxRecDepth 100000 in
theorem km_RX1_26 : Cond.methodLink RX1 26 yX1_playerAt ∈ tblG := tg (List.mem_of_getElem? (i := 1138) rfl) (by decide +kernel)
set_option maxRecDepth 100000 in
theorem km_RL_133 : Cond.methodLink RL 133 yL_told ∈ tblG := tg (List.mem_of_getElem? (i := 1139) rfl) (by decide +kernel)
set_option maxRecDepth 100000 in
theorem km_RL_27 : Cond.methodLink RL 27 yX11_told ∈ tblG := tg (List.mem_of_getElem? (i := 1142) rfl) (by decide +kernel)
set_option maxRecDepth 100000 in
theorem ks_RX11_yX11_told : Cond.selects RX11 yX11_told yX11_told ∈ tblG := tg (List.mem_of_getElem? (i := 1144) rfl) (by decide +kernel)
set_option maxRecDepth 100000 in
theorem km_RX11_159 : Cond.methodLink RX11 159 yX0_allCards ∈ tblG := tg (List.mem_of_getElem? (i := 1146) rfl) (by decide +kernel)
set_option maxRecDepth 100000 in
theorem km_RX11_168 : Cond.methodLink RX11 168 yX0_whose ∈ tblG := tg (List.mem_of_getElem? (i := 1147) rfl) (by decide +kernel)
set_option maxRecDepth 100000 in
theorem km_RX11_178 : Cond.methodLink RX11 178 yX3_lawOf ∈ tblG := tg (List.mem_of_getElem? (i := 1148) rfl) (by decide +kernel)
set_option maxRecDepth 100000 in
theorem ks_RX3_yX3_lawOf : Cond.selects RX3 yX3_lawOf yX3_lawOf ∈ tblG := tg (List.mem_of_getElem? (i := 1150) rfl) (by decide +kernel)
set_option maxRecDepth 100000 in
theorem km_RL_136 : Cond.methodLink RL 136 yL_player ∈ tblG := tg (List.mem_of_getElem? (i := 1152) rfl) (by decide +kernel)
set_option maxRecDepth 100000 in
theorem km_RL_30 : Cond.methodLink RL 30 yX11_player ∈ tblG := tg (List.mem_of_getElem? (i := 1155) rfl) (by decide +kernel)
set_option maxRecDepth 100000 in
theorem ks_RX11_yX11_player : Cond.selects RX11 yX11_player yX11_player ∈ tblG := tg (List.mem_of_getElem? (i := 1157) rfl) (by decide +kernel)
set_option maxRecDepth 100000 in
theorem km_RX11_184 : Cond.methodLink RX11 184 yX8_trait ∈ tblG := tg (List.mem_of_getElem? (i := 1159) rfl) (by decide +kernel)
set_option maxRecDepth 100000 in
theorem ks_RX8_yX8_trait : Cond.selects RX8 yX8_trait yX8_trait ∈ tblG := tg (List.mem_of_getElem? (i := 1161) rfl) (by decide +kernel)
set_option maxRecDepth 100000 in
theorem km_RX11_187 : Cond.methodLink RX11 187 yX0_rowOf ∈ tblG := tg (List.mem_of_getElem? (i := 1163) rfl) (by decide +kernel)
set_option maxRecDepth 100000 in
theorem km_RX11_191 : Cond.methodLink RX11 191 yX0_heapOf ∈ tblG := tg (List.mem_of_getElem? (i := 1164) rfl) (by decide +kernel)
set_option maxRecDepth 100000 in
theorem km_RX11_194 : Cond.methodLink RX11 194 yX0_isOut ∈ tblG := tg (List.mem_of_getElem? (i := 1165) rfl) (by decide +kernel)
set_option maxRecDepth 100000 in
theorem km_RL_139 : Cond.methodLink RL 139 yL_row ∈ tblG := tg (List.mem_of_getElem? (i := 1166) rfl) (by decide +kernel)
set_option maxRecDepth 100000 in
theorem km_RL_33 : Cond.methodLink RL 33 yX11_row ∈ tblG := tg (List.mem_of_getElem? (i := 1169) rfl) (by decide +kernel)
set_option maxRecDepth 100000 in
theorem ks_RX11_yX11_row : Cond.selects RX11 yX11_row yX11_row ∈ tblG := tg (List.mem_of_getElem? (i := 1171) rfl) (by decide +kernel)
set_option maxRecDepth 100000 in
theorem km_RL_142 : Cond.methodLink RL 142 yL_heap ∈ tblG := tg (List.mem_of_getElem? (i := 1173) rfl) (by decide +kernel)
set_option maxRecDepth 100000 in
theorem km_RL_36 : Cond.methodLink RL 36 yX11_heap ∈ tblG := tg (List.mem_of_getElem? (i := 1176) rfl) (by decide +kernel)
set_option maxRecDepth 100000 in
theorem ks_RX11_yX11_heap : Cond.selects RX11 yX11_heap yX11_heap ∈ tblG := tg (List.mem_of_getElem? (i := 1178) rfl) (by decide +kernel)
set_option maxRecDepth 100000 in
theorem km_RL_149 : Cond.methodLink RL 149 yL_lain ∈ tblG := tg (List.mem_of_getElem? (i := 1180) rfl) (by decide +kernel)
set_option maxRecDepth 100000 in
theorem km_RL_39 : Cond.methodLink RL 39 yX11_lain ∈ tblG := tg (List.mem_of_getElem? (i := 1183) rfl) (by decide +kernel)
set_option maxRecDepth 100000 in
theorem ks_RX11_yX11_lain : Cond.selects RX11 yX11_lain yX11_lain ∈ tblG := tg (List.mem_of_getElem? (i := 1185) rfl) (by decide +kernel)
set_option maxRecDepth 100000 in
theorem km_RX11_200 : Cond.methodLink RX11 200 yX6_cardAt ∈ tblG := tg (List.mem_of_getElem? (i := 1187) rfl) (by decide +kernel)
set_option maxRecDepth 100000 in
theorem ks_RX6_yX6_cardAt : Cond.selects RX6 yX6_cardAt yX6_cardAt ∈ tblG := tg (List.mem_of_getElem? (i := 1189) rfl) (by decide +kernel)
set_option maxRecDepth 100000 in
theorem km_RL_156 : Cond.methodLink RL 156 yL_would ∈ tblG := tg (List.mem_of_getElem? (i := 1191) rfl) (by decide +kernel)
set_option maxRecDepth 100000 in
theorem km_RL_42 : Cond.methodLink RL 42 yX11_would ∈ tblG := tg (List.mem_of_getElem? (i := 1194) rfl) (by decide +kernel)
set_option maxRecDepth 100000 in
theorem ks_RX11_yX11_would : Cond.selects RX11 yX11_would yX11_would ∈ tblG := tg (List.mem_of_getElem? (i := 1196) rfl) (by decide +kernel)
set_option maxRecDepth 100000 in
theorem km_RX11_206 : Cond.methodLink RX11 206 yX3_look ∈ tblG := tg (List.mem_of_getElem? (i := 1198) rfl) (by decide +kernel)
set_option maxRecDepth 100000 in
theorem ks_RX3_yX3_look : Cond.selects RX3 yX3_look yX3_look ∈ tblG := tg (List.mem_of_getElem? (i := 1200) rfl) (by decide +kernel)
set_option maxRecDepth 100000 in
theorem km_RX3_78 : Cond.methodLink RX3 78 yX0_likeTops ∈ tblG := tg (List.mem_of_getElem? (i := 1202) rfl) (by decide +kernel)
set_option maxRecDepth 100000 in
theorem km_RX3_82 : Cond.methodLink RX3 82 yX0_twins ∈ tblG := tg (List.mem_of_getElem? (i := 1203) rfl) (by decide +kernel)
set_option maxRecDepth 100000 in
theorem ks_RX0_yX0_twins : Cond.selects RX0 yX0_twins yX0_twins ∈ tblG := tg (List.mem_of_getElem? (i := 1205) rfl) (by decide +kernel)
set_option maxRecDepth 100000 in
theorem km_RX3_87 : Cond.methodLink RX3 87 yX0_rowOf ∈ tblG := tg (List.mem_of_getElem? (i := 1207) rfl) (by decide +kernel)
set_option maxRecDepth 100000 in
theorem km_RX3_91 : Cond.methodLink RX3 91 yX6_cardAt ∈ tblG := tg (List.mem_of_getElem? (i := 1208) rfl) (by decide +kernel)
set_option maxRecDepth 100000 in
theorem km_RX3_96 : Cond.methodLink RX3 96 yX0_likeTopsIf ∈ tblG := tg (List.mem_of_getElem? (i := 1209) rfl) (by decide +kernel)
set_option maxRecDepth 100000 in
theorem km_RX11_209 : Cond.methodLink RX11 209 yX3_wants ∈ tblG := tg (List.mem_of_getElem? (i := 1210) rfl) (by decide +kernel)
set_option maxRecDepth 100000 in
theorem ks_RX3_yX3_wants : Cond.selects RX3 yX3_wants yX3_wants ∈ tblG := tg (List.mem_of_getElem? (i := 1212) rfl) (by decide +kernel)
set_option maxRecDepth 100000 in
theorem km_RX3_103 : Cond.methodLink RX3 103 yX7_holds ∈ tblG := tg (List.mem_of_getElem? (i := 1214) rfl) (by decide +kernel)
set_option maxRecDepth 100000 in
theorem ks_RX7_yX7_holds : Cond.selects RX7 yX7_holds yX7_holds ∈ tblG := tg (List.mem_of_getElem? (i := 1216) rfl) (by decide +kernel)
set_option maxRecDepth 100000 in
theorem km_RX7_114 : Cond.methodLink RX7 114 yX3_fact ∈ tblG := tg (List.mem_of_getElem? (i := 1219) rfl) (by decide +kernel)
set_option maxRecDepth 100000 in
theorem ks_RX3_yX3_fact : Cond.selects RX3 yX3_fact yX3_fact ∈ tblG := tg (List.mem_of_getElem? (i := 1221) rfl) (by decide +kernel)
set_option maxRecDepth 100000 in
theorem km_RX3_107 : Cond.methodLink RX3 107 yX0_heapOf ∈ tblG := tg (List.mem_of_getElem? (i := 1223) rfl) (by decide +kernel)
set_option maxRecDepth 100000 in
theorem km_RX3_110 : Cond.methodLink RX3 110 yX6_topKind ∈ tblG := tg (List.mem_of_getElem? (i := 1224) rfl) (by decide +kernel)
set_option maxRecDepth 100000 in
theorem km_RX3_113 : Cond.methodLink RX3 113 yX8_trait ∈ tblG := tg (List.mem_of_getElem? (i := 1225) rfl) (by decide +kernel)
set_option maxRecDepth 100000 in
theorem km_RL_159 : Cond.methodLink RL 159 yL_law ∈ tblG := tg (List.mem_of_getElem? (i := 1226) rfl) (by decide +kernel)
set_option maxRecDepth 100000 in
theorem km_RL_46 : Cond.methodLink RL 46 yX11_law ∈ tblG := tg (List.mem_of_getElem? (i := 1229) rfl) (by decide +kernel)
set_option maxRecDepth 100000 in
theorem ks_RX11_yX11_law : Cond.selects RX11 yX11_law yX11_law ∈ tblG := tg (List.mem_of_getElem? (i := 1231) rfl) (by decide +kernel)
set_option maxRecDepth 100000 in
theorem km_RX11_213 : Cond.methodLink RX11 213 yX3_setLaw ∈ tblG := tg (List.mem_of_getElem? (i := 1233) rfl) (by decide +kernel)
set_option maxRecDepth 100000 in
theorem ks_RX3_yX3_setLaw : Cond.selects RX3 yX3_setLaw yX3_setLaw ∈ tblG := tg (List.mem_of_getElem? (i := 1235) rfl) (by decide +kernel)
set_option maxRecDepth 100000 in
theorem km_RL_171 : Cond.methodLink RL 171 yL_play ∈ tblG := tg (List.mem_of_getElem? (i := 1237) rfl) (by decide +kernel)
set_option maxRecDepth 100000 in
theorem km_RL_49 : Cond.methodLink RL 49 yX11_play ∈ tblG := tg (List.mem_of_getElem? (i := 1240) rfl) (by decide +kernel)
set_option maxRecDepth 100000 in
theorem ks_RX11_yX11_play : Cond.selects RX11 yX11_play yX11_play ∈ tblG := tg (List.mem_of_getElem? (i := 1242) rfl) (by decide +kernel)
set_option maxRecDepth 100000 in
theorem km_RX11_224 : Cond.methodLink RX11 224 yX4_playTurns ∈ tblG := tg (List.mem_of_getElem? (i := 1244) rfl) (by decide +kernel)
set_option maxRecDepth 100000 in
theorem ks_RX4_yX4_playTurns : Cond.selects RX4 yX4_playTurns yX4_playTurns ∈ tblG := tg (List.mem_of_getElem? (i := 1246) rfl) (by decide +kernel)
set_option maxRecDepth 100000 in
theorem km_RX4_38 : Cond.methodLink RX4 38 yX4_mark ∈ tblG := tg (List.mem_of_getElem? (i := 1248) rfl) (by decide +kernel)
set_option maxRecDepth 100000 in
theorem km_RX4_78 : Cond.methodLink RX4 78 yX0_pack ∈ tblG := tg (List.mem_of_getElem? (i := 1252) rfl) (by decide +kernel)
set_option maxRecDepth 100000 in
theorem ks_RX0_yX0_pack : Cond.selects RX0 yX0_pack yX0_pack ∈ tblG := tg (List.mem_of_getElem? (i := 1254) rfl) (by decide +kernel)
set_option maxRecDepth 100000 in
theorem km_RX4_87 : Cond.methodLink RX4 87 yX3_tallyOf ∈ tblG := tg (List.mem_of_getElem? (i := 1256) rfl) (by decide +kernel)
set_option maxRecDepth 100000 in
theorem ks_RX3_yX3_tallyOf : Cond.selects RX3 yX3_tallyOf yX3_tallyOf ∈ tblG := tg (List.mem_of_getElem? (i := 1258) rfl) (by decide +kernel)
set_option maxRecDepth 100000 in
theorem km_RX4_42 : Cond.methodLink RX4 42 yX3_playTurn ∈ tblG := tg (List.mem_of_getElem? (i := 1260) rfl) (by decide +kernel)
set_option maxRecDepth 100000 in
theorem ks_RX3_yX3_playTurn : Cond.selects RX3 yX3_playTurn yX3_playTurn ∈ tblG := tg (List.mem_of_getElem? (i := 1262) rfl) (by decide +kernel)
set_option maxRecDepth 100000 in
theorem km_RX3_123 : Cond.methodLink RX3 123 yX0_whose ∈ tblG := tg (List.mem_of_getElem? (i := 1264) rfl) (by decide +kernel)
set_option maxRecDepth 100000 in
theorem km_RX3_126 : Cond.methodLink RX3 126 yX0_turnOver ∈ tblG := tg (List.mem_of_getElem? (i := 1265) rfl) (by decide +kernel)
set_option maxRecDepth 100000 in
theorem km_RX3_130 : Cond.methodLink RX3 130 yX3_look ∈ tblG := tg (List.mem_of_getElem? (i := 1266) rfl) (by decide +kernel)
set_option maxRecDepth 100000 in
theorem km_RX3_133 : Cond.methodLink RX3 133 yX3_callAhead ∈ tblG := tg (List.mem_of_getElem? (i := 1267) rfl) (by decide +kernel)
set_option maxRecDepth 100000 in
theorem km_RX3_151 : Cond.methodLink RX3 151 yX0_isOut ∈ tblG := tg (List.mem_of_getElem? (i := 1271) rfl) (by decide +kernel)
set_option maxRecDepth 100000 in
theorem km_RX3_155 : Cond.methodLink RX3 155 yX3_wants ∈ tblG := tg (List.mem_of_getElem? (i := 1272) rfl) (by decide +kernel)
set_option maxRecDepth 100000 in
theorem km_RX3_159 : Cond.methodLink RX3 159 yX3_setDelay ∈ tblG := tg (List.mem_of_getElem? (i := 1273) rfl) (by decide +kernel)
set_option maxRecDepth 100000 in
theorem km_RX3_136 : Cond.methodLink RX3 136 yX0_lay ∈ tblG := tg (List.mem_of_getElem? (i := 1277) rfl) (by decide +kernel)
set_option maxRecDepth 100000 in
theorem km_RX3_139 : Cond.methodLink RX3 139 yX0_following ∈ tblG := tg (List.mem_of_getElem? (i := 1278) rfl) (by decide +kernel)
set_option maxRecDepth 100000 in
theorem ks_RX0_yX0_following : Cond.selects RX0 yX0_following yX0_following ∈ tblG := tg (List.mem_of_getElem? (i := 1280) rfl) (by decide +kernel)
set_option maxRecDepth 100000 in
theorem km_RX3_142 : Cond.methodLink RX3 142 yX3_callBehind ∈ tblG := tg (List.mem_of_getElem? (i := 1282) rfl) (by decide +kernel)
set_option maxRecDepth 100000 in
theorem km_RX3_163 : Cond.methodLink RX3 163 yX3_delayOf ∈ tblG := tg (List.mem_of_getElem? (i := 1286) rfl) (by decide +kernel)
set_option maxRecDepth 100000 in
theorem km_RX3_166 : Cond.methodLink RX3 166 yX3_drawnDelay ∈ tblG := tg (List.mem_of_getElem? (i := 1290) rfl) (by decide +kernel)
set_option maxRecDepth 100000 in
theorem km_RX3_169 : Cond.methodLink RX3 169 yX3_addTally ∈ tblG := tg (List.mem_of_getElem? (i := 1295) rfl) (by decide +kernel)
set_option maxRecDepth 100000 in
theorem km_RX3_145 : Cond.methodLink RX3 145 yX3_judge ∈ tblG := tg (List.mem_of_getElem? (i := 1299) rfl) (by decide +kernel)
set_option maxRecDepth 100000 in
theorem km_RX3_173 : Cond.methodLink RX3 173 yX3_lawOf ∈ tblG := tg (List.mem_of_getElem? (i := 1303) rfl) (by decide +kernel)
set_option maxRecDepth 100000 in
theorem km_RX3_176 : Cond.methodLink RX3 176 yX3_fallTogether ∈ tblG := tg (List.mem_of_getElem? (i := 1304) rfl) (by decide +kernel)
set_option maxRecDepth 100000 in
theorem km_RX3_192 : Cond.methodLink RX3 192 yX0_poolHeaps ∈ tblG := tg (List.mem_of_getElem? (i := 1308) rfl) (by decide +kernel)
set_option maxRecDepth 100000 in
theorem ks_RX0_yX0_poolHeaps : Cond.selects RX0 yX0_poolHeaps yX0_poolHeaps ∈ tblG := tg (List.mem_of_getElem? (i := 1310) rfl) (by decide +kernel)
set_option maxRecDepth 100000 in
theorem km_RX3_179 : Cond.methodLink RX3 179 yX0_win ∈ tblG := tg (List.mem_of_getElem? (i := 1312) rfl) (by decide +kernel)
set_option maxRecDepth 100000 in
theorem ks_RX0_yX0_win : Cond.selects RX0 yX0_win yX0_win ∈ tblG := tg (List.mem_of_getElem? (i := 1314) rfl) (by decide +kernel)
set_option maxRecDepth 100000 in
theorem km_RX3_183 : Cond.methodLink RX3 183 yX3_kindOfWin ∈ tblG := tg (List.mem_of_getElem? (i := 1316) rfl) (by decide +kernel)
set_option maxRecDepth 100000 in
theorem km_RX3_186 : Cond.methodLink RX3 186 yX3_payForFalse ∈ tblG := tg (List.mem_of_getElem? (i := 1320) rfl) (by decide +kernel)
set_option maxRecDepth 100000 in
theorem km_RX3_195 : Cond.methodLink RX3 195 yX6_takeAll ∈ tblG := tg (List.mem_of_getElem? (i := 1324) rfl) (by decide +kernel)
set_option maxRecDepth 100000 in
theorem km_RX3_199 : Cond.methodLink RX3 199 yX6_takeFirst ∈ tblG := tg (List.mem_of_getElem? (i := 1325) rfl) (by decide +kernel)
set_option maxRecDepth 100000 in
theorem km_RX3_202 : Cond.methodLink RX3 202 yX6_takeLast ∈ tblG := tg (List.mem_of_getElem? (i := 1326) rfl) (by decide +kernel)
set_option maxRecDepth 100000 in
theorem ks_RX6_yX6_takeLast : Cond.selects RX6 yX6_takeLast yX6_takeLast ∈ tblG := tg (List.mem_of_getElem? (i := 1328) rfl) (by decide +kernel)
set_option maxRecDepth 100000 in
theorem km_RX3_205 : Cond.methodLink RX3 205 yX6_put ∈ tblG := tg (List.mem_of_getElem? (i := 1330) rfl) (by decide +kernel)
set_option maxRecDepth 100000 in
theorem km_RX3_189 : Cond.methodLink RX3 189 yX3_setLast ∈ tblG := tg (List.mem_of_getElem? (i := 1331) rfl) (by decide +kernel)
set_option maxRecDepth 100000 in
theorem km_RX4_49 : Cond.methodLink RX4 49 yX3_lastOf ∈ tblG := tg (List.mem_of_getElem? (i := 1335) rfl) (by decide +kernel)
set_option maxRecDepth 100000 in
theorem ks_RX3_yX3_lastOf : Cond.selects RX3 yX3_lastOf yX3_lastOf ∈ tblG := tg (List.mem_of_getElem? (i := 1337) rfl) (by decide +kernel)
set_option maxRecDepth 100000 in
theorem km_RX4_53 : Cond.methodLink RX4 53 yX4_record ∈ tblG := tg (List.mem_of_getElem? (i := 1339) rfl) (by decide +kernel)
set_option maxRecDepth 100000 in
theorem km_RL_174 : Cond.methodLink RL 174 yL_undo ∈ tblG := tg (List.mem_of_getElem? (i := 1344) rfl) (by decide +kernel)
set_option maxRecDepth 100000 in
theorem km_RL_52 : Cond.methodLink RL 52 yX11_undo ∈ tblG := tg (List.mem_of_getElem? (i := 1347) rfl) (by decide +kernel)
set_option maxRecDepth 100000 in
theorem ks_RX11_yX11_undo : Cond.selects RX11 yX11_undo yX11_undo ∈ tblG := tg (List.mem_of_getElem? (i := 1349) rfl) (by decide +kernel)
set_option maxRecDepth 100000 in
theorem km_RX11_228 : Cond.methodLink RX11 228 yX4_undoTurns ∈ tblG := tg (List.mem_of_getElem? (i := 1351) rfl) (by decide +kernel)
set_option maxRecDepth 100000 in
theorem ks_RX4_yX4_undoTurns : Cond.selects RX4 yX4_undoTurns yX4_undoTurns ∈ tblG := tg (List.mem_of_getElem? (i := 1353) rfl) (by decide +kernel)
set_option maxRecDepth 100000 in
theorem km_RX4_57 : Cond.methodLink RX4 57 yJ9_min_7cf53 ∈ tblG := tg (List.mem_of_getElem? (i := 1355) rfl) (by decide +kernel)
set_option maxRecDepth 100000 in
theorem km_RX4_63 : Cond.methodLink RX4 63 yX4_turnOfMark ∈ tblG := tg (List.mem_of_getElem? (i := 1356) rfl) (by decide +kernel)
set_option maxRecDepth 100000 in
theorem km_RX4_66 : Cond.methodLink RX4 66 yX4_goTo ∈ tblG := tg (List.mem_of_getElem? (i := 1360) rfl) (by decide +kernel)
set_option maxRecDepth 100000 in
theorem km_RX4_90 : Cond.methodLink RX4 90 yX0_unpack ∈ tblG := tg (List.mem_of_getElem? (i := 1364) rfl) (by decide +kernel)
set_option maxRecDepth 100000 in
theorem ks_RX0_yX0_unpack : Cond.selects RX0 yX0_unpack yX0_unpack ∈ tblG := tg (List.mem_of_getElem? (i := 1366) rfl) (by decide +kernel)
set_option maxRecDepth 100000 in
theorem km_RX0_110 : Cond.methodLink RX0 110 yJ9_max_7cf53 ∈ tblG := tg (List.mem_of_getElem? (i := 1368) rfl) (by decide +kernel)
set_option maxRecDepth 100000 in
theorem km_RL_177 : Cond.methodLink RL 177 yL_latest ∈ tblG := tg (List.mem_of_getElem? (i := 1369) rfl) (by decide +kernel)
set_option maxRecDepth 100000 in
theorem km_RL_55 : Cond.methodLink RL 55 yX11_latest ∈ tblG := tg (List.mem_of_getElem? (i := 1372) rfl) (by decide +kernel)
set_option maxRecDepth 100000 in
theorem ks_RX11_yX11_latest : Cond.selects RX11 yX11_latest yX11_latest ∈ tblG := tg (List.mem_of_getElem? (i := 1374) rfl) (by decide +kernel)
set_option maxRecDepth 100000 in
theorem km_RX11_231 : Cond.methodLink RX11 231 yX3_lastOf ∈ tblG := tg (List.mem_of_getElem? (i := 1376) rfl) (by decide +kernel)
set_option maxRecDepth 100000 in
theorem km_RL_180 : Cond.methodLink RL 180 yL_calls ∈ tblG := tg (List.mem_of_getElem? (i := 1377) rfl) (by decide +kernel)
set_option maxRecDepth 100000 in
theorem km_RL_58 : Cond.methodLink RL 58 yX11_calls ∈ tblG := tg (List.mem_of_getElem? (i := 1380) rfl) (by decide +kernel)
set_option maxRecDepth 100000 in
theorem ks_RX11_yX11_calls : Cond.selects RX11 yX11_calls yX11_calls ∈ tblG := tg (List.mem_of_getElem? (i := 1382) rfl) (by decide +kernel)
set_option maxRecDepth 100000 in
theorem km_RX11_234 : Cond.methodLink RX11 234 yX3_tallyOf ∈ tblG := tg (List.mem_of_getElem? (i := 1384) rfl) (by decide +kernel)
set_option maxRecDepth 100000 in
theorem km_RL_183 : Cond.methodLink RL 183 yL_won ∈ tblG := tg (List.mem_of_getElem? (i := 1385) rfl) (by decide +kernel)
set_option maxRecDepth 100000 in
theorem km_RL_61 : Cond.methodLink RL 61 yX11_won ∈ tblG := tg (List.mem_of_getElem? (i := 1388) rfl) (by decide +kernel)
set_option maxRecDepth 100000 in
theorem ks_RX11_yX11_won : Cond.selects RX11 yX11_won yX11_won ∈ tblG := tg (List.mem_of_getElem? (i := 1390) rfl) (by decide +kernel)
set_option maxRecDepth 100000 in
theorem km_RL_186 : Cond.methodLink RL 186 yL_ends ∈ tblG := tg (List.mem_of_getElem? (i := 1392) rfl) (by decide +kernel)
set_option maxRecDepth 100000 in
theorem km_RL_64 : Cond.methodLink RL 64 yX11_ends ∈ tblG := tg (List.mem_of_getElem? (i := 1395) rfl) (by decide +kernel)
set_option maxRecDepth 100000 in
theorem ks_RX11_yX11_ends : Cond.selects RX11 yX11_ends yX11_ends ∈ tblG := tg (List.mem_of_getElem? (i := 1397) rfl) (by decide +kernel)
set_option maxRecDepth 100000 in
theorem km_RX11_237 : Cond.methodLink RX11 237 yX2_begin ∈ tblG := tg (List.mem_of_getElem? (i := 1399) rfl) (by decide +kernel)
set_option maxRecDepth 100000 in
theorem ks_RX2_yX2_begin : Cond.selects RX2 yX2_begin yX2_begin ∈ tblG := tg (List.mem_of_getElem? (i := 1401) rfl) (by decide +kernel)
set_option maxRecDepth 100000 in
theorem km_RX2_31 : Cond.methodLink RX2 31 yX3_become ∈ tblG := tg (List.mem_of_getElem? (i := 1403) rfl) (by decide +kernel)
set_option maxRecDepth 100000 in
theorem km_RX11_240 : Cond.methodLink RX11 240 yX2_run ∈ tblG := tg (List.mem_of_getElem? (i := 1404) rfl) (by decide +kernel)
set_option maxRecDepth 100000 in
theorem ks_RX2_yX2_run : Cond.selects RX2 yX2_run yX2_run ∈ tblG := tg (List.mem_of_getElem? (i := 1406) rfl) (by decide +kernel)
set_option maxRecDepth 100000 in
theorem km_RX2_35 : Cond.methodLink RX2 35 yX3_cycle ∈ tblG := tg (List.mem_of_getElem? (i := 1408) rfl) (by decide +kernel)
set_option maxRecDepth 100000 in
theorem ks_RX3_yX3_cycle : Cond.selects RX3 yX3_cycle yX3_cycle ∈ tblG := tg (List.mem_of_getElem? (i := 1410) rfl) (by decide +kernel)
set_option maxRecDepth 100000 in
theorem km_RX3_74 : Cond.methodLink RX3 74 yX7_cycle ∈ tblG := tg (List.mem_of_getElem? (i := 1412) rfl) (by decide +kernel)
set_option maxRecDepth 100000 in
theorem ks_RX7_yX7_cycle : Cond.selects RX7 yX7_cycle yX7_cycle ∈ tblG := tg (List.mem_of_getElem? (i := 1414) rfl) (by decide +kernel)
set_option maxRecDepth 100000 in
theorem km_RX7_120 : Cond.methodLinkNest RX7 120 yX11_commonDivisor RX11 ∈ tblN := tn (List.mem_of_getElem? (i := 1416) rfl) (by decide +kernel)
set_option maxRecDepth 100000 in
theorem km_RX7_126 : Cond.methodLink RX7 126 yJ9_min_f86c9 ∈ tblG := tg (List.mem_of_getElem? (i := 1420) rfl) (by decide +kernel)
set_option maxRecDepth 100000 in
theorem km_RX2_39 : Cond.methodLink RX2 39 yJ9_max_7cf53 ∈ tblG := tg (List.mem_of_getElem? (i := 1423) rfl) (by decide +kernel)
set_option maxRecDepth 100000 in
theorem km_RX2_45 : Cond.methodLink RX2 45 yJ7_fill_53178 ∈ tblG := tg (List.mem_of_getElem? (i := 1424) rfl) (by decide +kernel)
set_option maxRecDepth 100000 in
theorem km_RX2_65 : Cond.methodLink RX2 65 yX0_whose ∈ tblG := tg (List.mem_of_getElem? (i := 1425) rfl) (by decide +kernel)
set_option maxRecDepth 100000 in
theorem km_RX2_70 : Cond.methodLink RX2 70 yX2_note ∈ tblG := tg (List.mem_of_getElem? (i := 1426) rfl) (by decide +kernel)
set_option maxRecDepth 100000 in
theorem km_RX2_83 : Cond.methodLink RX2 83 yX0_pack ∈ tblG := tg (List.mem_of_getElem? (i := 1430) rfl) (by decide +kernel)
set_option maxRecDepth 100000 in
theorem km_RX2_97 : Cond.methodLink RX2 97 yX2_slotOf ∈ tblG := tg (List.mem_of_getElem? (i := 1431) rfl) (by decide +kernel)
set_option maxRecDepth 100000 in
theorem km_RX2_101 : Cond.methodLink RX2 101 yX2_isSame ∈ tblG := tg (List.mem_of_getElem? (i := 1436) rfl) (by decide +kernel)
set_option maxRecDepth 100000 in
theorem km_RX2_73 : Cond.methodLink RX2 73 yX3_playTurn ∈ tblG := tg (List.mem_of_getElem? (i := 1440) rfl) (by decide +kernel)
set_option maxRecDepth 100000 in
theorem km_RX2_77 : Cond.methodLink RX2 77 yX0_leftOne ∈ tblG := tg (List.mem_of_getElem? (i := 1441) rfl) (by decide +kernel)
set_option maxRecDepth 100000 in
theorem ks_RX0_yX0_leftOne : Cond.selects RX0 yX0_leftOne yX0_leftOne ∈ tblG := tg (List.mem_of_getElem? (i := 1443) rfl) (by decide +kernel)
set_option maxRecDepth 100000 in
theorem km_RL_193 : Cond.methodLink RL 193 yL_chance ∈ tblG := tg (List.mem_of_getElem? (i := 1445) rfl) (by decide +kernel)
set_option maxRecDepth 100000 in
theorem km_RL_67 : Cond.methodLink RL 67 yX11_chance ∈ tblG := tg (List.mem_of_getElem? (i := 1448) rfl) (by decide +kernel)
set_option maxRecDepth 100000 in
theorem ks_RX11_yX11_chance : Cond.selects RX11 yX11_chance yX11_chance ∈ tblG := tg (List.mem_of_getElem? (i := 1450) rfl) (by decide +kernel)
set_option maxRecDepth 100000 in
theorem km_RX11_259 : Cond.methodLink RX11 259 yX0_sourceOf ∈ tblG := tg (List.mem_of_getElem? (i := 1452) rfl) (by decide +kernel)
set_option maxRecDepth 100000 in
theorem ks_RX0_yX0_sourceOf : Cond.selects RX0 yX0_sourceOf yX0_sourceOf ∈ tblG := tg (List.mem_of_getElem? (i := 1454) rfl) (by decide +kernel)
set_option maxRecDepth 100000 in
theorem km_RX11_262 : Cond.methodLink RX11 262 yX0_firstHasLain ∈ tblG := tg (List.mem_of_getElem? (i := 1456) rfl) (by decide +kernel)
set_option maxRecDepth 100000 in
theorem ks_RX0_yX0_firstHasLain : Cond.selects RX0 yX0_firstHasLain yX0_firstHasLain ∈ tblG := tg (List.mem_of_getElem? (i := 1458) rfl) (by decide +kernel)
set_option maxRecDepth 100000 in
theorem km_RX0_78 : Cond.methodLink RX0 78 yX6_cardAt ∈ tblG := tg (List.mem_of_getElem? (i := 1460) rfl) (by decide +kernel)
set_option maxRecDepth 100000 in
theorem km_RX11_265 : Cond.methodLink RX11 265 yX0_isOtherTop ∈ tblG := tg (List.mem_of_getElem? (i := 1461) rfl) (by decide +kernel)
set_option maxRecDepth 100000 in
theorem ks_RX0_yX0_isOtherTop : Cond.selects RX0 yX0_isOtherTop yX0_isOtherTop ∈ tblG := tg (List.mem_of_getElem? (i := 1463) rfl) (by decide +kernel)
set_option maxRecDepth 100000 in
theorem km_RX11_268 : Cond.methodLink RX11 268 yX11_leastTerm ∈ tblG := tg (List.mem_of_getElem? (i := 1465) rfl) (by decide +kernel)
set_option maxRecDepth 100000 in
theorem km_RX11_362 : Cond.methodLink RX11 362 yX11_commonDivisor ∈ tblG := tg (List.mem_of_getElem? (i := 1468) rfl) (by decide +kernel)
set_option maxRecDepth 100000 in
theorem km_RL_197 : Cond.methodLink RL 197 yL_waits ∈ tblG := tg (List.mem_of_getElem? (i := 1469) rfl) (by decide +kernel)
set_option maxRecDepth 100000 in
theorem km_RL_71 : Cond.methodLink RL 71 yX11_waits ∈ tblG := tg (List.mem_of_getElem? (i := 1472) rfl) (by decide +kernel)
set_option maxRecDepth 100000 in
theorem ks_RX11_yX11_waits : Cond.selects RX11 yX11_waits yX11_waits ∈ tblG := tg (List.mem_of_getElem? (i := 1474) rfl) (by decide +kernel)
set_option maxRecDepth 100000 in
theorem km_RX11_272 : Cond.methodLink RX11 272 yX11_needWager ∈ tblG := tg (List.mem_of_getElem? (i := 1476) rfl) (by decide +kernel)
set_option maxRecDepth 100000 in
theorem km_RL_201 : Cond.methodLink RL 201 yL_ahead ∈ tblG := tg (List.mem_of_getElem? (i := 1480) rfl) (by decide +kernel)
set_option maxRecDepth 100000 in
theorem km_RL_75 : Cond.methodLink RL 75 yX11_ahead ∈ tblG := tg (List.mem_of_getElem? (i := 1483) rfl) (by decide +kernel)
set_option maxRecDepth 100000 in
theorem ks_RX11_yX11_ahead : Cond.selects RX11 yX11_ahead yX11_ahead ∈ tblG := tg (List.mem_of_getElem? (i := 1485) rfl) (by decide +kernel)
set_option maxRecDepth 100000 in
theorem km_RL_204 : Cond.methodLink RL 204 yL_moments ∈ tblG := tg (List.mem_of_getElem? (i := 1487) rfl) (by decide +kernel)
set_option maxRecDepth 100000 in
theorem km_RL_78 : Cond.methodLink RL 78 yX11_moments ∈ tblG := tg (List.mem_of_getElem? (i := 1490) rfl) (by decide +kernel)
set_option maxRecDepth 100000 in
theorem ks_RX11_yX11_moments : Cond.selects RX11 yX11_moments yX11_moments ∈ tblG := tg (List.mem_of_getElem? (i := 1492) rfl) (by decide +kernel)
set_option maxRecDepth 100000 in
theorem km_RX11_276 : Cond.methodLink RX11 276 yX8_payoff ∈ tblG := tg (List.mem_of_getElem? (i := 1494) rfl) (by decide +kernel)
set_option maxRecDepth 100000 in
theorem ks_RX8_yX8_payoff : Cond.selects RX8 yX8_payoff yX8_payoff ∈ tblG := tg (List.mem_of_getElem? (i := 1496) rfl) (by decide +kernel)
set_option maxRecDepth 100000 in
theorem km_RL_207 : Cond.methodLink RL 207 yL_rests ∈ tblG := tg (List.mem_of_getElem? (i := 1498) rfl) (by decide +kernel)
set_option maxRecDepth 100000 in
theorem km_RL_81 : Cond.methodLink RL 81 yX11_rests ∈ tblG := tg (List.mem_of_getElem? (i := 1501) rfl) (by decide +kernel)
set_option maxRecDepth 100000 in
theorem ks_RX11_yX11_rests : Cond.selects RX11 yX11_rests yX11_rests ∈ tblG := tg (List.mem_of_getElem? (i := 1503) rfl) (by decide +kernel)
set_option maxRecDepth 100000 in
theorem km_RX11_280 : Cond.methodLink RX11 280 yX8_isBest ∈ tblG := tg (List.mem_of_getElem? (i := 1505) rfl) (by decide +kernel)
set_option maxRecDepth 100000 in
theorem ks_RX8_yX8_isBest : Cond.selects RX8 yX8_isBest yX8_isBest ∈ tblG := tg (List.mem_of_getElem? (i := 1507) rfl) (by decide +kernel)
set_option maxRecDepth 100000 in
theorem km_RX8_151 : Cond.methodLink RX8 151 yX8_payoff ∈ tblG := tg (List.mem_of_getElem? (i := 1509) rfl) (by decide +kernel)
set_option maxRecDepth 100000 in
theorem km_RL_210 : Cond.methodLink RL 210 yL_remember ∈ tblG := tg (List.mem_of_getElem? (i := 1510) rfl) (by decide +kernel)
set_option maxRecDepth 100000 in
theorem km_RL_84 : Cond.methodLink RL 84 yX11_remember ∈ tblG := tg (List.mem_of_getElem? (i := 1513) rfl) (by decide +kernel)
set_option maxRecDepth 100000 in
theorem ks_RX11_yX11_remember : Cond.selects RX11 yX11_remember yX11_remember ∈ tblG := tg (List.mem_of_getElem? (i := 1515) rfl) (by decide +kernel)
set_option maxRecDepth 100000 in
theorem km_RX11_284 : Cond.methodLink RX11 284 yX10_remembering ∈ tblG := tg (List.mem_of_getElem? (i := 1517) rfl) (by decide +kernel)
set_option maxRecDepth 100000 in
theorem ks_RX10_yX10_remembering : Cond.selects RX10 yX10_remembering yX10_remembering ∈ tblG := tg (List.mem_of_getElem? (i := 1519) rfl) (by decide +kernel)
set_option maxRecDepth 100000 in
theorem km_RX10_54 : Cond.methodLink RX10 54 yX10_choose ∈ tblG := tg (List.mem_of_getElem? (i := 1521) rfl) (by decide +kernel)
set_option maxRecDepth 100000 in
theorem km_RX10_58 : Cond.methodLink RX10 58 yX0_cardsOf ∈ tblG := tg (List.mem_of_getElem? (i := 1525) rfl) (by decide +kernel)
set_option maxRecDepth 100000 in
theorem ks_RX0_yX0_cardsOf : Cond.selects RX0 yX0_cardsOf yX0_cardsOf ∈ tblG := tg (List.mem_of_getElem? (i := 1527) rfl) (by decide +kernel)
set_option maxRecDepth 100000 in
theorem km_RX10_62 : Cond.methodLink RX10 62 yX10_keepBetter ∈ tblG := tg (List.mem_of_getElem? (i := 1529) rfl) (by decide +kernel)
set_option maxRecDepth 100000 in
theorem km_RX10_66 : Cond.methodLink RX10 66 yX0_following ∈ tblG := tg (List.mem_of_getElem? (i := 1533) rfl) (by decide +kernel)
set_option maxRecDepth 100000 in
theorem km_RX10_69 : Cond.methodLink RX10 69 yX0_win ∈ tblG := tg (List.mem_of_getElem? (i := 1534) rfl) (by decide +kernel)
set_option maxRecDepth 100000 in
theorem km_RX10_73 : Cond.methodLink RX10 73 yX0_isOut ∈ tblG := tg (List.mem_of_getElem? (i := 1535) rfl) (by decide +kernel)
set_option maxRecDepth 100000 in
theorem km_RL_213 : Cond.methodLink RL 213 yL_odds ∈ tblG := tg (List.mem_of_getElem? (i := 1536) rfl) (by decide +kernel)
set_option maxRecDepth 100000 in
theorem km_RL_87 : Cond.methodLink RL 87 yX11_odds ∈ tblG := tg (List.mem_of_getElem? (i := 1539) rfl) (by decide +kernel)
set_option maxRecDepth 100000 in
theorem ks_RX11_yX11_odds : Cond.selects RX11 yX11_odds yX11_odds ∈ tblG := tg (List.mem_of_getElem? (i := 1541) rfl) (by decide +kernel)
set_option maxRecDepth 100000 in
theorem km_RX11_294 : Cond.methodLink RX11 294 yX10_weighing ∈ tblG := tg (List.mem_of_getElem? (i := 1543) rfl) (by decide +kernel)
set_option maxRecDepth 100000 in
theorem ks_RX10_yX10_weighing : Cond.selects RX10 yX10_weighing yX10_weighing ∈ tblG := tg (List.mem_of_getElem? (i := 1545) rfl) (by decide +kernel)
set_option maxRecDepth 100000 in
theorem km_RX10_87 : Cond.methodLink RX10 87 yX8_allQuickness ∈ tblG := tg (List.mem_of_getElem? (i := 1547) rfl) (by decide +kernel)
set_option maxRecDepth 100000 in
theorem ks_RX8_yX8_allQuickness : Cond.selects RX8 yX8_allQuickness yX8_allQuickness ∈ tblG := tg (List.mem_of_getElem? (i := 1549) rfl) (by decide +kernel)
set_option maxRecDepth 100000 in
theorem km_RX8_32 : Cond.methodLink RX8 32 yX8_trait ∈ tblG := tg (List.mem_of_getElem? (i := 1551) rfl) (by decide +kernel)
set_option maxRecDepth 100000 in
theorem km_RX10_92 : Cond.methodLink RX10 92 yX10_weigh ∈ tblG := tg (List.mem_of_getElem? (i := 1552) rfl) (by decide +kernel)
set_option maxRecDepth 100000 in
theorem km_RX10_96 : Cond.methodLink RX10 96 yX10_leads ∈ tblG := tg (List.mem_of_getElem? (i := 1556) rfl) (by decide +kernel)
set_option maxRecDepth 100000 in
theorem km_RX10_100 : Cond.methodLink RX10 100 yX10_allWays ∈ tblG := tg (List.mem_of_getElem? (i := 1560) rfl) (by decide +kernel)
set_option maxRecDepth 100000 in
theorem km_RX10_107 : Cond.methodLink RX10 107 yX8_trait ∈ tblG := tg (List.mem_of_getElem? (i := 1564) rfl) (by decide +kernel)
set_option maxRecDepth 100000 in
theorem km_RL_220 : Cond.methodLink RL 220 yL_lot ∈ tblG := tg (List.mem_of_getElem? (i := 1565) rfl) (by decide +kernel)
set_option maxRecDepth 100000 in
theorem km_RL_91 : Cond.methodLink RL 91 yX11_lot ∈ tblG := tg (List.mem_of_getElem? (i := 1568) rfl) (by decide +kernel)
set_option maxRecDepth 100000 in
theorem ks_RX11_yX11_lot : Cond.selects RX11 yX11_lot yX11_lot ∈ tblG := tg (List.mem_of_getElem? (i := 1570) rfl) (by decide +kernel)
set_option maxRecDepth 100000 in
theorem km_RX11_310 : Cond.methodLink RX11 310 yJ9_max_7cf53 ∈ tblG := tg (List.mem_of_getElem? (i := 1572) rfl) (by decide +kernel)
set_option maxRecDepth 100000 in
theorem km_RL_223 : Cond.methodLink RL 223 yL_film ∈ tblG := tg (List.mem_of_getElem? (i := 1573) rfl) (by decide +kernel)
set_option maxRecDepth 100000 in
theorem km_RL_94 : Cond.methodLink RL 94 yX11_film ∈ tblG := tg (List.mem_of_getElem? (i := 1576) rfl) (by decide +kernel)
set_option maxRecDepth 100000 in
theorem ks_RX11_yX11_film : Cond.selects RX11 yX11_film yX11_film ∈ tblG := tg (List.mem_of_getElem? (i := 1578) rfl) (by decide +kernel)
set_option maxRecDepth 100000 in
theorem km_RL_230 : Cond.methodLink RL 230 yL_laws ∈ tblG := tg (List.mem_of_getElem? (i := 1580) rfl) (by decide +kernel)
set_option maxRecDepth 100000 in
theorem km_RL_98 : Cond.methodLink RL 98 yX11_laws ∈ tblG := tg (List.mem_of_getElem? (i := 1583) rfl) (by decide +kernel)
set_option maxRecDepth 100000 in
theorem ks_RX11_yX11_laws : Cond.selects RX11 yX11_laws yX11_laws ∈ tblG := tg (List.mem_of_getElem? (i := 1585) rfl) (by decide +kernel)
set_option maxRecDepth 100000 in
theorem km_RL_237 : Cond.methodLink RL 237 yL_entry ∈ tblG := tg (List.mem_of_getElem? (i := 1587) rfl) (by decide +kernel)
set_option maxRecDepth 100000 in
theorem km_RL_101 : Cond.methodLink RL 101 yX11_entry ∈ tblG := tg (List.mem_of_getElem? (i := 1590) rfl) (by decide +kernel)
set_option maxRecDepth 100000 in
theorem ks_RX11_yX11_entry : Cond.selects RX11 yX11_entry yX11_entry ∈ tblG := tg (List.mem_of_getElem? (i := 1592) rfl) (by decide +kernel)
set_option maxRecDepth 100000 in
theorem km_RL_227 : Cond.methodLink RL 227 yX12_thrown ∈ tblG := tg (List.mem_of_getElem? (i := 1594) rfl) (by decide +kernel)
set_option maxRecDepth 100000 in
theorem ks_RX12_yX12_thrown : Cond.selects RX12 yX12_thrown yX12_thrown ∈ tblG := tg (List.mem_of_getElem? (i := 1596) rfl) (by decide +kernel)
set_option maxRecDepth 100000 in
theorem kl_RL_105 : Cond.classLink RL 105 RX12 ∈ tblG := tg (List.mem_of_getElem? (i := 1598) rfl) (by decide +kernel)
set_option maxRecDepth 100000 in
theorem kt_RX12 : Cond.instantiable RX12 59 ∈ tblG := tg (List.mem_of_getElem? (i := 1599) rfl) (by decide +kernel)
set_option maxRecDepth 100000 in
theorem km_RL_107 : Cond.methodLink RL 107 yX12_init ∈ tblG := tg (List.mem_of_getElem? (i := 1600) rfl) (by decide +kernel)
set_option maxRecDepth 100000 in
theorem km_RX12_11 : Cond.methodLink RX12 11 objectInit ∈ tblG := tg (List.mem_of_getElem? (i := 1603) rfl) (by decide +kernel)
set_option maxRecDepth 100000 in
theorem km_RX12_128 : Cond.methodLink RX12 128 yX12_clears ∈ tblG := tg (List.mem_of_getElem? (i := 1606) rfl) (by decide +kernel)
set_option maxRecDepth 100000 in
theorem km_RX12_131 : Cond.methodLink RX12 131 yX12_sets ∈ tblG := tg (List.mem_of_getElem? (i := 1610) rfl) (by decide +kernel)
set_option maxRecDepth 100000 in
theorem km_RX12_204 : Cond.methodLink RX12 204 yX12_forgets ∈ tblG := tg (List.mem_of_getElem? (i := 1614) rfl) (by decide +kernel)
set_option maxRecDepth 100000 in
theorem km_RX12_207 : Cond.methodLink RX12 207 yX12_stays ∈ tblG := tg (List.mem_of_getElem? (i := 1618) rfl) (by decide +kernel)
set_option maxRecDepth 100000 in
theorem km_RL_111 : Cond.methodLink RL 111 yX12_feed ∈ tblG := tg (List.mem_of_getElem? (i := 1801) rfl) (by decide +kernel)
set_option maxRecDepth 100000 in
theorem ks_RX12_yX12_feed : Cond.selects RX12 yX12_feed yX12_feed ∈ tblG := tg (List.mem_of_getElem? (i := 1803) rfl) (by decide +kernel)
set_option maxRecDepth 100000 in
theorem km_RL_132 : Cond.methodLink RL 132 yX12_fault ∈ tblG := tg (List.mem_of_getElem? (i := 1805) rfl) (by decide +kernel)
set_option maxRecDepth 100000 in
theorem ks_RX12_yX12_fault : Cond.selects RX12 yX12_fault yX12_fault ∈ tblG := tg (List.mem_of_getElem? (i := 1807) rfl) (by decide +kernel)
set_option maxRecDepth 100000 in
theorem km_RL_117 : Cond.methodLink RL 117 yX12_table ∈ tblG := tg (List.mem_of_getElem? (i := 1809) rfl) (by decide +kernel)
set_option maxRecDepth 100000 in
theorem ks_RX12_yX12_table : Cond.selects RX12 yX12_table yX12_table ∈ tblG := tg (List.mem_of_getElem? (i := 1811) rfl) (by decide +kernel)
set_option maxRecDepth 100000 in
theorem km_RX12_240 : Cond.methodLink RX12 240 yX12_may ∈ tblG := tg (List.mem_of_getElem? (i := 1813) rfl) (by decide +kernel)
set_option maxRecDepth 100000 in
theorem km_RX12_244 : Cond.methodLink RX12 244 yX12_begins ∈ tblG := tg (List.mem_of_getElem? (i := 1817) rfl) (by decide +kernel)
set_option maxRecDepth 100000 in
theorem km_RX12_166 : Cond.methodLink RX12 166 yX12_fine ∈ tblG := tg (List.mem_of_getElem? (i := 1821) rfl) (by decide +kernel)
set_option maxRecDepth 100000 in
theorem km_RX12_247 : Cond.methodLink RX12 247 yX12_isMore ∈ tblG := tg (List.mem_of_getElem? (i := 1825) rfl) (by decide +kernel)
set_option maxRecDepth 100000 in
theorem km_RX12_149 : Cond.methodLink RX12 149 yX12_here ∈ tblG := tg (List.mem_of_getElem? (i := 1829) rfl) (by decide +kernel)
set_option maxRecDepth 100000 in
theorem km_RX12_250 : Cond.methodLink RX12 250 yX12_word ∈ tblG := tg (List.mem_of_getElem? (i := 1833) rfl) (by decide +kernel)
set_option maxRecDepth 100000 in
theorem km_RX12_153 : Cond.methodLink RX12 153 yX12_isSmall ∈ tblG := tg (List.mem_of_getElem? (i := 1837) rfl) (by decide +kernel)
set_option maxRecDepth 100000 in
theorem km_RX12_253 : Cond.methodLink RX12 253 yX12_isClause ∈ tblG := tg (List.mem_of_getElem? (i := 1840) rfl) (by decide +kernel)
set_option maxRecDepth 100000 in
theorem km_RX12_215 : Cond.methodLink RX12 215 yX12_of ∈ tblG := tg (List.mem_of_getElem? (i := 1844) rfl) (by decide +kernel)
set_option maxRecDepth 100000 in
theorem km_RX12_157 : Cond.methodLink RX12 157 yJ0_length_8abf5 ∈ tblG := tg (List.mem_of_getElem? (i := 1847) rfl) (by decide +kernel)
set_option maxRecDepth 100000 in
theorem km_RX12_162 : Cond.methodLink RX12 162 yJ0_charAt_5068e ∈ tblG := tg (List.mem_of_getElem? (i := 1848) rfl) (by decide +kernel)
set_option maxRecDepth 100000 in
theorem km_RX12_173 : Cond.methodLink RX12 173 yX12_wrong ∈ tblG := tg (List.mem_of_getElem? (i := 1856) rfl) (by decide +kernel)
set_option maxRecDepth 100000 in
theorem km_RX12_256 : Cond.methodLink RX12 256 yX12_pass ∈ tblG := tg (List.mem_of_getElem? (i := 1860) rfl) (by decide +kernel)
set_option maxRecDepth 100000 in
theorem km_RX12_259 : Cond.methodLink RX12 259 yX12_readClause ∈ tblG := tg (List.mem_of_getElem? (i := 1864) rfl) (by decide +kernel)
set_option maxRecDepth 100000 in
theorem km_RX12_219 : Cond.methodLink RX12 219 yX12_readNumber ∈ tblG := tg (List.mem_of_getElem? (i := 1868) rfl) (by decide +kernel)
set_option maxRecDepth 100000 in
theorem km_RX12_170 : Cond.methodLink RX12 170 yX12_isDigit ∈ tblG := tg (List.mem_of_getElem? (i := 1872) rfl) (by decide +kernel)
set_option maxRecDepth 100000 in
theorem km_RX12_225 : Cond.methodLink RX12 225 yX12_readCards ∈ tblG := tg (List.mem_of_getElem? (i := 1875) rfl) (by decide +kernel)
set_option maxRecDepth 100000 in
theorem km_RX12_210 : Cond.methodLink RX12 210 yX12_isKind ∈ tblG := tg (List.mem_of_getElem? (i := 1879) rfl) (by decide +kernel)
set_option maxRecDepth 100000 in
theorem km_RX12_262 : Cond.methodLink RX12 262 yX12_sign ∈ tblG := tg (List.mem_of_getElem? (i := 1882) rfl) (by decide +kernel)
set_option maxRecDepth 100000 in
theorem km_RX12_265 : Cond.methodLink RX12 265 yX12_result ∈ tblG := tg (List.mem_of_getElem? (i := 1886) rfl) (by decide +kernel)
set_option maxRecDepth 100000 in
theorem km_RL_121 : Cond.methodLink RL 121 yX12_plan ∈ tblG := tg (List.mem_of_getElem? (i := 1890) rfl) (by decide +kernel)
set_option maxRecDepth 100000 in
theorem ks_RX12_yX12_plan : Cond.selects RX12 yX12_plan yX12_plan ∈ tblG := tg (List.mem_of_getElem? (i := 1892) rfl) (by decide +kernel)
set_option maxRecDepth 100000 in
theorem km_RX12_318 : Cond.methodLink RX12 318 yX12_readPlan ∈ tblG := tg (List.mem_of_getElem? (i := 1894) rfl) (by decide +kernel)
set_option maxRecDepth 100000 in
theorem km_RX12_314 : Cond.methodLink RX12 314 yX12_within ∈ tblG := tg (List.mem_of_getElem? (i := 1898) rfl) (by decide +kernel)
set_option maxRecDepth 100000 in
theorem km_RX12_289 : Cond.methodLink RX12 289 yX12_readAny ∈ tblG := tg (List.mem_of_getElem? (i := 1901) rfl) (by decide +kernel)
set_option maxRecDepth 100000 in
theorem km_RX12_272 : Cond.methodLink RX12 272 yX12_readAll ∈ tblG := tg (List.mem_of_getElem? (i := 1905) rfl) (by decide +kernel)
set_option maxRecDepth 100000 in
theorem km_RX12_281 : Cond.methodLink RX12 281 yX12_readOne ∈ tblG := tg (List.mem_of_getElem? (i := 1909) rfl) (by decide +kernel)
set_option maxRecDepth 100000 in
theorem km_RX12_286 : Cond.methodLink RX12 286 yX12_opensOne ∈ tblG := tg (List.mem_of_getElem? (i := 1913) rfl) (by decide +kernel)
set_option maxRecDepth 100000 in
theorem km_RX12_277 : Cond.methodLink RX12 277 yX12_emit ∈ tblG := tg (List.mem_of_getElem? (i := 1918) rfl) (by decide +kernel)
set_option maxRecDepth 100000 in
theorem km_RX12_308 : Cond.methodLink RX12 308 yX12_readKind ∈ tblG := tg (List.mem_of_getElem? (i := 1929) rfl) (by decide +kernel)
set_option maxRecDepth 100000 in
theorem km_RX12_311 : Cond.methodLink RX12 311 yX12_readHeld ∈ tblG := tg (List.mem_of_getElem? (i := 1933) rfl) (by decide +kernel)
set_option maxRecDepth 100000 in
theorem km_RL_124 : Cond.methodLink RL 124 yX12_guess ∈ tblG := tg (List.mem_of_getElem? (i := 1939) rfl) (by decide +kernel)
set_option maxRecDepth 100000 in
theorem ks_RX12_yX12_guess : Cond.selects RX12 yX12_guess yX12_guess ∈ tblG := tg (List.mem_of_getElem? (i := 1941) rfl) (by decide +kernel)
set_option maxRecDepth 100000 in
theorem km_RL_127 : Cond.methodLink RL 127 yX12_book ∈ tblG := tg (List.mem_of_getElem? (i := 1943) rfl) (by decide +kernel)
set_option maxRecDepth 100000 in
theorem ks_RX12_yX12_book : Cond.selects RX12 yX12_book yX12_book ∈ tblG := tg (List.mem_of_getElem? (i := 1945) rfl) (by decide +kernel)
set_option maxRecDepth 100000 in
theorem km_RL_135 : Cond.methodLink RL 135 yX12_told ∈ tblG := tg (List.mem_of_getElem? (i := 1947) rfl) (by decide +kernel)
set_option maxRecDepth 100000 in
theorem ks_RX12_yX12_told : Cond.selects RX12 yX12_told yX12_told ∈ tblG := tg (List.mem_of_getElem? (i := 1949) rfl) (by decide +kernel)
set_option maxRecDepth 100000 in
theorem km_RX12_336 : Cond.methodLink RX12 336 yX12_whose ∈ tblG := tg (List.mem_of_getElem? (i := 1951) rfl) (by decide +kernel)
set_option maxRecDepth 100000 in
theorem km_RX12_328 : Cond.methodLink RX12 328 yX12_isOver ∈ tblG := tg (List.mem_of_getElem? (i := 1955) rfl) (by decide +kernel)
set_option maxRecDepth 100000 in
theorem km_RX12_325 : Cond.methodLink RX12 325 yX12_isOut ∈ tblG := tg (List.mem_of_getElem? (i := 1959) rfl) (by decide +kernel)
set_option maxRecDepth 100000 in
theorem km_RX12_322 : Cond.methodLink RX12 322 yX12_held ∈ tblG := tg (List.mem_of_getElem? (i := 1963) rfl) (by decide +kernel)
set_option maxRecDepth 100000 in
theorem km_RX12_331 : Cond.methodLink RX12 331 yX12_next ∈ tblG := tg (List.mem_of_getElem? (i := 1967) rfl) (by decide +kernel)
set_option maxRecDepth 100000 in
theorem km_RL_138 : Cond.methodLink RL 138 yX12_player ∈ tblG := tg (List.mem_of_getElem? (i := 1971) rfl) (by decide +kernel)
set_option maxRecDepth 100000 in
theorem ks_RX12_yX12_player : Cond.selects RX12 yX12_player yX12_player ∈ tblG := tg (List.mem_of_getElem? (i := 1973) rfl) (by decide +kernel)
set_option maxRecDepth 100000 in
theorem km_RX12_339 : Cond.methodLink RX12 339 yX12_isPlayer ∈ tblG := tg (List.mem_of_getElem? (i := 1975) rfl) (by decide +kernel)
set_option maxRecDepth 100000 in
theorem km_RL_141 : Cond.methodLink RL 141 yX12_row ∈ tblG := tg (List.mem_of_getElem? (i := 1979) rfl) (by decide +kernel)
set_option maxRecDepth 100000 in
theorem ks_RX12_yX12_row : Cond.selects RX12 yX12_row yX12_row ∈ tblG := tg (List.mem_of_getElem? (i := 1981) rfl) (by decide +kernel)
set_option maxRecDepth 100000 in
theorem km_RL_144 : Cond.methodLink RL 144 yX12_heap ∈ tblG := tg (List.mem_of_getElem? (i := 1983) rfl) (by decide +kernel)
set_option maxRecDepth 100000 in
theorem ks_RX12_yX12_heap : Cond.selects RX12 yX12_heap yX12_heap ∈ tblG := tg (List.mem_of_getElem? (i := 1985) rfl) (by decide +kernel)
set_option maxRecDepth 100000 in
theorem km_RL_148 : Cond.methodLink RL 148 yX12_pool ∈ tblG := tg (List.mem_of_getElem? (i := 1987) rfl) (by decide +kernel)
set_option maxRecDepth 100000 in
theorem ks_RX12_yX12_pool : Cond.selects RX12 yX12_pool yX12_pool ∈ tblG := tg (List.mem_of_getElem? (i := 1989) rfl) (by decide +kernel)
set_option maxRecDepth 100000 in
theorem km_RL_151 : Cond.methodLink RL 151 yX12_lain ∈ tblG := tg (List.mem_of_getElem? (i := 1991) rfl) (by decide +kernel)
set_option maxRecDepth 100000 in
theorem ks_RX12_yX12_lain : Cond.selects RX12 yX12_lain yX12_lain ∈ tblG := tg (List.mem_of_getElem? (i := 1993) rfl) (by decide +kernel)
set_option maxRecDepth 100000 in
theorem km_RL_155 : Cond.methodLink RL 155 yX12_alike ∈ tblG := tg (List.mem_of_getElem? (i := 1995) rfl) (by decide +kernel)
set_option maxRecDepth 100000 in
theorem ks_RX12_yX12_alike : Cond.selects RX12 yX12_alike yX12_alike ∈ tblG := tg (List.mem_of_getElem? (i := 1997) rfl) (by decide +kernel)
set_option maxRecDepth 100000 in
theorem km_RX12_343 : Cond.methodLink RX12 343 yX12_alikes ∈ tblG := tg (List.mem_of_getElem? (i := 1999) rfl) (by decide +kernel)
set_option maxRecDepth 100000 in
theorem km_RX12_334 : Cond.methodLink RX12 334 yX12_top ∈ tblG := tg (List.mem_of_getElem? (i := 2003) rfl) (by decide +kernel)
set_option maxRecDepth 100000 in
theorem km_RL_158 : Cond.methodLink RL 158 yX12_would ∈ tblG := tg (List.mem_of_getElem? (i := 2007) rfl) (by decide +kernel)
set_option maxRecDepth 100000 in
theorem ks_RX12_yX12_would : Cond.selects RX12 yX12_would yX12_would ∈ tblG := tg (List.mem_of_getElem? (i := 2009) rfl) (by decide +kernel)
set_option maxRecDepth 100000 in
theorem km_RX12_358 : Cond.methodLink RX12 358 yX12_holds ∈ tblG := tg (List.mem_of_getElem? (i := 2011) rfl) (by decide +kernel)
set_option maxRecDepth 100000 in
theorem km_RX12_355 : Cond.methodLink RX12 355 yX12_asks ∈ tblG := tg (List.mem_of_getElem? (i := 2015) rfl) (by decide +kernel)
set_option maxRecDepth 100000 in
theorem km_RX12_346 : Cond.methodLink RX12 346 yX12_isMine ∈ tblG := tg (List.mem_of_getElem? (i := 2019) rfl) (by decide +kernel)
set_option maxRecDepth 100000 in
theorem km_RX12_349 : Cond.methodLink RX12 349 yX12_remembers ∈ tblG := tg (List.mem_of_getElem? (i := 2023) rfl) (by decide +kernel)
set_option maxRecDepth 100000 in
theorem km_RX12_352 : Cond.methodLink RX12 352 yX12_wouldBe ∈ tblG := tg (List.mem_of_getElem? (i := 2027) rfl) (by decide +kernel)
set_option maxRecDepth 100000 in
theorem km_RL_161 : Cond.methodLink RL 161 yX12_law ∈ tblG := tg (List.mem_of_getElem? (i := 2031) rfl) (by decide +kernel)
set_option maxRecDepth 100000 in
theorem ks_RX12_yX12_law : Cond.selects RX12 yX12_law yX12_law ∈ tblG := tg (List.mem_of_getElem? (i := 2033) rfl) (by decide +kernel)
set_option maxRecDepth 100000 in
theorem km_RL_166 : Cond.methodLink RL 166 yX12_draws ∈ tblG := tg (List.mem_of_getElem? (i := 2035) rfl) (by decide +kernel)
set_option maxRecDepth 100000 in
theorem ks_RX12_yX12_draws : Cond.selects RX12 yX12_draws yX12_draws ∈ tblG := tg (List.mem_of_getElem? (i := 2037) rfl) (by decide +kernel)
set_option maxRecDepth 100000 in
theorem km_RL_170 : Cond.methodLink RL 170 yX12_still ∈ tblG := tg (List.mem_of_getElem? (i := 2039) rfl) (by decide +kernel)
set_option maxRecDepth 100000 in
theorem ks_RX12_yX12_still : Cond.selects RX12 yX12_still yX12_still ∈ tblG := tg (List.mem_of_getElem? (i := 2041) rfl) (by decide +kernel)
set_option maxRecDepth 100000 in
theorem km_RL_173 : Cond.methodLink RL 173 yX12_play ∈ tblG := tg (List.mem_of_getElem? (i := 2043) rfl) (by decide +kernel)
set_option maxRecDepth 100000 in
theorem ks_RX12_yX12_play : Cond.selects RX12 yX12_play yX12_play ∈ tblG := tg (List.mem_of_getElem? (i := 2045) rfl) (by decide +kernel)
set_option maxRecDepth 100000 in
theorem km_RX12_412 : Cond.methodLink RX12 412 yX12_turn ∈ tblG := tg (List.mem_of_getElem? (i := 2047) rfl) (by decide +kernel)
set_option maxRecDepth 100000 in
theorem km_RX12_397 : Cond.methodLink RX12 397 yX12_turnsOver ∈ tblG := tg (List.mem_of_getElem? (i := 2051) rfl) (by decide +kernel)
set_option maxRecDepth 100000 in
theorem km_RX12_368 : Cond.methodLink RX12 368 yX12_comesToRow ∈ tblG := tg (List.mem_of_getElem? (i := 2055) rfl) (by decide +kernel)
set_option maxRecDepth 100000 in
theorem km_RX12_365 : Cond.methodLink RX12 365 yX12_comes ∈ tblG := tg (List.mem_of_getElem? (i := 2059) rfl) (by decide +kernel)
set_option maxRecDepth 100000 in
theorem km_RX12_361 : Cond.methodLink RX12 361 yX12_take ∈ tblG := tg (List.mem_of_getElem? (i := 2063) rfl) (by decide +kernel)
set_option maxRecDepth 100000 in
theorem km_RX12_400 : Cond.methodLink RX12 400 yX12_guesses ∈ tblG := tg (List.mem_of_getElem? (i := 2067) rfl) (by decide +kernel)
set_option maxRecDepth 100000 in
theorem km_RX12_403 : Cond.methodLink RX12 403 yX12_lays ∈ tblG := tg (List.mem_of_getElem? (i := 2071) rfl) (by decide +kernel)
set_option maxRecDepth 100000 in
theorem km_RX12_371 : Cond.methodLink RX12 371 yX12_takesFirst ∈ tblG := tg (List.mem_of_getElem? (i := 2075) rfl) (by decide +kernel)
set_option maxRecDepth 100000 in
theorem km_RX12_406 : Cond.methodLink RX12 406 yX12_plans ∈ tblG := tg (List.mem_of_getElem? (i := 2079) rfl) (by decide +kernel)
set_option maxRecDepth 100000 in
theorem km_RX12_385 : Cond.methodLink RX12 385 yX12_drawn ∈ tblG := tg (List.mem_of_getElem? (i := 2083) rfl) (by decide +kernel)
set_option maxRecDepth 100000 in
theorem km_RX12_388 : Cond.methodLink RX12 388 yX12_counts ∈ tblG := tg (List.mem_of_getElem? (i := 2088) rfl) (by decide +kernel)
set_option maxRecDepth 100000 in
theorem km_RX12_409 : Cond.methodLink RX12 409 yX12_judges ∈ tblG := tg (List.mem_of_getElem? (i := 2092) rfl) (by decide +kernel)
set_option maxRecDepth 100000 in
theorem km_RX12_391 : Cond.methodLink RX12 391 yX12_falls ∈ tblG := tg (List.mem_of_getElem? (i := 2096) rfl) (by decide +kernel)
set_option maxRecDepth 100000 in
theorem km_RX12_381 : Cond.methodLink RX12 381 yX12_pools ∈ tblG := tg (List.mem_of_getElem? (i := 2100) rfl) (by decide +kernel)
set_option maxRecDepth 100000 in
theorem km_RX12_394 : Cond.methodLink RX12 394 yX12_wins ∈ tblG := tg (List.mem_of_getElem? (i := 2104) rfl) (by decide +kernel)
set_option maxRecDepth 100000 in
theorem km_RX12_414 : Cond.methodLink RX12 414 yX12_notes ∈ tblG := tg (List.mem_of_getElem? (i := 2108) rfl) (by decide +kernel)
set_option maxRecDepth 100000 in
theorem km_RL_176 : Cond.methodLink RL 176 yX12_undo ∈ tblG := tg (List.mem_of_getElem? (i := 2112) rfl) (by decide +kernel)
set_option maxRecDepth 100000 in
theorem ks_RX12_yX12_undo : Cond.selects RX12 yX12_undo yX12_undo ∈ tblG := tg (List.mem_of_getElem? (i := 2114) rfl) (by decide +kernel)
set_option maxRecDepth 100000 in
theorem km_RL_179 : Cond.methodLink RL 179 yX12_latest ∈ tblG := tg (List.mem_of_getElem? (i := 2116) rfl) (by decide +kernel)
set_option maxRecDepth 100000 in
theorem ks_RX12_yX12_latest : Cond.selects RX12 yX12_latest yX12_latest ∈ tblG := tg (List.mem_of_getElem? (i := 2118) rfl) (by decide +kernel)
set_option maxRecDepth 100000 in
theorem km_RL_188 : Cond.methodLink RL 188 yX12_ends ∈ tblG := tg (List.mem_of_getElem? (i := 2120) rfl) (by decide +kernel)
set_option maxRecDepth 100000 in
theorem ks_RX12_yX12_ends : Cond.selects RX12 yX12_ends yX12_ends ∈ tblG := tg (List.mem_of_getElem? (i := 2122) rfl) (by decide +kernel)
set_option maxRecDepth 100000 in
theorem km_RX12_444 : Cond.methodLink RX12 444 yX12_keeps ∈ tblG := tg (List.mem_of_getElem? (i := 2124) rfl) (by decide +kernel)
set_option maxRecDepth 100000 in
theorem km_RX12_447 : Cond.methodLink RX12 447 yX12_findEnds ∈ tblG := tg (List.mem_of_getElem? (i := 2128) rfl) (by decide +kernel)
set_option maxRecDepth 100000 in
theorem km_RX12_435 : Cond.methodLink RX12 435 yX12_writes ∈ tblG := tg (List.mem_of_getElem? (i := 2132) rfl) (by decide +kernel)
set_option maxRecDepth 100000 in
theorem km_RX12_417 : Cond.methodLink RX12 417 yX12_puts ∈ tblG := tg (List.mem_of_getElem? (i := 2136) rfl) (by decide +kernel)
set_option maxRecDepth 100000 in
theorem km_RX12_438 : Cond.methodLink RX12 438 yX12_earlier ∈ tblG := tg (List.mem_of_getElem? (i := 2140) rfl) (by decide +kernel)
set_option maxRecDepth 100000 in
theorem km_RX12_423 : Cond.methodLink RX12 423 yX12_isSame ∈ tblG := tg (List.mem_of_getElem? (i := 2144) rfl) (by decide +kernel)
set_option maxRecDepth 100000 in
theorem km_RX12_420 : Cond.methodLink RX12 420 yX12_leaveSame ∈ tblG := tg (List.mem_of_getElem? (i := 2148) rfl) (by decide +kernel)
set_option maxRecDepth 100000 in
theorem km_RX12_450 : Cond.methodLink RX12 450 yX12_back ∈ tblG := tg (List.mem_of_getElem? (i := 2152) rfl) (by decide +kernel)
set_option maxRecDepth 100000 in
theorem km_RL_192 : Cond.methodLink RL 192 yX12_where ∈ tblG := tg (List.mem_of_getElem? (i := 2156) rfl) (by decide +kernel)
set_option maxRecDepth 100000 in
theorem ks_RX12_yX12_where : Cond.selects RX12 yX12_where yX12_where ∈ tblG := tg (List.mem_of_getElem? (i := 2158) rfl) (by decide +kernel)
set_option maxRecDepth 100000 in
theorem km_RX12_453 : Cond.methodLink RX12 453 yX12_turnFor ∈ tblG := tg (List.mem_of_getElem? (i := 2160) rfl) (by decide +kernel)
set_option maxRecDepth 100000 in
theorem km_RL_196 : Cond.methodLink RL 196 yX12_chance ∈ tblG := tg (List.mem_of_getElem? (i := 2164) rfl) (by decide +kernel)
set_option maxRecDepth 100000 in
theorem ks_RX12_yX12_chance : Cond.selects RX12 yX12_chance yX12_chance ∈ tblG := tg (List.mem_of_getElem? (i := 2166) rfl) (by decide +kernel)
set_option maxRecDepth 100000 in
theorem km_RX12_459 : Cond.methodLink RX12 459 yX12_isOther ∈ tblG := tg (List.mem_of_getElem? (i := 2168) rfl) (by decide +kernel)
set_option maxRecDepth 100000 in
theorem km_RX12_462 : Cond.methodLink RX12 462 yX12_fraction ∈ tblG := tg (List.mem_of_getElem? (i := 2172) rfl) (by decide +kernel)
set_option maxRecDepth 100000 in
theorem km_RX12_456 : Cond.methodLink RX12 456 yX12_divisor ∈ tblG := tg (List.mem_of_getElem? (i := 2175) rfl) (by decide +kernel)
set_option maxRecDepth 100000 in
theorem km_RL_200 : Cond.methodLink RL 200 yX12_waits ∈ tblG := tg (List.mem_of_getElem? (i := 2178) rfl) (by decide +kernel)
set_option maxRecDepth 100000 in
theorem ks_RX12_yX12_waits : Cond.selects RX12 yX12_waits yX12_waits ∈ tblG := tg (List.mem_of_getElem? (i := 2180) rfl) (by decide +kernel)
set_option maxRecDepth 100000 in
theorem km_RX12_465 : Cond.methodLink RX12 465 yX12_isWorth ∈ tblG := tg (List.mem_of_getElem? (i := 2182) rfl) (by decide +kernel)
set_option maxRecDepth 100000 in
theorem km_RL_203 : Cond.methodLink RL 203 yX12_ahead ∈ tblG := tg (List.mem_of_getElem? (i := 2186) rfl) (by decide +kernel)
set_option maxRecDepth 100000 in
theorem ks_RX12_yX12_ahead : Cond.selects RX12 yX12_ahead yX12_ahead ∈ tblG := tg (List.mem_of_getElem? (i := 2188) rfl) (by decide +kernel)
set_option maxRecDepth 100000 in
theorem km_RL_206 : Cond.methodLink RL 206 yX12_moments ∈ tblG := tg (List.mem_of_getElem? (i := 2190) rfl) (by decide +kernel)
set_option maxRecDepth 100000 in
theorem ks_RX12_yX12_moments : Cond.selects RX12 yX12_moments yX12_moments ∈ tblG := tg (List.mem_of_getElem? (i := 2192) rfl) (by decide +kernel)
set_option maxRecDepth 100000 in
theorem km_RX12_469 : Cond.methodLink RX12 469 yX12_gets ∈ tblG := tg (List.mem_of_getElem? (i := 2194) rfl) (by decide +kernel)
set_option maxRecDepth 100000 in
theorem km_RL_209 : Cond.methodLink RL 209 yX12_rests ∈ tblG := tg (List.mem_of_getElem? (i := 2198) rfl) (by decide +kernel)
set_option maxRecDepth 100000 in
theorem ks_RX12_yX12_rests : Cond.selects RX12 yX12_rests yX12_rests ∈ tblG := tg (List.mem_of_getElem? (i := 2200) rfl) (by decide +kernel)
set_option maxRecDepth 100000 in
theorem km_RX12_472 : Cond.methodLink RX12 472 yX12_isBest ∈ tblG := tg (List.mem_of_getElem? (i := 2202) rfl) (by decide +kernel)
set_option maxRecDepth 100000 in
theorem km_RL_212 : Cond.methodLink RL 212 yX12_remember ∈ tblG := tg (List.mem_of_getElem? (i := 2206) rfl) (by decide +kernel)
set_option maxRecDepth 100000 in
theorem ks_RX12_yX12_remember : Cond.selects RX12 yX12_remember yX12_remember ∈ tblG := tg (List.mem_of_getElem? (i := 2208) rfl) (by decide +kernel)
set_option maxRecDepth 100000 in
theorem km_RX12_475 : Cond.methodLink RX12 475 yX12_ones ∈ tblG := tg (List.mem_of_getElem? (i := 2210) rfl) (by decide +kernel)
set_option maxRecDepth 100000 in
theorem km_RX12_478 : Cond.methodLink RX12 478 yX12_rememberedBy ∈ tblG := tg (List.mem_of_getElem? (i := 2213) rfl) (by decide +kernel)
set_option maxRecDepth 100000 in
theorem km_RL_215 : Cond.methodLink RL 215 yX12_odds ∈ tblG := tg (List.mem_of_getElem? (i := 2217) rfl) (by decide +kernel)
set_option maxRecDepth 100000 in
theorem ks_RX12_yX12_odds : Cond.selects RX12 yX12_odds yX12_odds ∈ tblG := tg (List.mem_of_getElem? (i := 2219) rfl) (by decide +kernel)
set_option maxRecDepth 100000 in
theorem km_RX12_487 : Cond.methodLink RX12 487 yX12_waysOf ∈ tblG := tg (List.mem_of_getElem? (i := 2221) rfl) (by decide +kernel)
set_option maxRecDepth 100000 in
theorem km_RX12_481 : Cond.methodLink RX12 481 yX12_hasMost ∈ tblG := tg (List.mem_of_getElem? (i := 2225) rfl) (by decide +kernel)
set_option maxRecDepth 100000 in
theorem km_RX12_484 : Cond.methodLink RX12 484 yX12_quickness ∈ tblG := tg (List.mem_of_getElem? (i := 2229) rfl) (by decide +kernel)
set_option maxRecDepth 100000 in
theorem km_RX12_491 : Cond.methodLink RX12 491 yX12_longDivisor ∈ tblG := tg (List.mem_of_getElem? (i := 2233) rfl) (by decide +kernel)
set_option maxRecDepth 100000 in
theorem km_RL_219 : Cond.methodLink RL 219 yX12_shuffle ∈ tblG := tg (List.mem_of_getElem? (i := 2236) rfl) (by decide +kernel)
set_option maxRecDepth 100000 in
theorem ks_RX12_yX12_shuffle : Cond.selects RX12 yX12_shuffle yX12_shuffle ∈ tblG := tg (List.mem_of_getElem? (i := 2238) rfl) (by decide +kernel)
set_option maxRecDepth 100000 in
theorem km_RX12_495 : Cond.methodLink RX12 495 yX12_shuffles ∈ tblG := tg (List.mem_of_getElem? (i := 2240) rfl) (by decide +kernel)
set_option maxRecDepth 100000 in
theorem km_RL_222 : Cond.methodLink RL 222 yX12_lot ∈ tblG := tg (List.mem_of_getElem? (i := 2244) rfl) (by decide +kernel)
set_option maxRecDepth 100000 in
theorem ks_RX12_yX12_lot : Cond.selects RX12 yX12_lot yX12_lot ∈ tblG := tg (List.mem_of_getElem? (i := 2246) rfl) (by decide +kernel)
set_option maxRecDepth 100000 in
theorem km_RL_226 : Cond.methodLink RL 226 yX12_film ∈ tblG := tg (List.mem_of_getElem? (i := 2248) rfl) (by decide +kernel)
set_option maxRecDepth 100000 in
theorem ks_RX12_yX12_film : Cond.selects RX12 yX12_film yX12_film ∈ tblG := tg (List.mem_of_getElem? (i := 2250) rfl) (by decide +kernel)
set_option maxRecDepth 100000 in
theorem km_RL_232 : Cond.methodLink RL 232 yX12_laws ∈ tblG := tg (List.mem_of_getElem? (i := 2252) rfl) (by decide +kernel)
set_option maxRecDepth 100000 in
theorem ks_RX12_yX12_laws : Cond.selects RX12 yX12_laws yX12_laws ∈ tblG := tg (List.mem_of_getElem? (i := 2254) rfl) (by decide +kernel)
set_option maxRecDepth 100000 in
theorem km_RL_236 : Cond.methodLink RL 236 yX12_right ∈ tblG := tg (List.mem_of_getElem? (i := 2256) rfl) (by decide +kernel)
set_option maxRecDepth 100000 in
theorem ks_RX12_yX12_right : Cond.selects RX12 yX12_right yX12_right ∈ tblG := tg (List.mem_of_getElem? (i := 2258) rfl) (by decide +kernel)
set_option maxRecDepth 100000 in
theorem km_RL_239 : Cond.methodLink RL 239 yX12_entry ∈ tblG := tg (List.mem_of_getElem? (i := 2260) rfl) (by decide +kernel)
set_option maxRecDepth 100000 in
theorem ks_RX12_yX12_entry : Cond.selects RX12 yX12_entry yX12_entry ∈ tblG := tg (List.mem_of_getElem? (i := 2262) rfl) (by decide +kernel)
set_option maxRecDepth 100000 in
theorem km_RL_182 : Cond.methodLink RL 182 yX12_calls ∈ tblG := tg (List.mem_of_getElem? (i := 2264) rfl) (by decide +kernel)
set_option maxRecDepth 100000 in
theorem ks_RX12_yX12_calls : Cond.selects RX12 yX12_calls yX12_calls ∈ tblG := tg (List.mem_of_getElem? (i := 2266) rfl) (by decide +kernel)
set_option maxRecDepth 100000 in
theorem km_RL_185 : Cond.methodLink RL 185 yX12_won ∈ tblG := tg (List.mem_of_getElem? (i := 2268) rfl) (by decide +kernel)
set_option maxRecDepth 100000 in
theorem ks_RX12_yX12_won : Cond.selects RX12 yX12_won yX12_won ∈ tblG := tg (List.mem_of_getElem? (i := 2270) rfl) (by decide +kernel)
set_option maxRecDepth 100000 in
theorem km_RL_243 : Cond.methodLink RL 243 yX12_image ∈ tblG := tg (List.mem_of_getElem? (i := 2272) rfl) (by decide +kernel)
set_option maxRecDepth 100000 in
theorem ks_RX12_yX12_image : Cond.selects RX12 yX12_image yX12_image ∈ tblG := tg (List.mem_of_getElem? (i := 2274) rfl) (by decide +kernel)
set_option maxRecDepth 100000 in
theorem km_RX12_502 : Cond.methodLink RX12 502 yX12_keepsAll ∈ tblG := tg (List.mem_of_getElem? (i := 2276) rfl) (by decide +kernel)
set_option maxRecDepth 100000 in
theorem km_RX12_498 : Cond.methodLink RX12 498 yX12_keepsRow ∈ tblG := tg (List.mem_of_getElem? (i := 2280) rfl) (by decide +kernel)
set_option maxRecDepth 100000 in
theorem km_RL_247 : Cond.methodLink RL 247 yX12_restore ∈ tblG := tg (List.mem_of_getElem? (i := 2284) rfl) (by decide +kernel)
set_option maxRecDepth 100000 in
theorem ks_RX12_yX12_restore : Cond.selects RX12 yX12_restore yX12_restore ∈ tblG := tg (List.mem_of_getElem? (i := 2286) rfl) (by decide +kernel)
set_option maxRecDepth 100000 in
theorem km_RL_251 : Cond.methodLink RL 251 yX12_status ∈ tblG := tg (List.mem_of_getElem? (i := 2288) rfl) (by decide +kernel)
set_option maxRecDepth 100000 in
theorem ks_RX12_yX12_status : Cond.selects RX12 yX12_status yX12_status ∈ tblG := tg (List.mem_of_getElem? (i := 2290) rfl) (by decide +kernel)
set_option maxRecDepth 100000 in
theorem km_RL_255 : Cond.methodLink RL 255 yX12_count ∈ tblG := tg (List.mem_of_getElem? (i := 2292) rfl) (by decide +kernel)
set_option maxRecDepth 100000 in
theorem ks_RX12_yX12_count : Cond.selects RX12 yX12_count yX12_count ∈ tblG := tg (List.mem_of_getElem? (i := 2294) rfl) (by decide +kernel)
