/-! rows of the table, in slices -/
def pick : List Cond → List Nat → List Cond
  | _, [] => []
  | t, g :: gs => match t.drop g with
    | [] => []
    | c :: r => c :: pick r gs
theorem pick_mem : ∀ (gs : List Nat) (t : List Cond) (w : Cond), w ∈ pick t gs → w ∈ t
  | [], _, _, h => by cases h
  | g :: gs, t, w, h => by
    unfold pick at h
    cases e : t.drop g with
    | nil => rw [e] at h; cases h
    | cons c r =>
      rw [e] at h
      have hs : ∀ x, x ∈ c :: r → x ∈ t := fun x hx => List.mem_of_mem_drop (i := g) (by rw [e]; exact hx)
      rcases List.mem_cons.mp h with rfl | q
      · exact hs _ List.mem_cons_self
      · exact hs _ (List.mem_cons_of_mem _ (pick_mem gs r w q))
theorem m_inP {gs : List Nat} {ws : List Cond} (h : pick lw_tbl gs = ws) (j : Nat) {w : Cond} (e : ws[j]? = some w) (g : goodWord w = true) : w ∈ m_G := List.mem_filter.mpr ⟨pick_mem gs _ _ (by rw [h]; exact List.mem_of_getElem? e), g⟩
theorem m_inQ {gs : List Nat} {ws : List Cond} (h : pick lw_tbl gs = ws) (j : Nat) {w : Cond} (e : ws[j]? = some w) (g : m_isN w = true) : w ∈ m_N := List.mem_filter.mpr ⟨pick_mem gs _ _ (by rw [h]; exact List.mem_of_getElem? e), g⟩
set_option maxRecDepth 16384 in
theorem pk_0 : pick lw_tbl [0, 0, 0, 0, 0, 0, 0, 0, 0, 0, 0, 0, 0, 0, 0, 0, 0, 0, 0, 0, 0, 0, 0, 0, 0, 0, 0, 0, 0, 0, 0, 0, 0, 0, 0, 0, 0, 0, 0, 0] = [Cond.selects yX11_refuse.cls yX11_refuse yX11_refuse, Cond.selects yX11_accept.cls yX11_accept yX11_accept, Cond.selects yX11_takeFromRow.cls yX11_takeFromRow yX11_takeFromRow, Cond.selects yX1_advance.cls yX1_advance yX1_advance, Cond.selects yX1_take.cls yX1_take yX1_take, Cond.selects yX1_stands.cls yX1_stands yX1_stands, Cond.selects yX1_readWeeks.cls yX1_readWeeks yX1_readWeeks, Cond.selects yX1_takeNumber.cls yX1_takeNumber yX1_takeNumber, Cond.selects yX1_value.cls yX1_value yX1_value, Cond.selects yX1_readThing.cls yX1_readThing yX1_readThing, Cond.selects yX1_readCut.cls yX1_readCut yX1_readCut, Cond.selects yX1_readMeasure.cls yX1_readMeasure yX1_readMeasure, Cond.selects yX1_readShorter.cls yX1_readShorter yX1_readShorter, Cond.selects yX11_canBe.cls yX11_canBe yX11_canBe, Cond.selects yX9_forget.cls yX9_forget yX9_forget, Cond.selects yX9_tie.cls yX9_tie yX9_tie, Cond.selects yX9_lower.cls yX9_lower yX9_lower, Cond.selects yX9_tieCut.cls yX9_tieCut yX9_tieCut, Cond.selects yX9_stepOver.cls yX9_stepOver yX9_stepOver, Cond.selects yX9_eachFootHolds.cls yX9_eachFootHolds yX9_eachFootHolds, Cond.selects yX9_goOn.cls yX9_goOn yX9_goOn, Cond.selects yX9_feetHoldTogether.cls yX9_feetHoldTogether yX9_feetHoldTogether, Cond.selects yX11_compare.cls yX11_compare yX11_compare, Cond.selects yX9_limitBy.cls yX9_limitBy yX9_limitBy, Cond.selects yX9_highOf.cls yX9_highOf yX9_highOf, Cond.selects yX9_lowOf.cls yX9_lowOf yX9_lowOf, Cond.selects yX11_compareToFoot.cls yX11_compareToFoot yX11_compareToFoot, Cond.selects yX11_isMeasured.cls yX11_isMeasured yX11_isMeasured, Cond.selects yX11_addFeet.cls yX11_addFeet yX11_addFeet, Cond.selects yX11_manyWholes.cls yX11_manyWholes yX11_manyWholes, Cond.selects yX11_couldBeTold.cls yX11_couldBeTold yX11_couldBeTold, Cond.selects yX0_unite.cls yX0_unite yX0_unite, Cond.selects yX0_sizeOf.cls yX0_sizeOf yX0_sizeOf, Cond.selects yX3_strike.cls yX3_strike yX3_strike, Cond.selects yX6_gather.cls yX6_gather yX6_gather, Cond.selects yX6_note.cls yX6_note yX6_note, Cond.selects yX6_placeOf.cls yX6_placeOf yX6_placeOf, Cond.selects yX12_answer.cls yX12_answer yX12_answer, Cond.selects yX12_change.cls yX12_change yX12_change, Cond.selects yX12_was.cls yX12_was yX12_was] := by exact rfl
set_option maxRecDepth 16384 in
theorem pk_1 : pick lw_tbl [40, 0, 0, 0, 0, 0, 0, 0, 0, 0, 0, 0, 0, 0, 0, 0, 0, 0, 0, 0, 0, 0, 0, 0, 0, 0, 0, 0, 0, 0, 0, 0, 0, 0, 0, 0, 0, 0, 0, 0] = [Cond.selects yX12_isShorter.cls yX12_isShorter yX12_isShorter, Cond.selects yX12_addShorter.cls yX12_addShorter yX12_addShorter, Cond.selects yX12_addEntry.cls yX12_addEntry yX12_addEntry, Cond.selects yX12_isEntry.cls yX12_isEntry yX12_isEntry, Cond.selects yX12_lengthOf.cls yX12_lengthOf yX12_lengthOf, Cond.selects yX12_ofEntry.cls yX12_ofEntry yX12_ofEntry, Cond.selects yX12_four.cls yX12_four yX12_four, Cond.selects yX12_begin.cls yX12_begin yX12_begin, Cond.selects yX12_next.cls yX12_next yX12_next, Cond.selects yX12_readClause.cls yX12_readClause yX12_readClause, Cond.selects yX12_isWord.cls yX12_isWord yX12_isWord, Cond.selects yX12_readWeeks.cls yX12_readWeeks yX12_readWeeks, Cond.selects yX12_number.cls yX12_number yX12_number, Cond.selects yX12_must.cls yX12_must yX12_must, Cond.selects yX12_act.cls yX12_act yX12_act, Cond.selects yX12_readShorter.cls yX12_readShorter yX12_readShorter, Cond.selects yX12_isDrafted.cls yX12_isDrafted yX12_isDrafted, Cond.selects yX12_readThing.cls yX12_readThing yX12_readThing, Cond.selects yX12_readMeasure.cls yX12_readMeasure yX12_readMeasure, Cond.selects yX12_isSign.cls yX12_isSign yX12_isSign, Cond.selects yX12_doAct.cls yX12_doAct yX12_doAct, Cond.selects yX12_canBeNow.cls yX12_canBeNow yX12_canBeNow, Cond.selects yX12_asIs.cls yX12_asIs yX12_asIs, Cond.selects yX12_counting.cls yX12_counting yX12_counting, Cond.selects yX12_canBe.cls yX12_canBe yX12_canBe, Cond.selects yX12_build.cls yX12_build yX12_build, Cond.selects yX12_edge.cls yX12_edge yX12_edge, Cond.selects yX12_startAt.cls yX12_startAt yX12_startAt, Cond.selects yX12_round.cls yX12_round yX12_round, Cond.selects yX12_keep.cls yX12_keep yX12_keep, Cond.selects yX12_compare.cls yX12_compare yX12_compare, Cond.selects yX12_isTight.cls yX12_isTight yX12_isTight, Cond.selects yX12_isAnswered.cls yX12_isAnswered yX12_isAnswered, Cond.selects yX12_isLength.cls yX12_isLength yX12_isLength, Cond.selects yX12_goFrom.cls yX12_goFrom yX12_goFrom, Cond.selects yX12_share.cls yX12_share yX12_share, Cond.selects yX12_besideOne.cls yX12_besideOne yX12_besideOne, Cond.selects yX12_isAsked.cls yX12_isAsked yX12_isAsked, Cond.selects yX12_findEnds.cls yX12_findEnds yX12_findEnds, Cond.selects yX12_tells.cls yX12_tells yX12_tells] := by exact rfl
set_option maxRecDepth 16384 in
theorem pk_2 : pick lw_tbl [80, 0, 0, 0, 0, 0, 0, 0, 0, 0, 0, 0, 0, 0, 1, 0, 0, 0, 0, 0, 0, 0, 0, 0, 0, 0, 0, 0, 0, 0, 5, 14, 0, 0, 0, 0, 0, 0, 0, 0] = [Cond.selects yX12_beside.cls yX12_beside yX12_beside, Cond.selects yX12_numbersOf.cls yX12_numbersOf yX12_numbersOf, Cond.selects yX12_takeEnd.cls yX12_takeEnd yX12_takeEnd, Cond.selects yX12_triple.cls yX12_triple yX12_triple, Cond.selects yX12_multiply.cls yX12_multiply yX12_multiply, Cond.selects yX12_addFactor.cls yX12_addFactor yX12_addFactor, Cond.selects yX12_often.cls yX12_often yX12_often, Cond.selects yX12_copyTen.cls yX12_copyTen yX12_copyTen, Cond.selects yX12_findGroups.cls yX12_findGroups yX12_findGroups, Cond.selects yX12_findAsked.cls yX12_findAsked yX12_findAsked, Cond.selects yX12_waysWith.cls yX12_waysWith yX12_waysWith, Cond.selects yX12_whichOf.cls yX12_whichOf yX12_whichOf, Cond.selects yX12_isSo.cls yX12_isSo yX12_isSo, Cond.selects yX12_feetOf.cls yX12_feetOf yX12_feetOf, Cond.initialized yX11_accept.cls, Cond.initialized yX4_addEntry.cls, Cond.initialized yJ7_fill_53178.cls, Cond.initialized yX8_append.cls, Cond.initialized yX1_advance.cls, Cond.initialized yX9_canBe.cls, Cond.initialized yJ9_max_7cf53.cls, Cond.initialized yX2_clear.cls, Cond.initialized yX7_allows.cls, Cond.initialized yX10_add.cls, Cond.initialized yX0_areTogether.cls, Cond.initialized yX3_leaveOut.cls, Cond.initialized yX6_gather.cls, Cond.initialized yX5_bestTrade.cls, Cond.initialized yX12_act.cls, Cond.initialized yJ6_bitCount_0f7a4.cls, Cond.initialized yJ13_compare_74951.cls, Cond.methodLink RX4 33 yJ7_fill_53178, Cond.static yJ7_fill_53178, Cond.code yJ7_fill_53178 cJ7_fill_53178 4 (none), Cond.fieldLink RX4 9 (TX4 0).1 (TX4 0).2.1 (TX4 0).2.2.1, Cond.fieldLink RX11 120 (TX4 0).1 (TX4 0).2.1 (TX4 0).2.2.1, Cond.fieldLink RX6 39 (TX4 0).1 (TX4 0).2.1 (TX4 0).2.2.1, Cond.fieldLink RX1 63 (TX4 0).1 (TX4 0).2.1 (TX4 0).2.2.1, Cond.fieldLink RX4 15 (TX4 1).1 (TX4 1).2.1 (TX4 1).2.2.1, Cond.fieldLink RX9 53 (TX4 1).1 (TX4 1).2.1 (TX4 1).2.2.1] := by exact rfl
set_option maxRecDepth 16384 in
theorem pk_3 : pick lw_tbl [140, 0, 0, 0, 0, 0, 0, 0, 0, 0, 0, 0, 0, 0, 0, 0, 0, 0, 0, 0, 0, 0, 0, 0, 0, 0, 0, 29, 0, 0, 0, 0, 0, 12, 0, 0, 0, 0, 18, 0] = [Cond.fieldLink RX0 39 (TX4 1).1 (TX4 1).2.1 (TX4 1).2.2.1, Cond.fieldLink RX11 129 (TX4 1).1 (TX4 1).2.1 (TX4 1).2.2.1, Cond.fieldLink RX1 101 (TX4 1).1 (TX4 1).2.1 (TX4 1).2.2.1, Cond.fieldLink RX4 18 (TX4 2).1 (TX4 2).2.1 (TX4 2).2.2.1, Cond.fieldLink RX11 172 (TX4 2).1 (TX4 2).2.1 (TX4 2).2.2.1, Cond.fieldLink RX4 21 (TX4 3).1 (TX4 3).2.1 (TX4 3).2.2.1, Cond.fieldLink RX6 67 (TX4 3).1 (TX4 3).2.1 (TX4 3).2.2.1, Cond.fieldLink RX11 175 (TX4 3).1 (TX4 3).2.1 (TX4 3).2.2.1, Cond.fieldLink RX4 24 (TX4 4).1 (TX4 4).2.1 (TX4 4).2.2.1, Cond.fieldLink RX11 178 (TX4 4).1 (TX4 4).2.1 (TX4 4).2.2.1, Cond.fieldLink RX4 27 (TX4 5).1 (TX4 5).2.1 (TX4 5).2.2.1, Cond.fieldLink RX9 102 (TX4 5).1 (TX4 5).2.1 (TX4 5).2.2.1, Cond.fieldLink RX11 181 (TX4 5).1 (TX4 5).2.1 (TX4 5).2.2.1, Cond.fieldLink RX4 30 (TX4 6).1 (TX4 6).2.1 (TX4 6).2.2.1, Cond.fieldLink RX11 376 (TX4 6).1 (TX4 6).2.1 (TX4 6).2.2.1, Cond.fieldLink RX9 39 (TX4 7).1 (TX4 7).2.1 (TX4 7).2.2.1, Cond.fieldLink RX0 15 (TX4 7).1 (TX4 7).2.1 (TX4 7).2.2.1, Cond.fieldLink RX4 45 (TX4 7).1 (TX4 7).2.1 (TX4 7).2.2.1, Cond.fieldLink RX6 64 (TX4 7).1 (TX4 7).2.1 (TX4 7).2.2.1, Cond.fieldLink RX11 162 (TX4 7).1 (TX4 7).2.1 (TX4 7).2.2.1, Cond.fieldLink RX6 48 (TX4 8).1 (TX4 8).2.1 (TX4 8).2.2.1, Cond.fieldLink RX4 49 (TX4 8).1 (TX4 8).2.1 (TX4 8).2.2.1, Cond.fieldLink RX3 31 (TX4 8).1 (TX4 8).2.1 (TX4 8).2.2.1, Cond.fieldLink RX11 346 (TX4 8).1 (TX4 8).2.1 (TX4 8).2.2.1, Cond.fieldLink RX0 32 (TX4 9).1 (TX4 9).2.1 (TX4 9).2.2.1, Cond.fieldLink RX9 63 (TX4 9).1 (TX4 9).2.1 (TX4 9).2.2.1, Cond.fieldLink RX4 52 (TX4 9).1 (TX4 9).2.1 (TX4 9).2.2.1, Cond.fieldLink RX8 9 (TX8 0).1 (TX8 0).2.1 (TX8 0).2.2.1, Cond.fieldLink RX1 128 (TX8 0).1 (TX8 0).2.1 (TX8 0).2.2.1, Cond.fieldLink RX11 424 (TX8 0).1 (TX8 0).2.1 (TX8 0).2.2.1, Cond.fieldLink RX8 15 (TX8 1).1 (TX8 1).2.1 (TX8 1).2.2.1, Cond.fieldLink RX1 46 (TX8 1).1 (TX8 1).2.1 (TX8 1).2.2.1, Cond.fieldLink RX11 187 (TX8 1).1 (TX8 1).2.1 (TX8 1).2.2.1, Cond.fieldLink RX1 9 (TX1 0).1 (TX1 0).2.1 (TX1 0).2.2.1, Cond.fieldLink RX1 43 (TX1 1).1 (TX1 1).2.1 (TX1 1).2.2.1, Cond.fieldLink RX1 19 (TX1 2).1 (TX1 2).2.1 (TX1 2).2.2.1, Cond.fieldLink RX1 15 (TX1 3).1 (TX1 3).2.1 (TX1 3).2.2.1, Cond.fieldLink RX11 205 (TX1 3).1 (TX1 3).2.1 (TX1 3).2.2.1, Cond.methodLink RX11 447 yJ9_max_7cf53, Cond.static yJ9_max_7cf53] := by exact rfl
set_option maxRecDepth 16384 in
theorem pk_4 : pick lw_tbl [239, 7, 0, 0, 0, 0, 0, 0, 0, 0, 0, 0, 0, 7, 0, 0, 0, 0, 0, 21, 0, 0, 0, 11, 0, 0, 0, 0, 18, 9, 0, 0, 0, 0, 0, 0, 15, 0, 0, 0] = [Cond.code yJ9_max_7cf53 cJ9_max_7cf53 2 (some .int), Cond.fieldLink RX2 7 (TX2 0).1 (TX2 0).2.1 (TX2 0).2.2.1, Cond.fieldLink RX7 33 (TX2 0).1 (TX2 0).2.1 (TX2 0).2.2.1, Cond.fieldLink RX9 128 (TX2 0).1 (TX2 0).2.1 (TX2 0).2.2.1, Cond.fieldLink RX11 264 (TX2 0).1 (TX2 0).2.1 (TX2 0).2.2.1, Cond.fieldLink RX2 13 (TX2 1).1 (TX2 1).2.1 (TX2 1).2.2.1, Cond.fieldLink RX7 29 (TX2 1).1 (TX2 1).2.1 (TX2 1).2.2.1, Cond.fieldLink RX9 132 (TX2 1).1 (TX2 1).2.1 (TX2 1).2.2.1, Cond.fieldLink RX11 268 (TX2 1).1 (TX2 1).2.1 (TX2 1).2.2.1, Cond.fieldLink RX2 16 (TX2 2).1 (TX2 2).2.1 (TX2 2).2.2.1, Cond.fieldLink RX7 44 (TX2 2).1 (TX2 2).2.1 (TX2 2).2.2.1, Cond.fieldLink RX9 134 (TX2 2).1 (TX2 2).2.1 (TX2 2).2.2.1, Cond.fieldLink RX11 231 (TX2 2).1 (TX2 2).2.1 (TX2 2).2.2.1, Cond.fieldLink RX9 9 (TX9 0).1 (TX9 0).2.1 (TX9 0).2.2.1, Cond.fieldLink RX9 15 (TX9 1).1 (TX9 1).2.1 (TX9 1).2.2.1, Cond.fieldLink RX9 19 (TX9 2).1 (TX9 2).2.1 (TX9 2).2.2.1, Cond.fieldLink RX9 26 (TX9 3).1 (TX9 3).2.1 (TX9 3).2.2.1, Cond.fieldLink RX9 30 (TX9 4).1 (TX9 4).2.1 (TX9 4).2.2.1, Cond.fieldLink RX9 33 (TX9 5).1 (TX9 5).2.1 (TX9 5).2.2.1, Cond.fieldLink RX7 12 (TX7 0).1 (TX7 0).2.1 (TX7 0).2.2.1, Cond.fieldLink RX11 227 (TX7 0).1 (TX7 0).2.1 (TX7 0).2.2.1, Cond.fieldLink RX7 18 (TX7 1).1 (TX7 1).2.1 (TX7 1).2.2.1, Cond.fieldLink RX11 237 (TX7 1).1 (TX7 1).2.1 (TX7 1).2.2.1, Cond.fieldLink RX10 9 (TX10 0).1 (TX10 0).2.1 (TX10 0).2.2.1, Cond.fieldLink RX10 15 (TX10 1).1 (TX10 1).2.1 (TX10 1).2.2.1, Cond.fieldLink RX10 18 (TX10 2).1 (TX10 2).2.1 (TX10 2).2.2.1, Cond.fieldLink RX10 22 (TX10 3).1 (TX10 3).2.1 (TX10 3).2.2.1, Cond.fieldLink RX10 26 (TX10 4).1 (TX10 4).2.1 (TX10 4).2.2.1, Cond.fieldLink RX0 9 (TX0 0).1 (TX0 0).2.1 (TX0 0).2.2.1, Cond.fieldLink RX3 9 (TX3 0).1 (TX3 0).2.1 (TX3 0).2.2.1, Cond.fieldLink RX3 21 (TX3 1).1 (TX3 1).2.1 (TX3 1).2.2.1, Cond.fieldLink RX11 357 (TX3 1).1 (TX3 1).2.1 (TX3 1).2.2.1, Cond.fieldLink RX3 25 (TX3 2).1 (TX3 2).2.1 (TX3 2).2.2.1, Cond.fieldLink RX11 360 (TX3 2).1 (TX3 2).2.1 (TX3 2).2.2.1, Cond.fieldLink RX3 28 (TX3 3).1 (TX3 3).2.1 (TX3 3).2.2.1, Cond.fieldLink RX11 363 (TX3 3).1 (TX3 3).2.1 (TX3 3).2.2.1, Cond.fieldLink RX6 18 (TX6 0).1 (TX6 0).2.1 (TX6 0).2.2.1, Cond.fieldLink RX6 9 (TX6 1).1 (TX6 1).2.1 (TX6 1).2.2.1, Cond.fieldLink RX6 15 (TX6 2).1 (TX6 2).2.1 (TX6 2).2.2.1, Cond.fieldLink RX6 36 (TX6 3).1 (TX6 3).2.1 (TX6 3).2.2.1] := by exact rfl
set_option maxRecDepth 16384 in
theorem pk_5 : pick lw_tbl [367, 0, 17, 0, 0, 0, 0, 0, 0, 0, 9, 0, 0, 0, 0, 0, 0, 0, 0, 0, 0, 0, 0, 0, 0, 0, 0, 36, 0, 0, 0, 0, 0, 0, 0, 0, 0, 1, 0, 0] = [Cond.fieldLink RX6 22 (TX6 4).1 (TX6 4).2.1 (TX6 4).2.2.1, Cond.fieldLink RX11 369 (TX6 4).1 (TX6 4).2.1 (TX6 4).2.2.1, Cond.fieldLink RX5 9 (TX5 0).1 (TX5 0).2.1 (TX5 0).2.2.1, Cond.fieldLink RX11 408 (TX5 0).1 (TX5 0).2.1 (TX5 0).2.2.1, Cond.fieldLink RX5 16 (TX5 1).1 (TX5 1).2.1 (TX5 1).2.2.1, Cond.fieldLink RX11 399 (TX5 1).1 (TX5 1).2.1 (TX5 1).2.2.1, Cond.fieldLink RX5 20 (TX5 2).1 (TX5 2).2.1 (TX5 2).2.2.1, Cond.fieldLink RX11 402 (TX5 2).1 (TX5 2).2.1 (TX5 2).2.2.1, Cond.fieldLink RX5 24 (TX5 3).1 (TX5 3).2.1 (TX5 3).2.2.1, Cond.fieldLink RX11 405 (TX5 3).1 (TX5 3).2.1 (TX5 3).2.2.1, Cond.fieldLink RX11 12 (TX11 0).1 (TX11 0).2.1 (TX11 0).2.2.1, Cond.fieldLink RX11 16 (TX11 1).1 (TX11 1).2.1 (TX11 1).2.2.1, Cond.fieldLink RX11 19 (TX11 2).1 (TX11 2).2.1 (TX11 2).2.2.1, Cond.fieldLink RX11 23 (TX11 3).1 (TX11 3).2.1 (TX11 3).2.2.1, Cond.fieldLink RX11 30 (TX11 4).1 (TX11 4).2.1 (TX11 4).2.2.1, Cond.fieldLink RX11 39 (TX11 5).1 (TX11 5).2.1 (TX11 5).2.2.1, Cond.fieldLink RX11 46 (TX11 6).1 (TX11 6).2.1 (TX11 6).2.2.1, Cond.fieldLink RX11 53 (TX11 7).1 (TX11 7).2.1 (TX11 7).2.2.1, Cond.fieldLink RX11 60 (TX11 8).1 (TX11 8).2.1 (TX11 8).2.2.1, Cond.fieldLink RX11 67 (TX11 9).1 (TX11 9).2.1 (TX11 9).2.2.1, Cond.fieldLink RX11 76 (TX11 10).1 (TX11 10).2.1 (TX11 10).2.2.1, Cond.fieldLink RX11 83 (TX11 11).1 (TX11 11).2.1 (TX11 11).2.2.1, Cond.fieldLink RX11 90 (TX11 12).1 (TX11 12).2.1 (TX11 12).2.2.1, Cond.fieldLink RX11 94 (TX11 13).1 (TX11 13).2.1 (TX11 13).2.2.1, Cond.fieldLink RX11 98 (TX11 14).1 (TX11 14).2.1 (TX11 14).2.2.1, Cond.fieldLink RX11 102 (TX11 15).1 (TX11 15).2.1 (TX11 15).2.2.1, Cond.fieldLink RX11 105 (TX11 16).1 (TX11 16).2.1 (TX11 16).2.2.1, Cond.instanceMethod yX11_week, Cond.selects yX11_week.cls yX11_week yX11_week, Cond.code yX11_week cX11_week 4 (some .int), Cond.methodLink RX11 108 yX11_isWeek, Cond.static yX11_isWeek, Cond.code yX11_isWeek cX11_isWeek 1 (some .boolean), Cond.methodLink RX11 112 yX11_within, Cond.static yX11_within, Cond.code yX11_within cX11_within 3 (some .boolean), Cond.methodLink RX11 116 yX11_refuse, Cond.instanceMethod yX11_refuse, Cond.code yX11_refuse cX11_refuse 3 (some .int), Cond.methodLink RX11 123 yX11_accept] := by exact rfl
set_option maxRecDepth 16384 in
theorem pk_6 : pick lw_tbl [471, 0, 1, 0, 0, 0, 0, 0, 1, 0, 0, 0, 0, 0, 0, 0, 0, 0, 0, 0, 0, 0, 0, 0, 0, 0, 0, 0, 0, 0, 0, 0, 0, 0, 0, 0, 0, 0, 0, 0] = [Cond.instanceMethod yX11_accept, Cond.code yX11_accept cX11_accept 2 (some .int), Cond.instanceMethod yX11_cut, Cond.selects yX11_cut.cls yX11_cut yX11_cut, Cond.code yX11_cut cX11_cut 4 (some .int), Cond.methodLink RX11 126 yX11_isThing, Cond.static yX11_isThing, Cond.code yX11_isThing cX11_isThing 1 (some .boolean), Cond.instanceMethod yX11_shorter, Cond.selects yX11_shorter.cls yX11_shorter yX11_shorter, Cond.code yX11_shorter cX11_shorter 3 (some .int), Cond.methodLink RX11 132 yX11_isKeeper, Cond.static yX11_isKeeper, Cond.code yX11_isKeeper cX11_isKeeper 1 (some .boolean), Cond.methodLink RX11 135 yX4_isShorter, Cond.instanceMethod yX4_isShorter, Cond.selects yX4_isShorter.cls yX4_isShorter yX4_isShorter, Cond.code yX4_isShorter cX4_isShorter 3 (some .boolean), Cond.methodLinkNest RX4 59 yX11_hasBit "WeekFoot", Cond.static yX11_hasBit, Cond.code yX11_hasBit cX11_hasBit 2 (some .boolean), Cond.methodLink RX11 139 yX4_hasRoomForShorter, Cond.instanceMethod yX4_hasRoomForShorter, Cond.selects yX4_hasRoomForShorter.cls yX4_hasRoomForShorter yX4_hasRoomForShorter, Cond.code yX4_hasRoomForShorter cX4_hasRoomForShorter 1 (some .boolean), Cond.methodLink RX4 69 yX4_shorters, Cond.instanceMethod yX4_shorters, Cond.selects yX4_shorters.cls yX4_shorters yX4_shorters, Cond.code yX4_shorters cX4_shorters 1 (some .int), Cond.methodLink RX4 63 yJ6_bitCount_0f7a4, Cond.static yJ6_bitCount_0f7a4, Cond.code yJ6_bitCount_0f7a4 cJ6_bitCount_0f7a4 1 (some .int), Cond.constant RJ6 265 (Int32.ofInt (1431655765)), Cond.constant RJ6 266 (Int32.ofInt (858993459)), Cond.constant RJ6 267 (Int32.ofInt (252645135)), Cond.methodLink RX11 143 yX4_addShorter, Cond.instanceMethod yX4_addShorter, Cond.selects yX4_addShorter.cls yX4_addShorter yX4_addShorter, Cond.code yX4_addShorter cX4_addShorter 3 (none), Cond.methodLink RX11 147 yX4_shorters] := by exact rfl
set_option maxRecDepth 16384 in
theorem pk_7 : pick lw_tbl [514, 0, 0, 0, 0, 0, 0, 0, 0, 0, 0, 0, 0, 0, 0, 0, 0, 0, 0, 0, 0, 1, 0, 0, 0, 0, 0, 0, 0, 0, 0, 0, 1, 0, 0, 0, 0, 0, 0, 0] = [Cond.instanceMethod yX11_entry, Cond.selects yX11_entry.cls yX11_entry yX11_entry, Cond.code yX11_entry cX11_entry 5 (some .int), Cond.methodLink RX11 151 yX11_isEntry, Cond.static yX11_isEntry, Cond.code yX11_isEntry cX11_isEntry 4 (some .boolean), Cond.methodLink RX11 298 yX11_isNumber, Cond.static yX11_isNumber, Cond.code yX11_isNumber cX11_isNumber 1 (some .boolean), Cond.methodLink RX11 301 yX11_isKind, Cond.static yX11_isKind, Cond.code yX11_isKind cX11_isKind 1 (some .boolean), Cond.methodLink RX11 155 yX4_hasRoom, Cond.instanceMethod yX4_hasRoom, Cond.selects yX4_hasRoom.cls yX4_hasRoom yX4_hasRoom, Cond.code yX4_hasRoom cX4_hasRoom 1 (some .boolean), Cond.methodLink RX11 158 yX4_addEntry, Cond.instanceMethod yX4_addEntry, Cond.selects yX4_addEntry.cls yX4_addEntry yX4_addEntry, Cond.code yX4_addEntry cX4_addEntry 5 (none), Cond.methodLink RX4 55 yX4_hasRoom, Cond.instanceMethod yX11_counts, Cond.selects yX11_counts.cls yX11_counts yX11_counts, Cond.code yX11_counts cX11_counts 4 (some .int), Cond.methodLink RX11 165 yX4_isCounting, Cond.instanceMethod yX4_isCounting, Cond.selects yX4_isCounting.cls yX4_isCounting yX4_isCounting, Cond.code yX4_isCounting cX4_isCounting 2 (some .boolean), Cond.methodLink RX11 168 yX4_setCounting, Cond.instanceMethod yX4_setCounting, Cond.selects yX4_setCounting.cls yX4_setCounting yX4_setCounting, Cond.code yX4_setCounting cX4_setCounting 4 (none), Cond.instanceMethod yX11_of, Cond.selects yX11_of.cls yX11_of yX11_of, Cond.code yX11_of cX11_of 3 (some .int), Cond.methodLink RX11 184 yX4_lengthOf, Cond.instanceMethod yX4_lengthOf, Cond.selects yX4_lengthOf.cls yX4_lengthOf yX4_lengthOf, Cond.code yX4_lengthOf cX4_lengthOf 2 (some .int), Cond.methodLink RX4 77 yX4_lengthIn] := by exact rfl
set_option maxRecDepth 16384 in
theorem pk_8 : pick lw_tbl [556, 0, 0, 1, 0, 0, 0, 0, 0, 0, 1, 0, 0, 1, 0, 0, 0, 1, 0, 1, 0, 0, 1, 0, 0, 0, 0, 0, 0, 3, 0, 0, 0, 0, 1, 0, 0, 0, 0, 1] = [Cond.instanceMethod yX4_lengthIn, Cond.selects yX4_lengthIn.cls yX4_lengthIn yX4_lengthIn, Cond.code yX4_lengthIn cX4_lengthIn 4 (some .int), Cond.instanceMethod yX11_feed, Cond.selects yX11_feed.cls yX11_feed yX11_feed, Cond.code yX11_feed cX11_feed 6 (some .int), Cond.methodLink RX11 190 yX8_append, Cond.instanceMethod yX8_append, Cond.selects yX8_append.cls yX8_append yX8_append, Cond.code yX8_append cX8_append 2 (none), Cond.instanceMethod yX11_end, Cond.selects yX11_end.cls yX11_end yX11_end, Cond.code yX11_end cX11_end 2 (some .int), Cond.instanceMethod yX11_row, Cond.selects yX11_row.cls yX11_row yX11_row, Cond.code yX11_row cX11_row 3 (some .int), Cond.methodLink RX11 194 yX11_takeFromRow, Cond.instanceMethod yX11_takeFromRow, Cond.code yX11_takeFromRow cX11_takeFromRow 6 (some .boolean), Cond.instanceMethod yX11_blurred, Cond.selects yX11_blurred.cls yX11_blurred yX11_blurred, Cond.code yX11_blurred cX11_blurred 1 (some .int), Cond.instanceMethod yX11_book, Cond.selects yX11_book.cls yX11_book yX11_book, Cond.code yX11_book cX11_book 2 (some .int), Cond.methodLink RX11 197 yX4_copyFrom, Cond.instanceMethod yX4_copyFrom, Cond.selects yX4_copyFrom.cls yX4_copyFrom yX4_copyFrom, Cond.code yX4_copyFrom cX4_copyFrom 2 (none), Cond.methodLink RX11 201 yX1_readOnto, Cond.instanceMethod yX1_readOnto, Cond.selects yX1_readOnto.cls yX1_readOnto yX1_readOnto, Cond.code yX1_readOnto cX1_readOnto 4 (some .int), Cond.methodLink RX1 22 yX1_advance, Cond.instanceMethod yX1_advance, Cond.code yX1_advance cX1_advance 2 (none), Cond.methodLink RX1 139 yX1_familyOf, Cond.static yX1_familyOf, Cond.code yX1_familyOf cX1_familyOf 1 (some .int), Cond.methodLink RX1 27 yX1_take] := by exact rfl
set_option maxRecDepth 16384 in
theorem pk_9 : pick lw_tbl [608, 0, 0, 1, 0, 0, 9, 37, 1, 0, 0, 1, 0, 0, 1, 0, 0, 0, 0, 0, 4, 1, 0, 1, 1, 0, 2, 1, 0, 0, 4, 1, 1, 0, 2, 0, 0, 3, 0, 0] = [Cond.instanceMethod yX1_take, Cond.code yX1_take cX1_take 2 (some .boolean), Cond.methodLink RX1 121 yX1_stands, Cond.instanceMethod yX1_stands, Cond.code yX1_stands cX1_stands 3 (some .boolean), Cond.methodLink RX1 124 yJ0_length_8abf5, Cond.methodLink RX1 131 yJ0_charAt_5068e, Cond.methodLink RX1 31 yX1_readWeeks, Cond.instanceMethod yX1_readWeeks, Cond.code yX1_readWeeks cX1_readWeeks 7 (some .boolean), Cond.methodLink RX1 53 yX1_takeNumber, Cond.instanceMethod yX1_takeNumber, Cond.code yX1_takeNumber cX1_takeNumber 4 (some .int), Cond.methodLink RX1 72 yX1_value, Cond.instanceMethod yX1_value, Cond.code yX1_value cX1_value 3 (some .int), Cond.methodLink RX1 143 yJ9_min_7cf53, Cond.static yJ9_min_7cf53, Cond.code yJ9_min_7cf53 cJ9_min_7cf53 2 (some .int), Cond.methodLinkNest RX1 135 yX11_within "WeekFoot", Cond.methodLink RX1 37 yX1_readThing, Cond.instanceMethod yX1_readThing, Cond.code yX1_readThing cX1_readThing 4 (some .boolean), Cond.methodLink RX1 90 yX1_readCut, Cond.instanceMethod yX1_readCut, Cond.code yX1_readCut cX1_readCut 4 (some .boolean), Cond.methodLink RX1 94 yX1_readMeasure, Cond.instanceMethod yX1_readMeasure, Cond.code yX1_readMeasure cX1_readMeasure 6 (some .boolean), Cond.methodLink RX1 106 yX4_hasRoom, Cond.methodLink RX1 117 yX4_addEntry, Cond.methodLink RX1 40 yX1_readShorter, Cond.instanceMethod yX1_readShorter, Cond.code yX1_readShorter cX1_readShorter 5 (some .boolean), Cond.methodLink RX1 76 yX4_isShorter, Cond.methodLink RX1 80 yX4_hasRoomForShorter, Cond.methodLink RX1 84 yX4_addShorter, Cond.instanceMethod yX11_fault, Cond.selects yX11_fault.cls yX11_fault yX11_fault, Cond.code yX11_fault cX11_fault 1 (some .int)] := by exact rfl
set_option maxRecDepth 16384 in
theorem pk_10 : pick lw_tbl [720, 0, 0, 0, 1, 0, 0, 0, 0, 0, 0, 1, 0, 0, 0, 0, 0, 0, 0, 0, 1, 0, 0, 0, 0, 0, 0, 0, 0, 0, 0, 0, 0, 0, 0, 0, 1, 0, 0, 0] = [Cond.instanceMethod yX11_fits, Cond.selects yX11_fits.cls yX11_fits yX11_fits, Cond.code yX11_fits cX11_fits 1 (some .int), Cond.methodLink RX11 208 yX11_canBe, Cond.instanceMethod yX11_canBe, Cond.code yX11_canBe cX11_canBe 1 (some .boolean), Cond.methodLink RX11 343 yX9_canBe, Cond.instanceMethod yX9_canBe, Cond.selects yX9_canBe.cls yX9_canBe yX9_canBe, Cond.code yX9_canBe cX9_canBe 4 (some .boolean), Cond.methodLink RX9 36 yX9_forget, Cond.instanceMethod yX9_forget, Cond.code yX9_forget cX9_forget 2 (none), Cond.methodLink RX9 83 yJ7_fill_53178, Cond.methodLink RX9 89 yX2_clear, Cond.instanceMethod yX2_clear, Cond.selects yX2_clear.cls yX2_clear yX2_clear, Cond.code yX2_clear cX2_clear 1 (none), Cond.methodLinkNest RX9 45 yX11_hasBit "WeekFoot", Cond.methodLink RX9 49 yX9_tie, Cond.instanceMethod yX9_tie, Cond.code yX9_tie cX9_tie 5 (none), Cond.methodLink RX9 92 yX4_keeperOf, Cond.instanceMethod yX4_keeperOf, Cond.selects yX4_keeperOf.cls yX4_keeperOf yX4_keeperOf, Cond.code yX4_keeperOf cX4_keeperOf 2 (some .int), Cond.methodLink RX9 96 yX4_lengthOf, Cond.methodLink RX9 99 yX4_endHalves, Cond.instanceMethod yX4_endHalves, Cond.selects yX4_endHalves.cls yX4_endHalves yX4_endHalves, Cond.code yX4_endHalves cX4_endHalves 2 (some .int), Cond.methodLink RX4 81 yX4_leastHalves, Cond.instanceMethod yX4_leastHalves, Cond.selects yX4_leastHalves.cls yX4_leastHalves yX4_leastHalves, Cond.code yX4_leastHalves cX4_leastHalves 2 (some .int), Cond.methodLink RX9 105 yX9_lower, Cond.instanceMethod yX9_lower, Cond.code yX9_lower cX9_lower 4 (none), Cond.methodLink RX9 109 yX4_leastHalves, Cond.methodLink RX9 112 yJ9_max_7cf53] := by exact rfl
set_option maxRecDepth 16384 in
theorem pk_11 : pick lw_tbl [764, 1, 0, 0, 1, 0, 0, 0, 0, 0, 0, 0, 0, 0, 0, 1, 0, 0, 0, 0, 0, 0, 1, 0, 0, 0, 1, 0, 0, 0, 0, 0, 1, 0, 0, 0, 1, 0, 0, 0] = [Cond.methodLink RX9 56 yX9_tieCut, Cond.instanceMethod yX9_tieCut, Cond.code yX9_tieCut cX9_tieCut 5 (none), Cond.methodLink RX9 60 yX9_stepOver, Cond.instanceMethod yX9_stepOver, Cond.code yX9_stepOver cX9_stepOver 5 (none), Cond.methodLink RX9 66 yX2_lessen, Cond.instanceMethod yX2_lessen, Cond.selects yX2_lessen.cls yX2_lessen yX2_lessen, Cond.code yX2_lessen cX2_lessen 10 (none), Cond.methodLink RX2 20 yX2_put, Cond.instanceMethod yX2_put, Cond.selects yX2_put.cls yX2_put yX2_put, Cond.code yX2_put cX2_put 6 (none), Cond.methodLink RX9 72 yX9_eachFootHolds, Cond.instanceMethod yX9_eachFootHolds, Cond.code yX9_eachFootHolds cX9_eachFootHolds 2 (some .boolean), Cond.methodLink RX9 118 yX2_isBelowOne, Cond.instanceMethod yX2_isBelowOne, Cond.selects yX2_isBelowOne.cls yX2_isBelowOne yX2_isBelowOne, Cond.code yX2_isBelowOne cX2_isBelowOne 1 (some .boolean), Cond.methodLink RX9 76 yX9_goOn, Cond.instanceMethod yX9_goOn, Cond.code yX9_goOn cX9_goOn 9 (none), Cond.methodLink RX9 125 yX2_put, Cond.methodLink RX9 80 yX9_feetHoldTogether, Cond.instanceMethod yX9_feetHoldTogether, Cond.code yX9_feetHoldTogether cX9_feetHoldTogether 4 (some .boolean), Cond.methodLink RX9 121 yX2_contradicts, Cond.instanceMethod yX2_contradicts, Cond.selects yX2_contradicts.cls yX2_contradicts yX2_contradicts, Cond.code yX2_contradicts cX2_contradicts 6 (some .boolean), Cond.instanceMethod yX11_between, Cond.selects yX11_between.cls yX11_between yX11_between, Cond.code yX11_between cX11_between 4 (some .int), Cond.methodLink RX11 211 yX11_compare, Cond.instanceMethod yX11_compare, Cond.code yX11_compare cX11_compare 3 (some .boolean), Cond.methodLink RX11 329 yX4_isThere, Cond.instanceMethod yX4_isThere] := by exact rfl
set_option maxRecDepth 16384 in
theorem pk_12 : pick lw_tbl [811, 0, 0, 0, 0, 0, 0, 0, 0, 0, 0, 0, 1, 0, 0, 1, 0, 0, 1, 0, 0, 0, 0, 0, 0, 0, 0, 0, 0, 0, 0, 0, 0, 0, 0, 0, 0, 0, 0, 0] = [Cond.selects yX4_isThere.cls yX4_isThere yX4_isThere, Cond.code yX4_isThere cX4_isThere 3 (some .boolean), Cond.methodLinkNest RX4 73 yX11_within "WeekFoot", Cond.methodLink RX11 427 yX7_measure, Cond.instanceMethod yX7_measure, Cond.selects yX7_measure.cls yX7_measure yX7_measure, Cond.code yX7_measure cX7_measure 4 (none), Cond.methodLink RX7 21 yX9_limit, Cond.instanceMethod yX9_limit, Cond.selects yX9_limit.cls yX9_limit yX9_limit, Cond.code yX9_limit cX9_limit 6 (none), Cond.methodLink RX9 138 yX9_limitBy, Cond.instanceMethod yX9_limitBy, Cond.code yX9_limitBy cX9_limitBy 13 (none), Cond.methodLink RX9 142 yX9_highOf, Cond.instanceMethod yX9_highOf, Cond.code yX9_highOf cX9_highOf 3 (some .int), Cond.methodLink RX9 145 yX9_lowOf, Cond.instanceMethod yX9_lowOf, Cond.code yX9_lowOf cX9_lowOf 3 (some .int), Cond.methodLink RX9 148 yX9_halvesIn, Cond.static yX9_halvesIn, Cond.code yX9_halvesIn cX9_halvesIn 2 (some .int), Cond.methodLink RX11 214 yX7_leastMillionths, Cond.instanceMethod yX7_leastMillionths, Cond.selects yX7_leastMillionths.cls yX7_leastMillionths yX7_leastMillionths, Cond.code yX7_leastMillionths cX7_leastMillionths 1 (some .long), Cond.constantLong RX7 27 (Int64.ofInt (1000000)), Cond.methodLinkNest RX7 36 yX11_quotient "WeekFoot", Cond.static yX11_quotient, Cond.code yX11_quotient cX11_quotient 4 (some .long), Cond.constantLong RX11 218 (Int64.ofInt (2000000000)), Cond.methodLink RX11 220 yX11_atMost, Cond.static yX11_atMost, Cond.code yX11_atMost cX11_atMost 4 (some .int), Cond.methodLink RX11 438 yJ9_min_f86c9, Cond.static yJ9_min_f86c9, Cond.code yJ9_min_f86c9 cJ9_min_f86c9 4 (some .long), Cond.methodLink RX11 224 yX7_greatestMillionths, Cond.instanceMethod yX7_greatestMillionths] := by exact rfl
set_option maxRecDepth 16384 in
theorem pk_13 : pick lw_tbl [854, 0, 0, 1, 0, 0, 0, 0, 0, 0, 0, 1, 0, 0, 0, 1, 0, 0, 1, 0, 0, 0, 0, 0, 0, 0, 0, 0, 0, 0, 1, 0, 0, 0, 0, 0, 0, 0, 0, 0] = [Cond.selects yX7_greatestMillionths.cls yX7_greatestMillionths yX7_greatestMillionths, Cond.code yX7_greatestMillionths cX7_greatestMillionths 1 (some .long), Cond.constantLong RX7 40 (Int64.ofInt (-1)), Cond.instanceMethod yX11_sure, Cond.selects yX11_sure.cls yX11_sure yX11_sure, Cond.code yX11_sure cX11_sure 3 (some .int), Cond.methodLink RX11 240 yX7_isAlways, Cond.instanceMethod yX7_isAlways, Cond.selects yX7_isAlways.cls yX7_isAlways yX7_isAlways, Cond.code yX7_isAlways cX7_isAlways 3 (some .boolean), Cond.methodLink RX11 244 yX2_isBelowOne, Cond.instanceMethod yX11_feet, Cond.selects yX11_feet.cls yX11_feet yX11_feet, Cond.code yX11_feet cX11_feet 4 (some .int), Cond.methodLink RX11 247 yX11_compareToFoot, Cond.instanceMethod yX11_compareToFoot, Cond.code yX11_compareToFoot cX11_compareToFoot 3 (some .boolean), Cond.methodLink RX11 278 yX11_isMeasured, Cond.instanceMethod yX11_isMeasured, Cond.code yX11_isMeasured cX11_isMeasured 2 (some .boolean), Cond.methodLink RX11 250 yX7_leastNumber, Cond.instanceMethod yX7_leastNumber, Cond.selects yX7_leastNumber.cls yX7_leastNumber yX7_leastNumber, Cond.code yX7_leastNumber cX7_leastNumber 5 (some .long), Cond.constantLong RX7 42 (Int64.ofInt (2)), Cond.methodLink RX11 254 yX7_greatestNumber, Cond.instanceMethod yX7_greatestNumber, Cond.selects yX7_greatestNumber.cls yX7_greatestNumber yX7_greatestNumber, Cond.code yX7_greatestNumber cX7_greatestNumber 8 (some .long), Cond.constantLong RX11 257 (Int64.ofInt (2000)), Cond.instanceMethod yX11_part, Cond.selects yX11_part.cls yX11_part yX11_part, Cond.code yX11_part cX11_part 5 (some .long), Cond.constantLong RX11 259 (Int64.ofInt (-2)), Cond.methodLink RX11 261 yX7_isTheSame, Cond.instanceMethod yX7_isTheSame, Cond.selects yX7_isTheSame.cls yX7_isTheSame yX7_isTheSame, Cond.code yX7_isTheSame cX7_isTheSame 1 (some .boolean), Cond.methodLink RX11 271 yX11_commonDivisor, Cond.static yX11_commonDivisor] := by exact rfl
set_option maxRecDepth 16384 in
theorem pk_14 : pick lw_tbl [899, 0, 1, 0, 0, 0, 0, 0, 0, 0, 1, 0, 0, 0, 0, 0, 0, 0, 0, 0, 0, 0, 0, 0, 0, 0, 0, 0, 0, 0, 0, 0, 1, 0, 0, 0, 0, 0, 0, 0] = [Cond.code yX11_commonDivisor cX11_commonDivisor 11 (some .long), Cond.methodLink RX11 275 yX11_quotient, Cond.instanceMethod yX11_lay, Cond.selects yX11_lay.cls yX11_lay yX11_lay, Cond.code yX11_lay cX11_lay 7 (some .int), Cond.methodLink RX11 281 yX10_clear, Cond.instanceMethod yX10_clear, Cond.selects yX10_clear.cls yX10_clear yX10_clear, Cond.code yX10_clear cX10_clear 2 (none), Cond.methodLink RX11 284 yX11_addFeet, Cond.instanceMethod yX11_addFeet, Cond.code yX11_addFeet cX11_addFeet 4 (none), Cond.methodLink RX11 431 yX10_add, Cond.instanceMethod yX10_add, Cond.selects yX10_add.cls yX10_add yX10_add, Cond.code yX10_add cX10_add 6 (none), Cond.methodLink RX11 288 yX10_sum, Cond.instanceMethod yX10_sum, Cond.selects yX10_sum.cls yX10_sum yX10_sum, Cond.code yX10_sum cX10_sum 13 (some .long), Cond.constantLong RX10 29 (Int64.ofInt (-1)), Cond.methodLinkNest RX10 31 yX11_quotient "WeekFoot", Cond.methodLinkNest RX10 35 yX11_remainder "WeekFoot", Cond.static yX11_remainder, Cond.code yX11_remainder cX11_remainder 4 (some .long), Cond.methodLinkNest RX10 38 yX11_compareFractions "WeekFoot", Cond.static yX11_compareFractions, Cond.code yX11_compareFractions cX11_compareFractions 23 (some .int), Cond.methodLink RX11 443 yJ13_compare_74951, Cond.static yJ13_compare_74951, Cond.code yJ13_compare_74951 cJ13_compare_74951 4 (some .int), Cond.constantLong RX11 291 (Int64.ofInt (6000)), Cond.instanceMethod yX11_area, Cond.selects yX11_area.cls yX11_area yX11_area, Cond.code yX11_area cX11_area 6 (some .int), Cond.methodLink RX11 293 yX10_product, Cond.instanceMethod yX10_product, Cond.selects yX10_product.cls yX10_product yX10_product, Cond.code yX10_product cX10_product 7 (some .long), Cond.constantLong RX11 296 (Int64.ofInt (4000000))] := by exact rfl
set_option maxRecDepth 16384 in
theorem pk_15 : pick lw_tbl [943, 0, 0, 0, 0, 0, 0, 0, 0, 0, 0, 0, 0, 0, 0, 0, 0, 0, 0, 0, 0, 0, 0, 0, 0, 0, 0, 0, 0, 1, 0, 0, 0, 0, 0, 0, 0, 0, 0, 1] = [Cond.instanceMethod yX11_would, Cond.selects yX11_would.cls yX11_would yX11_would, Cond.code yX11_would cX11_would 5 (some .int), Cond.methodLink RX11 304 yX7_allows, Cond.instanceMethod yX7_allows, Cond.selects yX7_allows.cls yX7_allows yX7_allows, Cond.code yX7_allows cX7_allows 3 (some .boolean), Cond.methodLink RX7 75 yX7_firstNumber, Cond.instanceMethod yX7_firstNumber, Cond.selects yX7_firstNumber.cls yX7_firstNumber yX7_firstNumber, Cond.code yX7_firstNumber cX7_firstNumber 2 (some .int), Cond.constantLong RX7 48 (Int64.ofInt (100)), Cond.methodLink RX7 50 yX7_leastNumber, Cond.methodLink RX7 54 yJ9_max_f86c9, Cond.static yJ9_max_f86c9, Cond.code yJ9_max_f86c9 cJ9_max_f86c9 4 (some .long), Cond.methodLink RX7 59 yJ9_min_f86c9, Cond.methodLink RX7 71 yX7_lastNumber, Cond.instanceMethod yX7_lastNumber, Cond.selects yX7_lastNumber.cls yX7_lastNumber yX7_lastNumber, Cond.code yX7_lastNumber cX7_lastNumber 2 (some .int), Cond.methodLink RX7 62 yX7_greatestNumber, Cond.constantLong RX7 65 (Int64.ofInt (99)), Cond.methodLinkNest RX7 67 yX11_atMost "WeekFoot", Cond.methodLink RX11 307 yX7_forces, Cond.instanceMethod yX7_forces, Cond.selects yX7_forces.cls yX7_forces yX7_forces, Cond.code yX7_forces cX7_forces 3 (some .boolean), Cond.methodLink RX7 81 yX7_isAlways, Cond.instanceMethod yX11_numbers, Cond.selects yX11_numbers.cls yX11_numbers yX11_numbers, Cond.code yX11_numbers cX11_numbers 6 (some .int), Cond.methodLink RX11 310 yX7_manyNumbers, Cond.instanceMethod yX7_manyNumbers, Cond.selects yX7_manyNumbers.cls yX7_manyNumbers yX7_manyNumbers, Cond.code yX7_manyNumbers cX7_manyNumbers 2 (some .int), Cond.methodLink RX7 78 yJ9_max_7cf53, Cond.methodLink RX11 313 yX7_firstNumber, Cond.methodLink RX11 316 yX7_lastNumber, Cond.instanceMethod yX11_ask] := by exact rfl
set_option maxRecDepth 16384 in
theorem pk_16 : pick lw_tbl [985, 0, 0, 1, 0, 1, 0, 0, 0, 1, 0, 0, 0, 0, 0, 0, 0, 1, 0, 0, 0, 0, 0, 0, 0, 0, 0, 1, 0, 0, 0, 0, 0, 0, 0, 0, 1, 0, 0, 0] = [Cond.selects yX11_ask.cls yX11_ask yX11_ask, Cond.code yX11_ask cX11_ask 6 (some .int), Cond.methodLink RX11 319 yX11_manyWholes, Cond.instanceMethod yX11_manyWholes, Cond.code yX11_manyWholes cX11_manyWholes 3 (some .int), Cond.instanceMethod yX11_dates, Cond.selects yX11_dates.cls yX11_dates yX11_dates, Cond.code yX11_dates cX11_dates 8 (some .int), Cond.methodLink RX11 323 yX11_couldBeTold, Cond.instanceMethod yX11_couldBeTold, Cond.code yX11_couldBeTold cX11_couldBeTold 6 (some .boolean), Cond.methodLink RX11 409 yX4_lengthIn, Cond.methodLink RX11 326 yX11_ofWeeks, Cond.static yX11_ofWeeks, Cond.code yX11_ofWeeks cX11_ofWeeks 4 (some .int), Cond.methodLink RX11 415 yJ6_bitCount_0f7a4, Cond.methodLink RX11 435 yX11_hasBit, Cond.instanceMethod yX11_joined, Cond.selects yX11_joined.cls yX11_joined yX11_joined, Cond.code yX11_joined cX11_joined 3 (some .int), Cond.methodLink RX11 332 yX0_bind, Cond.instanceMethod yX0_bind, Cond.selects yX0_bind.cls yX0_bind yX0_bind, Cond.code yX0_bind cX0_bind 4 (none), Cond.methodLink RX0 21 yX4_keeperOf, Cond.methodLink RX0 25 yX4_lengthOf, Cond.methodLink RX0 28 yX0_unite, Cond.instanceMethod yX0_unite, Cond.code yX0_unite cX0_unite 6 (none), Cond.methodLink RX0 42 yJ9_min_7cf53, Cond.methodLink RX0 48 yJ9_max_7cf53, Cond.methodLinkNest RX0 35 yX11_hasBit "WeekFoot", Cond.methodLink RX11 335 yX0_areTogether, Cond.instanceMethod yX0_areTogether, Cond.selects yX0_areTogether.cls yX0_areTogether yX0_areTogether, Cond.code yX0_areTogether cX0_areTogether 3 (some .boolean), Cond.instanceMethod yX11_groups, Cond.selects yX11_groups.cls yX11_groups yX11_groups, Cond.code yX11_groups cX11_groups 2 (some .int), Cond.methodLink RX11 338 yX0_greatest] := by exact rfl
set_option maxRecDepth 16384 in
theorem pk_17 : pick lw_tbl [1031, 0, 0, 0, 1, 0, 0, 0, 0, 0, 0, 1, 0, 0, 0, 0, 0, 0, 0, 1, 0, 0, 0, 0, 0, 0, 0, 0, 0, 1, 0, 0, 0, 1, 0, 0, 0, 0, 0, 0] = [Cond.instanceMethod yX0_greatest, Cond.selects yX0_greatest.cls yX0_greatest yX0_greatest, Cond.code yX0_greatest cX0_greatest 4 (some .int), Cond.methodLink RX0 55 yX0_sizeOf, Cond.instanceMethod yX0_sizeOf, Cond.code yX0_sizeOf cX0_sizeOf 5 (some .int), Cond.methodLink RX0 51 yX4_isThere, Cond.methodLink RX11 340 yX0_many, Cond.instanceMethod yX0_many, Cond.selects yX0_many.cls yX0_many yX0_many, Cond.code yX0_many cX0_many 4 (some .int), Cond.instanceMethod yX11_core, Cond.selects yX11_core.cls yX11_core yX11_core, Cond.code yX11_core cX11_core 1 (some .int), Cond.methodLink RX11 349 yX3_leaveOut, Cond.instanceMethod yX3_leaveOut, Cond.selects yX3_leaveOut.cls yX3_leaveOut yX3_leaveOut, Cond.code yX3_leaveOut cX3_leaveOut 6 (some .int), Cond.methodLink RX3 15 yX9_canBe, Cond.instanceMethod yX11_wrong, Cond.selects yX11_wrong.cls yX11_wrong yX11_wrong, Cond.code yX11_wrong cX11_wrong 2 (some .int), Cond.methodLink RX11 353 yX3_search, Cond.instanceMethod yX3_search, Cond.selects yX3_search.cls yX3_search yX3_search, Cond.code yX3_search cX3_search 7 (some .boolean), Cond.methodLink RX3 36 yX3_leaveOut, Cond.methodLinkNest RX3 40 yX11_hasBit "WeekFoot", Cond.methodLink RX3 44 yX3_strike, Cond.instanceMethod yX3_strike, Cond.code yX3_strike cX3_strike 3 (none), Cond.methodLink RX3 52 yJ9_min_7cf53, Cond.methodLink RX3 48 yX4_isCounting, Cond.instanceMethod yX11_whose, Cond.selects yX11_whose.cls yX11_whose yX11_whose, Cond.code yX11_whose cX11_whose 2 (some .int), Cond.methodLink RX11 366 yX6_seek, Cond.instanceMethod yX6_seek, Cond.selects yX6_seek.cls yX6_seek yX6_seek, Cond.code yX6_seek cX6_seek 5 (some .boolean)] := by exact rfl
set_option maxRecDepth 16384 in
theorem pk_18 : pick lw_tbl [1076, 0, 1, 0, 0, 0, 0, 0, 0, 0, 0, 0, 0, 1, 0, 0, 0, 0, 0, 0, 1, 0, 0, 0, 0, 0, 1, 0, 0, 0, 1, 0, 0, 1, 0, 0, 1, 0, 0, 0] = [Cond.methodLink RX6 26 yJ7_fill_53178, Cond.methodLink RX6 32 yX6_gather, Cond.instanceMethod yX6_gather, Cond.code yX6_gather cX6_gather 3 (some .boolean), Cond.methodLink RX6 61 yX6_hasEntry, Cond.static yX6_hasEntry, Cond.code yX6_hasEntry cX6_hasEntry 3 (some .boolean), Cond.methodLink RX6 70 yX4_isCounting, Cond.methodLink RX6 44 yX6_keeperBy, Cond.static yX6_keeperBy, Cond.code yX6_keeperBy cX6_keeperBy 2 (some .int), Cond.methodLink RX6 51 yX9_canBe, Cond.methodLink RX6 57 yX6_note, Cond.instanceMethod yX6_note, Cond.code yX6_note cX6_note 3 (none), Cond.methodLink RX11 370 yX6_onlyKeeper, Cond.instanceMethod yX6_onlyKeeper, Cond.selects yX6_onlyKeeper.cls yX6_onlyKeeper yX6_onlyKeeper, Cond.code yX6_onlyKeeper cX6_onlyKeeper 3 (some .int), Cond.methodLink RX6 74 yX6_placeOf, Cond.instanceMethod yX6_placeOf, Cond.code yX6_placeOf cX6_placeOf 3 (some .int), Cond.methodLink RX6 78 yX6_waysWith, Cond.instanceMethod yX6_waysWith, Cond.selects yX6_waysWith.cls yX6_waysWith yX6_waysWith, Cond.code yX6_waysWith cX6_waysWith 4 (some .int), Cond.instanceMethod yX11_could, Cond.selects yX11_could.cls yX11_could yX11_could, Cond.code yX11_could cX11_could 3 (some .int), Cond.methodLink RX11 373 yX6_waysWith, Cond.instanceMethod yX11_when, Cond.selects yX11_when.cls yX11_when yX11_when, Cond.code yX11_when cX11_when 5 (some .int), Cond.instanceMethod yX11_tell, Cond.selects yX11_tell.cls yX11_tell yX11_tell, Cond.code yX11_tell cX11_tell 4 (some .int), Cond.instanceMethod yX11_says, Cond.selects yX11_says.cls yX11_says yX11_says, Cond.code yX11_says cX11_says 6 (some .int), Cond.constantLong RX11 379 (Int64.ofInt (100))] := by exact rfl
set_option maxRecDepth 16384 in
theorem pk_19 : pick lw_tbl [1123, 1, 0, 0, 0, 0, 0, 0, 0, 0, 0, 0, 0, 0, 0, 0, 0, 0, 0, 1, 0, 0, 0, 0, 0, 0, 0, 0, 0, 0, 0, 0, 0, 0, 0, 0, 0, 1, 0, 0] = [Cond.constantLong RX11 381 (Int64.ofInt (2)), Cond.instanceMethod yX11_judge, Cond.selects yX11_judge.cls yX11_judge yX11_judge, Cond.code yX11_judge cX11_judge 5 (some .int), Cond.methodLink RX11 383 yX4_isSoByWorld, Cond.instanceMethod yX4_isSoByWorld, Cond.selects yX4_isSoByWorld.cls yX4_isSoByWorld yX4_isSoByWorld, Cond.code yX4_isSoByWorld cX4_isSoByWorld 7 (some .boolean), Cond.methodLink RX4 88 yX4_keeperOf, Cond.methodLink RX4 91 yX4_lengthOf, Cond.methodLink RX4 94 yX4_endHalves, Cond.methodLink RX11 386 yX4_hasShortersByWorld, Cond.instanceMethod yX4_hasShortersByWorld, Cond.selects yX4_hasShortersByWorld.cls yX4_hasShortersByWorld yX4_hasShortersByWorld, Cond.code yX4_hasShortersByWorld cX4_hasShortersByWorld 4 (some .boolean), Cond.methodLink RX11 389 yX4_hasCutsByWorld, Cond.instanceMethod yX4_hasCutsByWorld, Cond.selects yX4_hasCutsByWorld.cls yX4_hasCutsByWorld yX4_hasCutsByWorld, Cond.code yX4_hasCutsByWorld cX4_hasCutsByWorld 2 (some .boolean), Cond.instanceMethod yX11_year, Cond.selects yX11_year.cls yX11_year yX11_year, Cond.code yX11_year cX11_year 4 (some .int), Cond.constant RX11 392 (Int32.ofInt (1000000)), Cond.methodLink RX11 393 yX5_draw, Cond.instanceMethod yX5_draw, Cond.selects yX5_draw.cls yX5_draw yX5_draw, Cond.code yX5_draw cX5_draw 4 (none), Cond.constant RX5 15 (Int32.ofInt (1000003)), Cond.methodLink RX11 396 yX5_bestTrade, Cond.instanceMethod yX5_bestTrade, Cond.selects yX5_bestTrade.cls yX5_bestTrade yX5_bestTrade, Cond.code yX5_bestTrade cX5_bestTrade 8 (some .int), Cond.methodLink RX5 27 yX4_wholeFeet, Cond.instanceMethod yX4_wholeFeet, Cond.selects yX4_wholeFeet.cls yX4_wholeFeet yX4_wholeFeet, Cond.code yX4_wholeFeet cX4_wholeFeet 3 (some .int), Cond.methodLinkNest RX4 84 yX11_quotient "WeekFoot", Cond.instanceMethod yX11_trade, Cond.selects yX11_trade.cls yX11_trade yX11_trade, Cond.code yX11_trade cX11_trade 2 (some .int)] := by exact rfl
set_option maxRecDepth 16384 in
theorem pk_20 : pick lw_tbl [1167, 0, 0, 0, 1, 0, 0, 1, 0, 0, 1, 0, 0, 0, 0, 0, 1, 0, 0, 6, 0, 0, 0, 0, 0, 0, 0, 0, 0, 0, 0, 0, 0, 0, 0, 0, 0, 0, 0, 0] = [Cond.instanceMethod yX11_told, Cond.selects yX11_told.cls yX11_told yX11_told, Cond.code yX11_told cX11_told 4 (some .int), Cond.methodLink RX11 412 yX4_wholeFeet, Cond.instanceMethod yX11_image, Cond.selects yX11_image.cls yX11_image yX11_image, Cond.code yX11_image cX11_image 2 (some .int), Cond.instanceMethod yX11_back, Cond.selects yX11_back.cls yX11_back yX11_back, Cond.code yX11_back cX11_back 2 (some .int), Cond.instanceMethod yX11_count, Cond.selects yX11_count.cls yX11_count yX11_count, Cond.code yX11_count cX11_count 2 (some .int), Cond.methodLink RX11 420 yX11_manyKnown, Cond.static yX11_manyKnown, Cond.code yX11_manyKnown cX11_manyKnown 3 (some .int), Cond.instanceMethod yX11_status, Cond.selects yX11_status.cls yX11_status yX11_status, Cond.code yX11_status cX11_status 1 (some .int), Cond.fieldLink RX12 133 (TX12 0).1 (TX12 0).2.1 (TX12 0).2.2.1, Cond.fieldLink RX12 136 (TX12 1).1 (TX12 1).2.1 (TX12 1).2.2.1, Cond.fieldLink RX12 7 (TX12 2).1 (TX12 2).2.1 (TX12 2).2.2.1, Cond.fieldLink RX12 13 (TX12 3).1 (TX12 3).2.1 (TX12 3).2.2.1, Cond.fieldLink RX12 16 (TX12 4).1 (TX12 4).2.1 (TX12 4).2.2.1, Cond.fieldLink RX12 19 (TX12 5).1 (TX12 5).2.1 (TX12 5).2.2.1, Cond.fieldLink RX12 204 (TX12 6).1 (TX12 6).2.1 (TX12 6).2.2.1, Cond.fieldLink RX12 23 (TX12 7).1 (TX12 7).2.1 (TX12 7).2.2.1, Cond.fieldLink RX12 201 (TX12 8).1 (TX12 8).2.1 (TX12 8).2.2.1, Cond.fieldLink RX12 221 (TX12 9).1 (TX12 9).2.1 (TX12 9).2.2.1, Cond.fieldLink RX12 211 (TX12 10).1 (TX12 10).2.1 (TX12 10).2.2.1, Cond.fieldLink RX12 234 (TX12 11).1 (TX12 11).2.1 (TX12 11).2.2.1, Cond.fieldLink RX12 224 (TX12 12).1 (TX12 12).2.1 (TX12 12).2.2.1, Cond.fieldLink RX12 26 (TX12 13).1 (TX12 13).2.1 (TX12 13).2.2.1, Cond.fieldLink RX12 214 (TX12 14).1 (TX12 14).2.1 (TX12 14).2.2.1, Cond.fieldLink RX12 30 (TX12 15).1 (TX12 15).2.1 (TX12 15).2.2.1, Cond.fieldLink RX12 251 (TX12 16).1 (TX12 16).2.1 (TX12 16).2.2.1, Cond.fieldLink RX12 282 (TX12 17).1 (TX12 17).2.1 (TX12 17).2.2.1, Cond.fieldLink RX12 277 (TX12 18).1 (TX12 18).2.1 (TX12 18).2.2.1, Cond.fieldLink RX12 33 (TX12 19).1 (TX12 19).2.1 (TX12 19).2.2.1, Cond.fieldLink RX12 37 (TX12 20).1 (TX12 20).2.1 (TX12 20).2.2.1] := by exact rfl
set_option maxRecDepth 16384 in
theorem pk_21 : pick lw_tbl [1217, 0, 0, 0, 0, 0, 0, 0, 0, 0, 0, 0, 0, 0, 0, 0, 0, 0, 0, 0, 0, 0, 0, 0, 0, 0, 0, 0, 0, 0, 0, 0, 0, 0, 0, 0, 0, 0, 0, 0] = [Cond.fieldLink RX12 333 (TX12 21).1 (TX12 21).2.1 (TX12 21).2.2.1, Cond.fieldLink RX12 40 (TX12 22).1 (TX12 22).2.1 (TX12 22).2.2.1, Cond.fieldLink RX12 43 (TX12 23).1 (TX12 23).2.1 (TX12 23).2.2.1, Cond.fieldLink RX12 46 (TX12 24).1 (TX12 24).2.1 (TX12 24).2.2.1, Cond.fieldLink RX12 49 (TX12 25).1 (TX12 25).2.1 (TX12 25).2.2.1, Cond.fieldLink RX12 52 (TX12 26).1 (TX12 26).2.1 (TX12 26).2.2.1, Cond.fieldLink RX12 55 (TX12 27).1 (TX12 27).2.1 (TX12 27).2.2.1, Cond.fieldLink RX12 58 (TX12 28).1 (TX12 28).2.1 (TX12 28).2.2.1, Cond.fieldLink RX12 61 (TX12 29).1 (TX12 29).2.1 (TX12 29).2.2.1, Cond.fieldLink RX12 64 (TX12 30).1 (TX12 30).2.1 (TX12 30).2.2.1, Cond.fieldLink RX12 67 (TX12 31).1 (TX12 31).2.1 (TX12 31).2.2.1, Cond.fieldLink RX12 70 (TX12 32).1 (TX12 32).2.1 (TX12 32).2.2.1, Cond.fieldLink RX12 73 (TX12 33).1 (TX12 33).2.1 (TX12 33).2.2.1, Cond.fieldLink RX12 76 (TX12 34).1 (TX12 34).2.1 (TX12 34).2.2.1, Cond.fieldLink RX12 79 (TX12 35).1 (TX12 35).2.1 (TX12 35).2.2.1, Cond.fieldLink RX12 82 (TX12 36).1 (TX12 36).2.1 (TX12 36).2.2.1, Cond.fieldLink RX12 85 (TX12 37).1 (TX12 37).2.1 (TX12 37).2.2.1, Cond.fieldLink RX12 88 (TX12 38).1 (TX12 38).2.1 (TX12 38).2.2.1, Cond.fieldLink RX12 91 (TX12 39).1 (TX12 39).2.1 (TX12 39).2.2.1, Cond.fieldLink RX12 94 (TX12 40).1 (TX12 40).2.1 (TX12 40).2.2.1, Cond.fieldLink RX12 97 (TX12 41).1 (TX12 41).2.1 (TX12 41).2.2.1, Cond.fieldLink RX12 100 (TX12 42).1 (TX12 42).2.1 (TX12 42).2.2.1, Cond.fieldLink RX12 103 (TX12 43).1 (TX12 43).2.1 (TX12 43).2.2.1, Cond.fieldLink RX12 409 (TX12 44).1 (TX12 44).2.1 (TX12 44).2.2.1, Cond.fieldLink RX12 415 (TX12 45).1 (TX12 45).2.1 (TX12 45).2.2.1, Cond.fieldLink RX12 412 (TX12 46).1 (TX12 46).2.1 (TX12 46).2.2.1, Cond.fieldLink RX12 418 (TX12 47).1 (TX12 47).2.1 (TX12 47).2.2.1, Cond.fieldLink RX12 106 (TX12 48).1 (TX12 48).2.1 (TX12 48).2.2.1, Cond.fieldLink RX12 109 (TX12 49).1 (TX12 49).2.1 (TX12 49).2.2.1, Cond.fieldLink RX12 112 (TX12 50).1 (TX12 50).2.1 (TX12 50).2.2.1, Cond.fieldLink RX12 115 (TX12 51).1 (TX12 51).2.1 (TX12 51).2.2.1, Cond.fieldLink RX12 118 (TX12 52).1 (TX12 52).2.1 (TX12 52).2.2.1, Cond.fieldLink RX12 121 (TX12 53).1 (TX12 53).2.1 (TX12 53).2.2.1, Cond.fieldLink RX12 459 (TX12 54).1 (TX12 54).2.1 (TX12 54).2.2.1, Cond.fieldLink RX12 462 (TX12 55).1 (TX12 55).2.1 (TX12 55).2.2.1, Cond.fieldLink RX12 124 (TX12 56).1 (TX12 56).2.1 (TX12 56).2.2.1, Cond.fieldLink RX12 127 (TX12 57).1 (TX12 57).2.1 (TX12 57).2.2.1, Cond.fieldLink RX12 487 (TX12 58).1 (TX12 58).2.1 (TX12 58).2.2.1, Cond.fieldLink RX12 130 (TX12 59).1 (TX12 59).2.1 (TX12 59).2.2.1, Cond.fieldLink RX12 512 (TX12 60).1 (TX12 60).2.1 (TX12 60).2.2.1] := by exact rfl
set_option maxRecDepth 16384 in
theorem pk_22 : pick lw_tbl [1257, 0, 128, 0, 0, 0, 0, 0, 0, 1, 0, 1, 0, 0, 1, 0, 0, 0, 0, 0, 0, 0, 0, 0, 1, 0, 0, 1, 0, 1, 0, 0, 0, 0, 0, 0, 1, 0, 0, 0] = [Cond.fieldLink RX12 515 (TX12 61).1 (TX12 61).2.1 (TX12 61).2.2.1, Cond.fieldLink RX12 518 (TX12 62).1 (TX12 62).2.1 (TX12 62).2.2.1, Cond.instanceMethod yX12_image, Cond.selects yX12_image.cls yX12_image yX12_image, Cond.code yX12_image cX12_image 3 (some .int), Cond.methodLink RX12 143 yX12_in, Cond.static yX12_in, Cond.code yX12_in cX12_in 6 (some .boolean), Cond.methodLink RX12 147 yX12_answer, Cond.instanceMethod yX12_answer, Cond.code yX12_answer cX12_answer 2 (some .int), Cond.instanceMethod yX12_back, Cond.selects yX12_back.cls yX12_back yX12_back, Cond.code yX12_back cX12_back 3 (some .int), Cond.instanceMethod yX12_week, Cond.selects yX12_week.cls yX12_week yX12_week, Cond.code yX12_week cX12_week 3 (some .int), Cond.methodLink RX12 156 yX12_isWeek, Cond.static yX12_isWeek, Cond.code yX12_isWeek cX12_isWeek 1 (some .boolean), Cond.constantLong RX12 154 (Int64.ofInt (31)), Cond.constantLong RX12 160 (Int64.ofInt (-1)), Cond.constantLong RX12 152 (Int64.ofInt (3)), Cond.methodLink RX12 162 yX12_change, Cond.instanceMethod yX12_change, Cond.code yX12_change cX12_change 4 (some .int), Cond.methodLink RX12 139 yX12_was, Cond.instanceMethod yX12_was, Cond.code yX12_was cX12_was 2 (some .int), Cond.instanceMethod yX12_cut, Cond.selects yX12_cut.cls yX12_cut yX12_cut, Cond.code yX12_cut cX12_cut 3 (some .int), Cond.methodLink RX12 166 yX12_isThing, Cond.static yX12_isThing, Cond.code yX12_isThing cX12_isThing 1 (some .boolean), Cond.constantLong RX12 150 (Int64.ofInt (5)), Cond.instanceMethod yX12_shorter, Cond.selects yX12_shorter.cls yX12_shorter yX12_shorter, Cond.code yX12_shorter cX12_shorter 3 (some .int), Cond.methodLink RX12 169 yX12_isKeeper] := by exact rfl
set_option maxRecDepth 16384 in
theorem pk_23 : pick lw_tbl [1432, 0, 0, 1, 0, 0, 1, 0, 1, 0, 0, 0, 0, 0, 0, 0, 0, 1, 0, 1, 0, 0, 0, 1, 0, 1, 0, 0, 0, 1, 0, 0, 1, 0, 1, 0, 0, 1, 0, 0] = [Cond.static yX12_isKeeper, Cond.code yX12_isKeeper cX12_isKeeper 1 (some .boolean), Cond.methodLink RX12 172 yX12_isShorter, Cond.instanceMethod yX12_isShorter, Cond.code yX12_isShorter cX12_isShorter 4 (some .boolean), Cond.methodLink RX12 176 yX12_addShorter, Cond.instanceMethod yX12_addShorter, Cond.code yX12_addShorter cX12_addShorter 3 (none), Cond.instanceMethod yX12_entry, Cond.selects yX12_entry.cls yX12_entry yX12_entry, Cond.code yX12_entry cX12_entry 5 (some .int), Cond.methodLink RX12 184 yX12_canEnter, Cond.static yX12_canEnter, Cond.code yX12_canEnter cX12_canEnter 4 (some .boolean), Cond.constantLong RX12 180 (Int64.ofInt (99)), Cond.constantLong RX12 182 (Int64.ofInt (2)), Cond.methodLink RX12 188 yX12_addEntry, Cond.instanceMethod yX12_addEntry, Cond.code yX12_addEntry cX12_addEntry 6 (none), Cond.instanceMethod yX12_counts, Cond.selects yX12_counts.cls yX12_counts yX12_counts, Cond.code yX12_counts cX12_counts 3 (some .int), Cond.methodLink RX12 192 yX12_isEntry, Cond.instanceMethod yX12_isEntry, Cond.code yX12_isEntry cX12_isEntry 2 (some .boolean), Cond.instanceMethod yX12_of, Cond.selects yX12_of.cls yX12_of yX12_of, Cond.code yX12_of cX12_of 3 (some .int), Cond.methodLink RX12 198 yX12_lengthOf, Cond.instanceMethod yX12_lengthOf, Cond.code yX12_lengthOf cX12_lengthOf 3 (some .int), Cond.methodLink RX12 195 yX12_ofEntry, Cond.instanceMethod yX12_ofEntry, Cond.code yX12_ofEntry cX12_ofEntry 3 (some .int), Cond.instanceMethod yX12_row, Cond.selects yX12_row.cls yX12_row yX12_row, Cond.code yX12_row cX12_row 5 (some .int), Cond.instanceMethod yX12_blurred, Cond.selects yX12_blurred.cls yX12_blurred yX12_blurred, Cond.code yX12_blurred cX12_blurred 1 (some .int)] := by exact rfl
set_option maxRecDepth 16384 in
theorem pk_24 : pick lw_tbl [1484, 0, 0, 0, 1, 0, 1, 0, 0, 1, 0, 0, 1, 0, 0, 0, 1, 0, 0, 1, 0, 0, 0, 0, 0, 0, 0, 0, 0, 0, 0, 0, 0, 1, 0, 0, 0, 1, 0, 0] = [Cond.instanceMethod yX12_feed, Cond.selects yX12_feed.cls yX12_feed yX12_feed, Cond.code yX12_feed cX12_feed 6 (some .int), Cond.methodLink RX12 207 yX12_four, Cond.instanceMethod yX12_four, Cond.code yX12_four cX12_four 3 (none), Cond.instanceMethod yX12_end, Cond.selects yX12_end.cls yX12_end yX12_end, Cond.code yX12_end cX12_end 2 (some .int), Cond.instanceMethod yX12_fault, Cond.selects yX12_fault.cls yX12_fault yX12_fault, Cond.code yX12_fault cX12_fault 1 (some .int), Cond.instanceMethod yX12_book, Cond.selects yX12_book.cls yX12_book yX12_book, Cond.code yX12_book cX12_book 3 (some .int), Cond.methodLink RX12 318 yX12_begin, Cond.instanceMethod yX12_begin, Cond.code yX12_begin cX12_begin 1 (none), Cond.methodLink RX12 218 yX12_next, Cond.instanceMethod yX12_next, Cond.code yX12_next cX12_next 1 (none), Cond.methodLink RX12 228 yX12_isSmall, Cond.static yX12_isSmall, Cond.code yX12_isSmall cX12_isSmall 1 (some .boolean), Cond.methodLink RX12 231 yX12_isDigit, Cond.static yX12_isDigit, Cond.code yX12_isDigit cX12_isDigit 1 (some .boolean), Cond.constantLong RX12 237 (Int64.ofInt (32)), Cond.constantLong RX12 239 (Int64.ofInt (96)), Cond.constantLong RX12 241 (Int64.ofInt (1000000)), Cond.constantLong RX12 243 (Int64.ofInt (10)), Cond.constantLong RX12 245 (Int64.ofInt (48)), Cond.methodLink RX12 321 yX12_readClause, Cond.instanceMethod yX12_readClause, Cond.code yX12_readClause cX12_readClause 1 (none), Cond.constantLong RX12 303 (Int64.ofInt (758955)), Cond.methodLink RX12 260 yX12_isWord, Cond.instanceMethod yX12_isWord, Cond.code yX12_isWord cX12_isWord 3 (some .boolean), Cond.methodLink RX12 305 yX12_readWeeks] := by exact rfl
set_option maxRecDepth 16384 in
theorem pk_25 : pick lw_tbl [1533, 0, 0, 1, 0, 0, 1, 0, 0, 0, 0, 0, 1, 0, 0, 0, 1, 0, 0, 0, 1, 0, 0, 0, 1, 0, 0, 0, 0, 0, 1, 0, 0, 0, 0, 0, 0, 1, 0, 0] = [Cond.instanceMethod yX12_readWeeks, Cond.code yX12_readWeeks cX12_readWeeks 3 (none), Cond.methodLink RX12 254 yX12_number, Cond.instanceMethod yX12_number, Cond.code yX12_number cX12_number 6 (some .int), Cond.methodLink RX12 247 yX12_must, Cond.instanceMethod yX12_must, Cond.code yX12_must cX12_must 2 (none), Cond.constantLong RX12 258 (Int64.ofInt (655)), Cond.constantLong RX12 264 (Int64.ofInt (89)), Cond.constantLong RX12 266 (Int64.ofInt (485571737)), Cond.methodLink RX12 268 yX12_act, Cond.instanceMethod yX12_act, Cond.code yX12_act cX12_act 7 (none), Cond.constantLong RX12 308 (Int64.ofInt (374522034)), Cond.methodLink RX12 310 yX12_readShorter, Cond.instanceMethod yX12_readShorter, Cond.code yX12_readShorter cX12_readShorter 4 (none), Cond.constantLong RX12 272 (Int64.ofInt (2273783)), Cond.methodLink RX12 274 yX12_isDrafted, Cond.instanceMethod yX12_isDrafted, Cond.code yX12_isDrafted cX12_isDrafted 5 (some .boolean), Cond.constantLong RX12 313 (Int64.ofInt (21243335)), Cond.methodLink RX12 315 yX12_readThing, Cond.instanceMethod yX12_readThing, Cond.code yX12_readThing cX12_readThing 2 (none), Cond.constantLong RX12 293 (Int64.ofInt (3764)), Cond.constantLong RX12 295 (Int64.ofInt (14866610)), Cond.constantLong RX12 280 (Int64.ofInt (302)), Cond.methodLink RX12 297 yX12_readMeasure, Cond.instanceMethod yX12_readMeasure, Cond.code yX12_readMeasure cX12_readMeasure 5 (none), Cond.constantLong RX12 285 (Int64.ofInt (307)), Cond.constantLong RX12 287 (Int64.ofInt (24395141)), Cond.constantLong RX12 289 (Int64.ofInt (263558)), Cond.constantLong RX12 291 (Int64.ofInt (6030452)), Cond.methodLink RX12 300 yX12_isSign, Cond.instanceMethod yX12_isSign, Cond.code yX12_isSign cX12_isSign 2 (some .boolean), Cond.methodLink RX12 324 yX12_doAct] := by exact rfl
set_option maxRecDepth 16384 in
theorem pk_26 : pick lw_tbl [1582, 0, 1, 0, 0, 0, 1, 0, 0, 1, 0, 0, 1, 0, 0, 1, 0, 0, 1, 0, 0, 0, 0, 0, 1, 0, 0, 1, 0, 0, 1, 0, 0, 1, 0, 0, 0, 0, 0, 0] = [Cond.instanceMethod yX12_doAct, Cond.code yX12_doAct cX12_doAct 3 (none), Cond.instanceMethod yX12_fits, Cond.selects yX12_fits.cls yX12_fits yX12_fits, Cond.code yX12_fits cX12_fits 1 (some .int), Cond.methodLink RX12 377 yX12_canBeNow, Cond.instanceMethod yX12_canBeNow, Cond.code yX12_canBeNow cX12_canBeNow 1 (some .boolean), Cond.methodLink RX12 367 yX12_asIs, Cond.instanceMethod yX12_asIs, Cond.code yX12_asIs cX12_asIs 2 (none), Cond.methodLink RX12 370 yX12_counting, Cond.instanceMethod yX12_counting, Cond.code yX12_counting cX12_counting 3 (some .int), Cond.methodLink RX12 374 yX12_canBe, Cond.instanceMethod yX12_canBe, Cond.code yX12_canBe cX12_canBe 6 (some .boolean), Cond.methodLink RX12 354 yX12_build, Cond.instanceMethod yX12_build, Cond.code yX12_build cX12_build 11 (none), Cond.methodLink RX12 336 yX12_is, Cond.static yX12_is, Cond.code yX12_is cX12_is 2 (some .boolean), Cond.methodLink RX12 339 yX12_edge, Cond.instanceMethod yX12_edge, Cond.code yX12_edge cX12_edge 6 (none), Cond.methodLink RX12 357 yX12_startAt, Cond.instanceMethod yX12_startAt, Cond.code yX12_startAt cX12_startAt 4 (none), Cond.methodLink RX12 360 yX12_round, Cond.instanceMethod yX12_round, Cond.code yX12_round cX12_round 9 (some .boolean), Cond.methodLink RX12 343 yX12_keep, Cond.instanceMethod yX12_keep, Cond.code yX12_keep cX12_keep 3 (none), Cond.methodLink RX12 346 yX12_times, Cond.static yX12_times, Cond.code yX12_times cX12_times 10 (none), Cond.constantLong RX12 327 (Int64.ofInt (100000000)), Cond.methodLink RX12 350 yX12_compare] := by exact rfl
set_option maxRecDepth 16384 in
theorem pk_27 : pick lw_tbl [1633, 0, 0, 0, 0, 0, 1, 0, 1, 0, 0, 0, 1, 0, 0, 1, 0, 0, 0, 0, 0, 1, 0, 0, 0, 0, 1, 0, 0, 0, 0, 1, 0, 0, 0, 1, 0, 1, 0, 0] = [Cond.instanceMethod yX12_compare, Cond.code yX12_compare cX12_compare 8 (some .int), Cond.methodLink RX12 329 yX12_product, Cond.static yX12_product, Cond.code yX12_product cX12_product 11 (none), Cond.methodLink RX12 364 yX12_isTight, Cond.instanceMethod yX12_isTight, Cond.code yX12_isTight cX12_isTight 2 (some .boolean), Cond.instanceMethod yX12_between, Cond.selects yX12_between.cls yX12_between yX12_between, Cond.code yX12_between cX12_between 6 (some .int), Cond.methodLink RX12 394 yX12_isAnswered, Cond.instanceMethod yX12_isAnswered, Cond.code yX12_isAnswered cX12_isAnswered 3 (some .boolean), Cond.methodLink RX12 391 yX12_isLength, Cond.instanceMethod yX12_isLength, Cond.code yX12_isLength cX12_isLength 2 (some .boolean), Cond.constantLong RX12 381 (Int64.ofInt (15)), Cond.constantLong RX12 383 (Int64.ofInt (6)), Cond.constantLong RX12 385 (Int64.ofInt (11)), Cond.methodLink RX12 397 yX12_goFrom, Cond.instanceMethod yX12_goFrom, Cond.code yX12_goFrom cX12_goFrom 3 (none), Cond.constant RX12 400 (Int32.ofInt (1000000)), Cond.constant RX12 401 (Int32.ofInt (2000000000)), Cond.methodLink RX12 402 yX12_share, Cond.instanceMethod yX12_share, Cond.code yX12_share cX12_share 13 (some .int), Cond.methodLink RX12 387 yX12_wide, Cond.static yX12_wide, Cond.code yX12_wide cX12_wide 10 (none), Cond.instanceMethod yX12_sure, Cond.selects yX12_sure.cls yX12_sure yX12_sure, Cond.code yX12_sure cX12_sure 5 (some .int), Cond.methodLink RX12 406 yX12_besideOne, Cond.instanceMethod yX12_besideOne, Cond.code yX12_besideOne cX12_besideOne 4 (some .int), Cond.instanceMethod yX12_feet, Cond.selects yX12_feet.cls yX12_feet yX12_feet, Cond.code yX12_feet cX12_feet 8 (some .int)] := by exact rfl
set_option maxRecDepth 16384 in
theorem pk_28 : pick lw_tbl [1683, 0, 0, 0, 1, 0, 0, 1, 0, 0, 1, 0, 0, 1, 0, 1, 0, 0, 0, 1, 0, 1, 0, 0, 1, 0, 0, 1, 0, 0, 0, 0, 0, 0, 0, 0, 0, 1, 0, 0] = [Cond.instanceMethod yX12_would, Cond.selects yX12_would.cls yX12_would yX12_would, Cond.code yX12_would cX12_would 5 (some .int), Cond.methodLink RX12 425 yX12_isAsked, Cond.instanceMethod yX12_isAsked, Cond.code yX12_isAsked cX12_isAsked 3 (some .boolean), Cond.methodLink RX12 428 yX12_findEnds, Cond.instanceMethod yX12_findEnds, Cond.code yX12_findEnds cX12_findEnds 5 (none), Cond.methodLink RX12 431 yX12_tells, Cond.instanceMethod yX12_tells, Cond.code yX12_tells cX12_tells 13 (some .int), Cond.methodLink RX12 421 yX12_beside, Cond.instanceMethod yX12_beside, Cond.code yX12_beside cX12_beside 5 (some .int), Cond.instanceMethod yX12_numbers, Cond.selects yX12_numbers.cls yX12_numbers yX12_numbers, Cond.code yX12_numbers cX12_numbers 8 (some .int), Cond.methodLink RX12 434 yX12_numbersOf, Cond.instanceMethod yX12_numbersOf, Cond.code yX12_numbersOf cX12_numbersOf 4 (some .int), Cond.instanceMethod yX12_ask, Cond.selects yX12_ask.cls yX12_ask yX12_ask, Cond.code yX12_ask cX12_ask 7 (some .int), Cond.instanceMethod yX12_dates, Cond.selects yX12_dates.cls yX12_dates yX12_dates, Cond.code yX12_dates cX12_dates 10 (some .int), Cond.instanceMethod yX12_part, Cond.selects yX12_part.cls yX12_part yX12_part, Cond.code yX12_part cX12_part 16 (some .long), Cond.constantLong RX12 437 (Int64.ofInt (-2)), Cond.methodLink RX12 439 yX12_whole, Cond.static yX12_whole, Cond.code yX12_whole cX12_whole 2 (some .long), Cond.methodLink RX12 443 yX12_common, Cond.static yX12_common, Cond.code yX12_common cX12_common 10 (some .long), Cond.instanceMethod yX12_lay, Cond.selects yX12_lay.cls yX12_lay yX12_lay, Cond.code yX12_lay cX12_lay 7 (some .int)] := by exact rfl
set_option maxRecDepth 16384 in
theorem pk_29 : pick lw_tbl [1733, 0, 0, 0, 1, 0, 0, 1, 0, 0, 1, 0, 0, 1, 0, 0, 1, 0, 0, 1, 0, 0, 0, 0, 1, 0, 0, 0, 1, 0, 0, 0, 1, 0, 1, 0, 0, 1, 0, 0] = [Cond.methodLink RX12 465 yX12_isGround, Cond.static yX12_isGround, Cond.code yX12_isGround cX12_isGround 1 (some .boolean), Cond.methodLink RX12 468 yX12_takeEnd, Cond.instanceMethod yX12_takeEnd, Cond.code yX12_takeEnd cX12_takeEnd 12 (none), Cond.methodLink RX12 472 yX12_triple, Cond.instanceMethod yX12_triple, Cond.code yX12_triple cX12_triple 9 (none), Cond.methodLink RX12 447 yX12_multiply, Cond.instanceMethod yX12_multiply, Cond.code yX12_multiply cX12_multiply 14 (none), Cond.methodLink RX12 476 yX12_addFactor, Cond.instanceMethod yX12_addFactor, Cond.code yX12_addFactor cX12_addFactor 6 (none), Cond.methodLink RX12 479 yX12_often, Cond.instanceMethod yX12_often, Cond.code yX12_often cX12_often 6 (some .int), Cond.methodLink RX12 451 yX12_copyTen, Cond.instanceMethod yX12_copyTen, Cond.code yX12_copyTen cX12_copyTen 3 (none), Cond.methodLink RX12 455 yX12_besideTen, Cond.static yX12_besideTen, Cond.code yX12_besideTen cX12_besideTen 3 (some .int), Cond.instanceMethod yX12_area, Cond.selects yX12_area.cls yX12_area yX12_area, Cond.code yX12_area cX12_area 6 (some .int), Cond.constant RX12 483 (Int32.ofInt (4000000)), Cond.instanceMethod yX12_joined, Cond.selects yX12_joined.cls yX12_joined yX12_joined, Cond.code yX12_joined cX12_joined 3 (some .int), Cond.methodLink RX12 484 yX12_findGroups, Cond.instanceMethod yX12_findGroups, Cond.code yX12_findGroups cX12_findGroups 6 (none), Cond.instanceMethod yX12_groups, Cond.selects yX12_groups.cls yX12_groups yX12_groups, Cond.code yX12_groups cX12_groups 7 (some .int), Cond.instanceMethod yX12_core, Cond.selects yX12_core.cls yX12_core yX12_core, Cond.code yX12_core cX12_core 3 (some .int)] := by exact rfl
set_option maxRecDepth 16384 in
theorem pk_30 : pick lw_tbl [1785, 0, 0, 1, 0, 0, 0, 1, 0, 0, 1, 0, 0, 1, 0, 1, 0, 0, 1, 0, 0, 1, 0, 0, 0, 1, 0, 0, 1, 0, 0, 0, 1, 0, 1, 0, 0, 0, 0, 0] = [Cond.instanceMethod yX12_wrong, Cond.selects yX12_wrong.cls yX12_wrong yX12_wrong, Cond.code yX12_wrong cX12_wrong 11 (some .int), Cond.instanceMethod yX12_whose, Cond.selects yX12_whose.cls yX12_whose yX12_whose, Cond.code yX12_whose cX12_whose 5 (some .int), Cond.methodLink RX12 490 yX12_findAsked, Cond.instanceMethod yX12_findAsked, Cond.code yX12_findAsked cX12_findAsked 4 (some .boolean), Cond.methodLink RX12 493 yX12_waysWith, Cond.instanceMethod yX12_waysWith, Cond.code yX12_waysWith cX12_waysWith 6 (some .int), Cond.methodLink RX12 496 yX12_whichOf, Cond.instanceMethod yX12_whichOf, Cond.code yX12_whichOf cX12_whichOf 4 (some .int), Cond.instanceMethod yX12_could, Cond.selects yX12_could.cls yX12_could yX12_could, Cond.code yX12_could cX12_could 4 (some .int), Cond.instanceMethod yX12_when, Cond.selects yX12_when.cls yX12_when yX12_when, Cond.code yX12_when cX12_when 7 (some .int), Cond.instanceMethod yX12_tell, Cond.selects yX12_tell.cls yX12_tell yX12_tell, Cond.code yX12_tell cX12_tell 3 (some .int), Cond.constantLong RX12 499 (Int64.ofInt (9999)), Cond.instanceMethod yX12_says, Cond.selects yX12_says.cls yX12_says yX12_says, Cond.code yX12_says cX12_says 6 (some .int), Cond.instanceMethod yX12_judge, Cond.selects yX12_judge.cls yX12_judge yX12_judge, Cond.code yX12_judge cX12_judge 6 (some .int), Cond.methodLink RX12 501 yX12_isSo, Cond.instanceMethod yX12_isSo, Cond.code yX12_isSo cX12_isSo 5 (some .boolean), Cond.instanceMethod yX12_year, Cond.selects yX12_year.cls yX12_year yX12_year, Cond.code yX12_year cX12_year 10 (some .int), Cond.constantLong RX12 504 (Int64.ofInt (1103)), Cond.constantLong RX12 506 (Int64.ofInt (12345)), Cond.constantLong RX12 508 (Int64.ofInt (1000003))] := by exact rfl
set_option maxRecDepth 16384 in
theorem pk_31 : pick lw_tbl [1836, 0, 1, 0, 1, 0, 0, 0, 1, 0, 0, 1, 0, 0, 0, 0, 0, 1, 0, 0] = [Cond.constantLong RX12 510 (Int64.ofInt (4)), Cond.methodLink RX12 521 yX12_feetOf, Cond.instanceMethod yX12_feetOf, Cond.code yX12_feetOf cX12_feetOf 3 (some .int), Cond.instanceMethod yX12_trade, Cond.selects yX12_trade.cls yX12_trade yX12_trade, Cond.code yX12_trade cX12_trade 2 (some .int), Cond.constantLong RX12 524 (Int64.ofInt (33)), Cond.instanceMethod yX12_told, Cond.selects yX12_told.cls yX12_told yX12_told, Cond.code yX12_told cX12_told 5 (some .int), Cond.instanceMethod yX12_count, Cond.selects yX12_count.cls yX12_count yX12_count, Cond.code yX12_count cX12_count 5 (some .int), Cond.methodLink RX12 526 yX12_bits, Cond.static yX12_bits, Cond.code yX12_bits cX12_bits 3 (some .int), Cond.instanceMethod yX12_status, Cond.selects yX12_status.cls yX12_status yX12_status, Cond.code yX12_status cX12_status 1 (some .int)] := by exact rfl
set_option maxRecDepth 16384 in
theorem pw_0 : pick lw_tbl [332] = u_ws RX0 TX0 1 := by exact rfl
theorem cf0 : m_cf 0 RX0 TX0 1 := ⟨rfl, fun w hw => List.mem_filter.mpr ⟨pick_mem _ _ _ (pw_0 ▸ hw), (by decide +kernel : ∀ w ∈ u_ws RX0 TX0 1, goodWord w = true) w hw⟩, tyX0_ok, nmX0⟩
set_option maxRecDepth 16384 in
theorem pw_1 : pick lw_tbl [219, 1, 1, 1] = u_ws RX1 TX1 4 := by exact rfl
theorem cf1 : m_cf 1 RX1 TX1 4 := ⟨rfl, fun w hw => List.mem_filter.mpr ⟨pick_mem _ _ _ (pw_1 ▸ hw), (by decide +kernel : ∀ w ∈ u_ws RX1 TX1 4, goodWord w = true) w hw⟩, tyX1_ok, nmX1⟩
set_option maxRecDepth 16384 in
theorem pw_2 : pick lw_tbl [259, 1, 1] = u_ws RX2 TX2 3 := by exact rfl
theorem cf2 : m_cf 2 RX2 TX2 3 := ⟨rfl, fun w hw => List.mem_filter.mpr ⟨pick_mem _ _ _ (pw_2 ▸ hw), (by decide +kernel : ∀ w ∈ u_ws RX2 TX2 3, goodWord w = true) w hw⟩, tyX2_ok, nmX2⟩
set_option maxRecDepth 16384 in
theorem pw_3 : pick lw_tbl [348, 1, 1, 1] = u_ws RX3 TX3 4 := by exact rfl
theorem cf3 : m_cf 3 RX3 TX3 4 := ⟨rfl, fun w hw => List.mem_filter.mpr ⟨pick_mem _ _ _ (pw_3 ▸ hw), (by decide +kernel : ∀ w ∈ u_ws RX3 TX3 4, goodWord w = true) w hw⟩, tyX3_ok, nmX3⟩
set_option maxRecDepth 16384 in
theorem pw_4 : pick lw_tbl [167, 1, 1, 1, 1, 1, 1, 1, 1, 1] = u_ws RX4 TX4 10 := by exact rfl
theorem cf4 : m_cf 4 RX4 TX4 10 := ⟨rfl, fun w hw => List.mem_filter.mpr ⟨pick_mem _ _ _ (pw_4 ▸ hw), (by decide +kernel : ∀ w ∈ u_ws RX4 TX4 10, goodWord w = true) w hw⟩, tyX4_ok, nmX4⟩
set_option maxRecDepth 16384 in
theorem pw_5 : pick lw_tbl [394, 1, 1, 1] = u_ws RX5 TX5 4 := by exact rfl
theorem cf5 : m_cf 5 RX5 TX5 4 := ⟨rfl, fun w hw => List.mem_filter.mpr ⟨pick_mem _ _ _ (pw_5 ▸ hw), (by decide +kernel : ∀ w ∈ u_ws RX5 TX5 4, goodWord w = true) w hw⟩, tyX5_ok, nmX5⟩
set_option maxRecDepth 16384 in
theorem pw_6 : pick lw_tbl [369, 1, 1, 1, 1] = u_ws RX6 TX6 5 := by exact rfl
theorem cf6 : m_cf 6 RX6 TX6 5 := ⟨rfl, fun w hw => List.mem_filter.mpr ⟨pick_mem _ _ _ (pw_6 ▸ hw), (by decide +kernel : ∀ w ∈ u_ws RX6 TX6 5, goodWord w = true) w hw⟩, tyX6_ok, nmX6⟩
set_option maxRecDepth 16384 in
theorem pw_7 : pick lw_tbl [297, 1] = u_ws RX7 TX7 2 := by exact rfl
theorem cf7 : m_cf 7 RX7 TX7 2 := ⟨rfl, fun w hw => List.mem_filter.mpr ⟨pick_mem _ _ _ (pw_7 ▸ hw), (by decide +kernel : ∀ w ∈ u_ws RX7 TX7 2, goodWord w = true) w hw⟩, tyX7_ok, nmX7⟩
set_option maxRecDepth 16384 in
theorem pw_8 : pick lw_tbl [202, 1] = u_ws RX8 TX8 2 := by exact rfl
theorem cf8 : m_cf 8 RX8 TX8 2 := ⟨rfl, fun w hw => List.mem_filter.mpr ⟨pick_mem _ _ _ (pw_8 ▸ hw), (by decide +kernel : ∀ w ∈ u_ws RX8 TX8 2, goodWord w = true) w hw⟩, tyX8_ok, nmX8⟩
set_option maxRecDepth 16384 in
theorem pw_9 : pick lw_tbl [272, 1, 1, 1, 1, 1] = u_ws RX9 TX9 6 := by exact rfl
theorem cf9 : m_cf 9 RX9 TX9 6 := ⟨rfl, fun w hw => List.mem_filter.mpr ⟨pick_mem _ _ _ (pw_9 ▸ hw), (by decide +kernel : ∀ w ∈ u_ws RX9 TX9 6, goodWord w = true) w hw⟩, tyX9_ok, nmX9⟩
set_option maxRecDepth 16384 in
theorem pw_10 : pick lw_tbl [313, 1, 1, 1, 1] = u_ws RX10 TX10 5 := by exact rfl
theorem cf10 : m_cf 10 RX10 TX10 5 := ⟨rfl, fun w hw => List.mem_filter.mpr ⟨pick_mem _ _ _ (pw_10 ▸ hw), (by decide +kernel : ∀ w ∈ u_ws RX10 TX10 5, goodWord w = true) w hw⟩, tyX10_ok, nmX10⟩
set_option maxRecDepth 16384 in
theorem pw_11 : pick lw_tbl [420, 1, 1, 1, 1, 1, 1, 1, 1, 1, 1, 1, 1, 1, 1, 1, 1] = u_ws RX11 TX11 17 := by exact rfl
theorem cf11 : m_cf 11 RX11 TX11 17 := ⟨rfl, fun w hw => List.mem_filter.mpr ⟨pick_mem _ _ _ (pw_11 ▸ hw), (by decide +kernel : ∀ w ∈ u_ws RX11 TX11 17, goodWord w = true) w hw⟩, tyX11_ok, nmX11⟩
set_option maxRecDepth 16384 in
theorem pw_12 : pick lw_tbl [1259, 1, 1, 1, 1, 1, 1, 1, 1, 1, 1, 1, 1, 1, 1, 1, 1, 1, 1, 1, 1, 1, 1, 1, 1, 1, 1, 1, 1, 1, 1, 1, 1, 1, 1, 1, 1, 1, 1, 1, 1, 1, 1, 1, 1, 1, 1, 1, 1, 1, 1, 1, 1, 1, 1, 1, 1, 1, 1, 1, 1, 1, 1] = u_ws RX12 TX12 63 := by exact rfl
theorem cf12 : m_cf 12 RX12 TX12 63 := ⟨rfl, fun w hw => List.mem_filter.mpr ⟨pick_mem _ _ _ (pw_12 ▸ hw), (by decide +kernel : ∀ w ∈ u_ws RX12 TX12 63, goodWord w = true) w hw⟩, tyX12_ok, nmX12⟩
theorem f_X4_9 : m_fl RX4 9 4 10 0 := ⟨_, _, cf4, by decide, m_inP pk_2 34 rfl rfl, _, rfl⟩
theorem f_X11_120 : m_fl RX11 120 4 10 0 := ⟨_, _, cf4, by decide, m_inP pk_2 35 rfl rfl, _, rfl⟩
theorem f_X6_39 : m_fl RX6 39 4 10 0 := ⟨_, _, cf4, by decide, m_inP pk_2 36 rfl rfl, _, rfl⟩
theorem f_X1_63 : m_fl RX1 63 4 10 0 := ⟨_, _, cf4, by decide, m_inP pk_2 37 rfl rfl, _, rfl⟩
theorem f_X4_15 : m_fl RX4 15 4 10 1 := ⟨_, _, cf4, by decide, m_inP pk_2 38 rfl rfl, _, rfl⟩
theorem f_X9_53 : m_fl RX9 53 4 10 1 := ⟨_, _, cf4, by decide, m_inP pk_2 39 rfl rfl, _, rfl⟩
theorem f_X0_39 : m_fl RX0 39 4 10 1 := ⟨_, _, cf4, by decide, m_inP pk_3 0 rfl rfl, _, rfl⟩
theorem f_X11_129 : m_fl RX11 129 4 10 1 := ⟨_, _, cf4, by decide, m_inP pk_3 1 rfl rfl, _, rfl⟩
theorem f_X1_101 : m_fl RX1 101 4 10 1 := ⟨_, _, cf4, by decide, m_inP pk_3 2 rfl rfl, _, rfl⟩
theorem f_X4_18 : m_fl RX4 18 4 10 2 := ⟨_, _, cf4, by decide, m_inP pk_3 3 rfl rfl, _, rfl⟩
theorem f_X11_172 : m_fl RX11 172 4 10 2 := ⟨_, _, cf4, by decide, m_inP pk_3 4 rfl rfl, _, rfl⟩
theorem f_X4_21 : m_fl RX4 21 4 10 3 := ⟨_, _, cf4, by decide, m_inP pk_3 5 rfl rfl, _, rfl⟩
theorem f_X6_67 : m_fl RX6 67 4 10 3 := ⟨_, _, cf4, by decide, m_inP pk_3 6 rfl rfl, _, rfl⟩
theorem f_X11_175 : m_fl RX11 175 4 10 3 := ⟨_, _, cf4, by decide, m_inP pk_3 7 rfl rfl, _, rfl⟩
theorem f_X4_24 : m_fl RX4 24 4 10 4 := ⟨_, _, cf4, by decide, m_inP pk_3 8 rfl rfl, _, rfl⟩
theorem f_X11_178 : m_fl RX11 178 4 10 4 := ⟨_, _, cf4, by decide, m_inP pk_3 9 rfl rfl, _, rfl⟩
theorem f_X4_27 : m_fl RX4 27 4 10 5 := ⟨_, _, cf4, by decide, m_inP pk_3 10 rfl rfl, _, rfl⟩
theorem f_X9_102 : m_fl RX9 102 4 10 5 := ⟨_, _, cf4, by decide, m_inP pk_3 11 rfl rfl, _, rfl⟩
theorem f_X11_181 : m_fl RX11 181 4 10 5 := ⟨_, _, cf4, by decide, m_inP pk_3 12 rfl rfl, _, rfl⟩
theorem f_X4_30 : m_fl RX4 30 4 10 6 := ⟨_, _, cf4, by decide, m_inP pk_3 13 rfl rfl, _, rfl⟩
theorem f_X11_376 : m_fl RX11 376 4 10 6 := ⟨_, _, cf4, by decide, m_inP pk_3 14 rfl rfl, _, rfl⟩
theorem f_X9_39 : m_fl RX9 39 4 10 7 := ⟨_, _, cf4, by decide, m_inP pk_3 15 rfl rfl, _, rfl⟩
theorem p_X9_39 : m_fp RX9 39 4 10 7 := ⟨_, _, cf4, by decide, m_inP pk_3 15 rfl rfl, rfl⟩
theorem f_X0_15 : m_fl RX0 15 4 10 7 := ⟨_, _, cf4, by decide, m_inP pk_3 16 rfl rfl, _, rfl⟩
theorem p_X0_15 : m_fp RX0 15 4 10 7 := ⟨_, _, cf4, by decide, m_inP pk_3 16 rfl rfl, rfl⟩
theorem f_X4_45 : m_fl RX4 45 4 10 7 := ⟨_, _, cf4, by decide, m_inP pk_3 17 rfl rfl, _, rfl⟩
theorem p_X4_45 : m_fp RX4 45 4 10 7 := ⟨_, _, cf4, by decide, m_inP pk_3 17 rfl rfl, rfl⟩
theorem f_X6_64 : m_fl RX6 64 4 10 7 := ⟨_, _, cf4, by decide, m_inP pk_3 18 rfl rfl, _, rfl⟩
theorem p_X6_64 : m_fp RX6 64 4 10 7 := ⟨_, _, cf4, by decide, m_inP pk_3 18 rfl rfl, rfl⟩
theorem f_X11_162 : m_fl RX11 162 4 10 7 := ⟨_, _, cf4, by decide, m_inP pk_3 19 rfl rfl, _, rfl⟩
theorem p_X11_162 : m_fp RX11 162 4 10 7 := ⟨_, _, cf4, by decide, m_inP pk_3 19 rfl rfl, rfl⟩
theorem f_X6_48 : m_fl RX6 48 4 10 8 := ⟨_, _, cf4, by decide, m_inP pk_3 20 rfl rfl, _, rfl⟩
theorem p_X6_48 : m_fp RX6 48 4 10 8 := ⟨_, _, cf4, by decide, m_inP pk_3 20 rfl rfl, rfl⟩
theorem f_X4_49 : m_fl RX4 49 4 10 8 := ⟨_, _, cf4, by decide, m_inP pk_3 21 rfl rfl, _, rfl⟩
theorem p_X4_49 : m_fp RX4 49 4 10 8 := ⟨_, _, cf4, by decide, m_inP pk_3 21 rfl rfl, rfl⟩
theorem f_X3_31 : m_fl RX3 31 4 10 8 := ⟨_, _, cf4, by decide, m_inP pk_3 22 rfl rfl, _, rfl⟩
theorem p_X3_31 : m_fp RX3 31 4 10 8 := ⟨_, _, cf4, by decide, m_inP pk_3 22 rfl rfl, rfl⟩
theorem f_X11_346 : m_fl RX11 346 4 10 8 := ⟨_, _, cf4, by decide, m_inP pk_3 23 rfl rfl, _, rfl⟩
theorem p_X11_346 : m_fp RX11 346 4 10 8 := ⟨_, _, cf4, by decide, m_inP pk_3 23 rfl rfl, rfl⟩
theorem f_X0_32 : m_fl RX0 32 4 10 9 := ⟨_, _, cf4, by decide, m_inP pk_3 24 rfl rfl, _, rfl⟩
theorem p_X0_32 : m_fp RX0 32 4 10 9 := ⟨_, _, cf4, by decide, m_inP pk_3 24 rfl rfl, rfl⟩
theorem f_X9_63 : m_fl RX9 63 4 10 9 := ⟨_, _, cf4, by decide, m_inP pk_3 25 rfl rfl, _, rfl⟩
theorem p_X9_63 : m_fp RX9 63 4 10 9 := ⟨_, _, cf4, by decide, m_inP pk_3 25 rfl rfl, rfl⟩
theorem f_X4_52 : m_fl RX4 52 4 10 9 := ⟨_, _, cf4, by decide, m_inP pk_3 26 rfl rfl, _, rfl⟩
theorem p_X4_52 : m_fp RX4 52 4 10 9 := ⟨_, _, cf4, by decide, m_inP pk_3 26 rfl rfl, rfl⟩
theorem f_X8_9 : m_fl RX8 9 8 2 0 := ⟨_, _, cf8, by decide, m_inP pk_3 27 rfl rfl, _, rfl⟩
theorem f_X1_128 : m_fl RX1 128 8 2 0 := ⟨_, _, cf8, by decide, m_inP pk_3 28 rfl rfl, _, rfl⟩
theorem f_X11_424 : m_fl RX11 424 8 2 0 := ⟨_, _, cf8, by decide, m_inP pk_3 29 rfl rfl, _, rfl⟩
theorem f_X8_15 : m_fl RX8 15 8 2 1 := ⟨_, _, cf8, by decide, m_inP pk_3 30 rfl rfl, _, rfl⟩
theorem p_X8_15 : m_fp RX8 15 8 2 1 := ⟨_, _, cf8, by decide, m_inP pk_3 30 rfl rfl, rfl⟩
theorem f_X1_46 : m_fl RX1 46 8 2 1 := ⟨_, _, cf8, by decide, m_inP pk_3 31 rfl rfl, _, rfl⟩
theorem p_X1_46 : m_fp RX1 46 8 2 1 := ⟨_, _, cf8, by decide, m_inP pk_3 31 rfl rfl, rfl⟩
theorem f_X11_187 : m_fl RX11 187 8 2 1 := ⟨_, _, cf8, by decide, m_inP pk_3 32 rfl rfl, _, rfl⟩
theorem p_X11_187 : m_fp RX11 187 8 2 1 := ⟨_, _, cf8, by decide, m_inP pk_3 32 rfl rfl, rfl⟩
theorem f_X1_9 : m_fl RX1 9 1 4 0 := ⟨_, _, cf1, by decide, m_inP pk_3 33 rfl rfl, _, rfl⟩
theorem f_X1_43 : m_fl RX1 43 1 4 1 := ⟨_, _, cf1, by decide, m_inP pk_3 34 rfl rfl, _, rfl⟩
theorem p_X1_43 : m_fp RX1 43 1 4 1 := ⟨_, _, cf1, by decide, m_inP pk_3 34 rfl rfl, rfl⟩
theorem f_X1_19 : m_fl RX1 19 1 4 2 := ⟨_, _, cf1, by decide, m_inP pk_3 35 rfl rfl, _, rfl⟩
theorem p_X1_19 : m_fp RX1 19 1 4 2 := ⟨_, _, cf1, by decide, m_inP pk_3 35 rfl rfl, rfl⟩
theorem f_X1_15 : m_fl RX1 15 1 4 3 := ⟨_, _, cf1, by decide, m_inP pk_3 36 rfl rfl, _, rfl⟩
theorem p_X1_15 : m_fp RX1 15 1 4 3 := ⟨_, _, cf1, by decide, m_inP pk_3 36 rfl rfl, rfl⟩
theorem f_X11_205 : m_fl RX11 205 1 4 3 := ⟨_, _, cf1, by decide, m_inP pk_3 37 rfl rfl, _, rfl⟩
theorem p_X11_205 : m_fp RX11 205 1 4 3 := ⟨_, _, cf1, by decide, m_inP pk_3 37 rfl rfl, rfl⟩
theorem f_X2_7 : m_fl RX2 7 2 3 0 := ⟨_, _, cf2, by decide, m_inP pk_4 1 rfl rfl, _, rfl⟩
theorem p_X2_7 : m_fp RX2 7 2 3 0 := ⟨_, _, cf2, by decide, m_inP pk_4 1 rfl rfl, rfl⟩
theorem f_X7_33 : m_fl RX7 33 2 3 0 := ⟨_, _, cf2, by decide, m_inP pk_4 2 rfl rfl, _, rfl⟩
theorem p_X7_33 : m_fp RX7 33 2 3 0 := ⟨_, _, cf2, by decide, m_inP pk_4 2 rfl rfl, rfl⟩
theorem f_X9_128 : m_fl RX9 128 2 3 0 := ⟨_, _, cf2, by decide, m_inP pk_4 3 rfl rfl, _, rfl⟩
theorem p_X9_128 : m_fp RX9 128 2 3 0 := ⟨_, _, cf2, by decide, m_inP pk_4 3 rfl rfl, rfl⟩
theorem f_X11_264 : m_fl RX11 264 2 3 0 := ⟨_, _, cf2, by decide, m_inP pk_4 4 rfl rfl, _, rfl⟩
theorem p_X11_264 : m_fp RX11 264 2 3 0 := ⟨_, _, cf2, by decide, m_inP pk_4 4 rfl rfl, rfl⟩
theorem f_X2_13 : m_fl RX2 13 2 3 1 := ⟨_, _, cf2, by decide, m_inP pk_4 5 rfl rfl, _, rfl⟩
theorem p_X2_13 : m_fp RX2 13 2 3 1 := ⟨_, _, cf2, by decide, m_inP pk_4 5 rfl rfl, rfl⟩
theorem f_X7_29 : m_fl RX7 29 2 3 1 := ⟨_, _, cf2, by decide, m_inP pk_4 6 rfl rfl, _, rfl⟩
theorem p_X7_29 : m_fp RX7 29 2 3 1 := ⟨_, _, cf2, by decide, m_inP pk_4 6 rfl rfl, rfl⟩
theorem f_X9_132 : m_fl RX9 132 2 3 1 := ⟨_, _, cf2, by decide, m_inP pk_4 7 rfl rfl, _, rfl⟩
theorem p_X9_132 : m_fp RX9 132 2 3 1 := ⟨_, _, cf2, by decide, m_inP pk_4 7 rfl rfl, rfl⟩
theorem f_X11_268 : m_fl RX11 268 2 3 1 := ⟨_, _, cf2, by decide, m_inP pk_4 8 rfl rfl, _, rfl⟩
theorem p_X11_268 : m_fp RX11 268 2 3 1 := ⟨_, _, cf2, by decide, m_inP pk_4 8 rfl rfl, rfl⟩
theorem f_X2_16 : m_fl RX2 16 2 3 2 := ⟨_, _, cf2, by decide, m_inP pk_4 9 rfl rfl, _, rfl⟩
theorem p_X2_16 : m_fp RX2 16 2 3 2 := ⟨_, _, cf2, by decide, m_inP pk_4 9 rfl rfl, rfl⟩
theorem f_X7_44 : m_fl RX7 44 2 3 2 := ⟨_, _, cf2, by decide, m_inP pk_4 10 rfl rfl, _, rfl⟩
theorem p_X7_44 : m_fp RX7 44 2 3 2 := ⟨_, _, cf2, by decide, m_inP pk_4 10 rfl rfl, rfl⟩
theorem f_X9_134 : m_fl RX9 134 2 3 2 := ⟨_, _, cf2, by decide, m_inP pk_4 11 rfl rfl, _, rfl⟩
theorem p_X9_134 : m_fp RX9 134 2 3 2 := ⟨_, _, cf2, by decide, m_inP pk_4 11 rfl rfl, rfl⟩
theorem f_X11_231 : m_fl RX11 231 2 3 2 := ⟨_, _, cf2, by decide, m_inP pk_4 12 rfl rfl, _, rfl⟩
theorem p_X11_231 : m_fp RX11 231 2 3 2 := ⟨_, _, cf2, by decide, m_inP pk_4 12 rfl rfl, rfl⟩
theorem f_X9_9 : m_fl RX9 9 9 6 0 := ⟨_, _, cf9, by decide, m_inP pk_4 13 rfl rfl, _, rfl⟩
theorem f_X9_15 : m_fl RX9 15 9 6 1 := ⟨_, _, cf9, by decide, m_inP pk_4 14 rfl rfl, _, rfl⟩
theorem f_X9_19 : m_fl RX9 19 9 6 2 := ⟨_, _, cf9, by decide, m_inP pk_4 15 rfl rfl, _, rfl⟩
theorem f_X9_26 : m_fl RX9 26 9 6 3 := ⟨_, _, cf9, by decide, m_inP pk_4 16 rfl rfl, _, rfl⟩
theorem f_X9_30 : m_fl RX9 30 9 6 4 := ⟨_, _, cf9, by decide, m_inP pk_4 17 rfl rfl, _, rfl⟩
theorem f_X9_33 : m_fl RX9 33 9 6 5 := ⟨_, _, cf9, by decide, m_inP pk_4 18 rfl rfl, _, rfl⟩
theorem f_X7_12 : m_fl RX7 12 7 2 0 := ⟨_, _, cf7, by decide, m_inP pk_4 19 rfl rfl, _, rfl⟩
theorem f_X11_227 : m_fl RX11 227 7 2 0 := ⟨_, _, cf7, by decide, m_inP pk_4 20 rfl rfl, _, rfl⟩
theorem f_X7_18 : m_fl RX7 18 7 2 1 := ⟨_, _, cf7, by decide, m_inP pk_4 21 rfl rfl, _, rfl⟩
theorem f_X11_237 : m_fl RX11 237 7 2 1 := ⟨_, _, cf7, by decide, m_inP pk_4 22 rfl rfl, _, rfl⟩
theorem f_X10_9 : m_fl RX10 9 10 5 0 := ⟨_, _, cf10, by decide, m_inP pk_4 23 rfl rfl, _, rfl⟩
theorem f_X10_15 : m_fl RX10 15 10 5 1 := ⟨_, _, cf10, by decide, m_inP pk_4 24 rfl rfl, _, rfl⟩
theorem f_X10_18 : m_fl RX10 18 10 5 2 := ⟨_, _, cf10, by decide, m_inP pk_4 25 rfl rfl, _, rfl⟩
theorem p_X10_18 : m_fp RX10 18 10 5 2 := ⟨_, _, cf10, by decide, m_inP pk_4 25 rfl rfl, rfl⟩
theorem f_X10_22 : m_fl RX10 22 10 5 3 := ⟨_, _, cf10, by decide, m_inP pk_4 26 rfl rfl, _, rfl⟩
theorem p_X10_22 : m_fp RX10 22 10 5 3 := ⟨_, _, cf10, by decide, m_inP pk_4 26 rfl rfl, rfl⟩
theorem f_X10_26 : m_fl RX10 26 10 5 4 := ⟨_, _, cf10, by decide, m_inP pk_4 27 rfl rfl, _, rfl⟩
theorem p_X10_26 : m_fp RX10 26 10 5 4 := ⟨_, _, cf10, by decide, m_inP pk_4 27 rfl rfl, rfl⟩
theorem f_X0_9 : m_fl RX0 9 0 1 0 := ⟨_, _, cf0, by decide, m_inP pk_4 28 rfl rfl, _, rfl⟩
theorem f_X3_9 : m_fl RX3 9 3 4 0 := ⟨_, _, cf3, by decide, m_inP pk_4 29 rfl rfl, _, rfl⟩
theorem f_X3_21 : m_fl RX3 21 3 4 1 := ⟨_, _, cf3, by decide, m_inP pk_4 30 rfl rfl, _, rfl⟩
theorem p_X3_21 : m_fp RX3 21 3 4 1 := ⟨_, _, cf3, by decide, m_inP pk_4 30 rfl rfl, rfl⟩
theorem f_X11_357 : m_fl RX11 357 3 4 1 := ⟨_, _, cf3, by decide, m_inP pk_4 31 rfl rfl, _, rfl⟩
theorem p_X11_357 : m_fp RX11 357 3 4 1 := ⟨_, _, cf3, by decide, m_inP pk_4 31 rfl rfl, rfl⟩
theorem f_X3_25 : m_fl RX3 25 3 4 2 := ⟨_, _, cf3, by decide, m_inP pk_4 32 rfl rfl, _, rfl⟩
theorem p_X3_25 : m_fp RX3 25 3 4 2 := ⟨_, _, cf3, by decide, m_inP pk_4 32 rfl rfl, rfl⟩
theorem f_X11_360 : m_fl RX11 360 3 4 2 := ⟨_, _, cf3, by decide, m_inP pk_4 33 rfl rfl, _, rfl⟩
theorem p_X11_360 : m_fp RX11 360 3 4 2 := ⟨_, _, cf3, by decide, m_inP pk_4 33 rfl rfl, rfl⟩
theorem f_X3_28 : m_fl RX3 28 3 4 3 := ⟨_, _, cf3, by decide, m_inP pk_4 34 rfl rfl, _, rfl⟩
theorem p_X3_28 : m_fp RX3 28 3 4 3 := ⟨_, _, cf3, by decide, m_inP pk_4 34 rfl rfl, rfl⟩
theorem f_X11_363 : m_fl RX11 363 3 4 3 := ⟨_, _, cf3, by decide, m_inP pk_4 35 rfl rfl, _, rfl⟩
theorem p_X11_363 : m_fp RX11 363 3 4 3 := ⟨_, _, cf3, by decide, m_inP pk_4 35 rfl rfl, rfl⟩
theorem f_X6_18 : m_fl RX6 18 6 5 0 := ⟨_, _, cf6, by decide, m_inP pk_4 36 rfl rfl, _, rfl⟩
theorem f_X6_9 : m_fl RX6 9 6 5 1 := ⟨_, _, cf6, by decide, m_inP pk_4 37 rfl rfl, _, rfl⟩
theorem f_X6_15 : m_fl RX6 15 6 5 2 := ⟨_, _, cf6, by decide, m_inP pk_4 38 rfl rfl, _, rfl⟩
theorem f_X6_36 : m_fl RX6 36 6 5 3 := ⟨_, _, cf6, by decide, m_inP pk_4 39 rfl rfl, _, rfl⟩
theorem p_X6_36 : m_fp RX6 36 6 5 3 := ⟨_, _, cf6, by decide, m_inP pk_4 39 rfl rfl, rfl⟩
theorem f_X6_22 : m_fl RX6 22 6 5 4 := ⟨_, _, cf6, by decide, m_inP pk_5 0 rfl rfl, _, rfl⟩
theorem p_X6_22 : m_fp RX6 22 6 5 4 := ⟨_, _, cf6, by decide, m_inP pk_5 0 rfl rfl, rfl⟩
theorem f_X11_369 : m_fl RX11 369 6 5 4 := ⟨_, _, cf6, by decide, m_inP pk_5 1 rfl rfl, _, rfl⟩
theorem p_X11_369 : m_fp RX11 369 6 5 4 := ⟨_, _, cf6, by decide, m_inP pk_5 1 rfl rfl, rfl⟩
theorem f_X5_9 : m_fl RX5 9 5 4 0 := ⟨_, _, cf5, by decide, m_inP pk_5 2 rfl rfl, _, rfl⟩
theorem f_X11_408 : m_fl RX11 408 5 4 0 := ⟨_, _, cf5, by decide, m_inP pk_5 3 rfl rfl, _, rfl⟩
theorem f_X5_16 : m_fl RX5 16 5 4 1 := ⟨_, _, cf5, by decide, m_inP pk_5 4 rfl rfl, _, rfl⟩
theorem p_X5_16 : m_fp RX5 16 5 4 1 := ⟨_, _, cf5, by decide, m_inP pk_5 4 rfl rfl, rfl⟩
theorem f_X11_399 : m_fl RX11 399 5 4 1 := ⟨_, _, cf5, by decide, m_inP pk_5 5 rfl rfl, _, rfl⟩
theorem p_X11_399 : m_fp RX11 399 5 4 1 := ⟨_, _, cf5, by decide, m_inP pk_5 5 rfl rfl, rfl⟩
theorem f_X5_20 : m_fl RX5 20 5 4 2 := ⟨_, _, cf5, by decide, m_inP pk_5 6 rfl rfl, _, rfl⟩
theorem p_X5_20 : m_fp RX5 20 5 4 2 := ⟨_, _, cf5, by decide, m_inP pk_5 6 rfl rfl, rfl⟩
theorem f_X11_402 : m_fl RX11 402 5 4 2 := ⟨_, _, cf5, by decide, m_inP pk_5 7 rfl rfl, _, rfl⟩
theorem p_X11_402 : m_fp RX11 402 5 4 2 := ⟨_, _, cf5, by decide, m_inP pk_5 7 rfl rfl, rfl⟩
theorem f_X5_24 : m_fl RX5 24 5 4 3 := ⟨_, _, cf5, by decide, m_inP pk_5 8 rfl rfl, _, rfl⟩
theorem p_X5_24 : m_fp RX5 24 5 4 3 := ⟨_, _, cf5, by decide, m_inP pk_5 8 rfl rfl, rfl⟩
theorem f_X11_405 : m_fl RX11 405 5 4 3 := ⟨_, _, cf5, by decide, m_inP pk_5 9 rfl rfl, _, rfl⟩
theorem p_X11_405 : m_fp RX11 405 5 4 3 := ⟨_, _, cf5, by decide, m_inP pk_5 9 rfl rfl, rfl⟩
theorem f_X11_12 : m_fl RX11 12 11 17 0 := ⟨_, _, cf11, by decide, m_inP pk_5 10 rfl rfl, _, rfl⟩
theorem f_X11_16 : m_fl RX11 16 11 17 1 := ⟨_, _, cf11, by decide, m_inP pk_5 11 rfl rfl, _, rfl⟩
theorem f_X11_19 : m_fl RX11 19 11 17 2 := ⟨_, _, cf11, by decide, m_inP pk_5 12 rfl rfl, _, rfl⟩
theorem f_X11_23 : m_fl RX11 23 11 17 3 := ⟨_, _, cf11, by decide, m_inP pk_5 13 rfl rfl, _, rfl⟩
theorem f_X11_30 : m_fl RX11 30 11 17 4 := ⟨_, _, cf11, by decide, m_inP pk_5 14 rfl rfl, _, rfl⟩
theorem f_X11_39 : m_fl RX11 39 11 17 5 := ⟨_, _, cf11, by decide, m_inP pk_5 15 rfl rfl, _, rfl⟩
theorem f_X11_46 : m_fl RX11 46 11 17 6 := ⟨_, _, cf11, by decide, m_inP pk_5 16 rfl rfl, _, rfl⟩
theorem f_X11_53 : m_fl RX11 53 11 17 7 := ⟨_, _, cf11, by decide, m_inP pk_5 17 rfl rfl, _, rfl⟩
theorem f_X11_60 : m_fl RX11 60 11 17 8 := ⟨_, _, cf11, by decide, m_inP pk_5 18 rfl rfl, _, rfl⟩
theorem f_X11_67 : m_fl RX11 67 11 17 9 := ⟨_, _, cf11, by decide, m_inP pk_5 19 rfl rfl, _, rfl⟩
theorem f_X11_76 : m_fl RX11 76 11 17 10 := ⟨_, _, cf11, by decide, m_inP pk_5 20 rfl rfl, _, rfl⟩
theorem f_X11_83 : m_fl RX11 83 11 17 11 := ⟨_, _, cf11, by decide, m_inP pk_5 21 rfl rfl, _, rfl⟩
theorem f_X11_90 : m_fl RX11 90 11 17 12 := ⟨_, _, cf11, by decide, m_inP pk_5 22 rfl rfl, _, rfl⟩
theorem f_X11_94 : m_fl RX11 94 11 17 13 := ⟨_, _, cf11, by decide, m_inP pk_5 23 rfl rfl, _, rfl⟩
theorem f_X11_98 : m_fl RX11 98 11 17 14 := ⟨_, _, cf11, by decide, m_inP pk_5 24 rfl rfl, _, rfl⟩
theorem p_X11_98 : m_fp RX11 98 11 17 14 := ⟨_, _, cf11, by decide, m_inP pk_5 24 rfl rfl, rfl⟩
theorem f_X11_102 : m_fl RX11 102 11 17 15 := ⟨_, _, cf11, by decide, m_inP pk_5 25 rfl rfl, _, rfl⟩
theorem p_X11_102 : m_fp RX11 102 11 17 15 := ⟨_, _, cf11, by decide, m_inP pk_5 25 rfl rfl, rfl⟩
theorem f_X11_105 : m_fl RX11 105 11 17 16 := ⟨_, _, cf11, by decide, m_inP pk_5 26 rfl rfl, _, rfl⟩
theorem p_X11_105 : m_fp RX11 105 11 17 16 := ⟨_, _, cf11, by decide, m_inP pk_5 26 rfl rfl, rfl⟩
theorem f_X12_133 : m_fl RX12 133 12 63 0 := ⟨_, _, cf12, by decide, m_inP pk_20 19 rfl rfl, _, rfl⟩
theorem p_X12_133 : m_fp RX12 133 12 63 0 := ⟨_, _, cf12, by decide, m_inP pk_20 19 rfl rfl, rfl⟩
theorem f_X12_136 : m_fl RX12 136 12 63 1 := ⟨_, _, cf12, by decide, m_inP pk_20 20 rfl rfl, _, rfl⟩
theorem p_X12_136 : m_fp RX12 136 12 63 1 := ⟨_, _, cf12, by decide, m_inP pk_20 20 rfl rfl, rfl⟩
theorem f_X12_7 : m_fl RX12 7 12 63 2 := ⟨_, _, cf12, by decide, m_inP pk_20 21 rfl rfl, _, rfl⟩
theorem f_X12_13 : m_fl RX12 13 12 63 3 := ⟨_, _, cf12, by decide, m_inP pk_20 22 rfl rfl, _, rfl⟩
theorem f_X12_16 : m_fl RX12 16 12 63 4 := ⟨_, _, cf12, by decide, m_inP pk_20 23 rfl rfl, _, rfl⟩
theorem f_X12_19 : m_fl RX12 19 12 63 5 := ⟨_, _, cf12, by decide, m_inP pk_20 24 rfl rfl, _, rfl⟩
theorem f_X12_204 : m_fl RX12 204 12 63 6 := ⟨_, _, cf12, by decide, m_inP pk_20 25 rfl rfl, _, rfl⟩
theorem p_X12_204 : m_fp RX12 204 12 63 6 := ⟨_, _, cf12, by decide, m_inP pk_20 25 rfl rfl, rfl⟩
theorem f_X12_23 : m_fl RX12 23 12 63 7 := ⟨_, _, cf12, by decide, m_inP pk_20 26 rfl rfl, _, rfl⟩
theorem f_X12_201 : m_fl RX12 201 12 63 8 := ⟨_, _, cf12, by decide, m_inP pk_20 27 rfl rfl, _, rfl⟩
theorem p_X12_201 : m_fp RX12 201 12 63 8 := ⟨_, _, cf12, by decide, m_inP pk_20 27 rfl rfl, rfl⟩
theorem f_X12_221 : m_fl RX12 221 12 63 9 := ⟨_, _, cf12, by decide, m_inP pk_20 28 rfl rfl, _, rfl⟩
theorem p_X12_221 : m_fp RX12 221 12 63 9 := ⟨_, _, cf12, by decide, m_inP pk_20 28 rfl rfl, rfl⟩
theorem f_X12_211 : m_fl RX12 211 12 63 10 := ⟨_, _, cf12, by decide, m_inP pk_20 29 rfl rfl, _, rfl⟩
theorem p_X12_211 : m_fp RX12 211 12 63 10 := ⟨_, _, cf12, by decide, m_inP pk_20 29 rfl rfl, rfl⟩
theorem f_X12_234 : m_fl RX12 234 12 63 11 := ⟨_, _, cf12, by decide, m_inP pk_20 30 rfl rfl, _, rfl⟩
theorem p_X12_234 : m_fp RX12 234 12 63 11 := ⟨_, _, cf12, by decide, m_inP pk_20 30 rfl rfl, rfl⟩
theorem f_X12_224 : m_fl RX12 224 12 63 12 := ⟨_, _, cf12, by decide, m_inP pk_20 31 rfl rfl, _, rfl⟩
theorem p_X12_224 : m_fp RX12 224 12 63 12 := ⟨_, _, cf12, by decide, m_inP pk_20 31 rfl rfl, rfl⟩
theorem f_X12_26 : m_fl RX12 26 12 63 13 := ⟨_, _, cf12, by decide, m_inP pk_20 32 rfl rfl, _, rfl⟩
theorem p_X12_26 : m_fp RX12 26 12 63 13 := ⟨_, _, cf12, by decide, m_inP pk_20 32 rfl rfl, rfl⟩
theorem f_X12_214 : m_fl RX12 214 12 63 14 := ⟨_, _, cf12, by decide, m_inP pk_20 33 rfl rfl, _, rfl⟩
theorem p_X12_214 : m_fp RX12 214 12 63 14 := ⟨_, _, cf12, by decide, m_inP pk_20 33 rfl rfl, rfl⟩
theorem f_X12_30 : m_fl RX12 30 12 63 15 := ⟨_, _, cf12, by decide, m_inP pk_20 34 rfl rfl, _, rfl⟩
theorem f_X12_251 : m_fl RX12 251 12 63 16 := ⟨_, _, cf12, by decide, m_inP pk_20 35 rfl rfl, _, rfl⟩
theorem p_X12_251 : m_fp RX12 251 12 63 16 := ⟨_, _, cf12, by decide, m_inP pk_20 35 rfl rfl, rfl⟩
theorem f_X12_282 : m_fl RX12 282 12 63 17 := ⟨_, _, cf12, by decide, m_inP pk_20 36 rfl rfl, _, rfl⟩
theorem p_X12_282 : m_fp RX12 282 12 63 17 := ⟨_, _, cf12, by decide, m_inP pk_20 36 rfl rfl, rfl⟩
theorem f_X12_277 : m_fl RX12 277 12 63 18 := ⟨_, _, cf12, by decide, m_inP pk_20 37 rfl rfl, _, rfl⟩
theorem p_X12_277 : m_fp RX12 277 12 63 18 := ⟨_, _, cf12, by decide, m_inP pk_20 37 rfl rfl, rfl⟩
theorem f_X12_33 : m_fl RX12 33 12 63 19 := ⟨_, _, cf12, by decide, m_inP pk_20 38 rfl rfl, _, rfl⟩
theorem f_X12_37 : m_fl RX12 37 12 63 20 := ⟨_, _, cf12, by decide, m_inP pk_20 39 rfl rfl, _, rfl⟩
theorem f_X12_333 : m_fl RX12 333 12 63 21 := ⟨_, _, cf12, by decide, m_inP pk_21 0 rfl rfl, _, rfl⟩
theorem p_X12_333 : m_fp RX12 333 12 63 21 := ⟨_, _, cf12, by decide, m_inP pk_21 0 rfl rfl, rfl⟩
theorem f_X12_40 : m_fl RX12 40 12 63 22 := ⟨_, _, cf12, by decide, m_inP pk_21 1 rfl rfl, _, rfl⟩
theorem f_X12_43 : m_fl RX12 43 12 63 23 := ⟨_, _, cf12, by decide, m_inP pk_21 2 rfl rfl, _, rfl⟩
theorem f_X12_46 : m_fl RX12 46 12 63 24 := ⟨_, _, cf12, by decide, m_inP pk_21 3 rfl rfl, _, rfl⟩
theorem f_X12_49 : m_fl RX12 49 12 63 25 := ⟨_, _, cf12, by decide, m_inP pk_21 4 rfl rfl, _, rfl⟩
theorem f_X12_52 : m_fl RX12 52 12 63 26 := ⟨_, _, cf12, by decide, m_inP pk_21 5 rfl rfl, _, rfl⟩
theorem f_X12_55 : m_fl RX12 55 12 63 27 := ⟨_, _, cf12, by decide, m_inP pk_21 6 rfl rfl, _, rfl⟩
theorem f_X12_58 : m_fl RX12 58 12 63 28 := ⟨_, _, cf12, by decide, m_inP pk_21 7 rfl rfl, _, rfl⟩
theorem f_X12_61 : m_fl RX12 61 12 63 29 := ⟨_, _, cf12, by decide, m_inP pk_21 8 rfl rfl, _, rfl⟩
theorem f_X12_64 : m_fl RX12 64 12 63 30 := ⟨_, _, cf12, by decide, m_inP pk_21 9 rfl rfl, _, rfl⟩
theorem f_X12_67 : m_fl RX12 67 12 63 31 := ⟨_, _, cf12, by decide, m_inP pk_21 10 rfl rfl, _, rfl⟩
theorem f_X12_70 : m_fl RX12 70 12 63 32 := ⟨_, _, cf12, by decide, m_inP pk_21 11 rfl rfl, _, rfl⟩
theorem f_X12_73 : m_fl RX12 73 12 63 33 := ⟨_, _, cf12, by decide, m_inP pk_21 12 rfl rfl, _, rfl⟩
theorem f_X12_76 : m_fl RX12 76 12 63 34 := ⟨_, _, cf12, by decide, m_inP pk_21 13 rfl rfl, _, rfl⟩
theorem f_X12_79 : m_fl RX12 79 12 63 35 := ⟨_, _, cf12, by decide, m_inP pk_21 14 rfl rfl, _, rfl⟩
theorem f_X12_82 : m_fl RX12 82 12 63 36 := ⟨_, _, cf12, by decide, m_inP pk_21 15 rfl rfl, _, rfl⟩
theorem f_X12_85 : m_fl RX12 85 12 63 37 := ⟨_, _, cf12, by decide, m_inP pk_21 16 rfl rfl, _, rfl⟩
theorem f_X12_88 : m_fl RX12 88 12 63 38 := ⟨_, _, cf12, by decide, m_inP pk_21 17 rfl rfl, _, rfl⟩
theorem f_X12_91 : m_fl RX12 91 12 63 39 := ⟨_, _, cf12, by decide, m_inP pk_21 18 rfl rfl, _, rfl⟩
theorem f_X12_94 : m_fl RX12 94 12 63 40 := ⟨_, _, cf12, by decide, m_inP pk_21 19 rfl rfl, _, rfl⟩
theorem f_X12_97 : m_fl RX12 97 12 63 41 := ⟨_, _, cf12, by decide, m_inP pk_21 20 rfl rfl, _, rfl⟩
theorem f_X12_100 : m_fl RX12 100 12 63 42 := ⟨_, _, cf12, by decide, m_inP pk_21 21 rfl rfl, _, rfl⟩
theorem f_X12_103 : m_fl RX12 103 12 63 43 := ⟨_, _, cf12, by decide, m_inP pk_21 22 rfl rfl, _, rfl⟩
theorem f_X12_409 : m_fl RX12 409 12 63 44 := ⟨_, _, cf12, by decide, m_inP pk_21 23 rfl rfl, _, rfl⟩
theorem p_X12_409 : m_fp RX12 409 12 63 44 := ⟨_, _, cf12, by decide, m_inP pk_21 23 rfl rfl, rfl⟩
theorem f_X12_415 : m_fl RX12 415 12 63 45 := ⟨_, _, cf12, by decide, m_inP pk_21 24 rfl rfl, _, rfl⟩
theorem p_X12_415 : m_fp RX12 415 12 63 45 := ⟨_, _, cf12, by decide, m_inP pk_21 24 rfl rfl, rfl⟩
theorem f_X12_412 : m_fl RX12 412 12 63 46 := ⟨_, _, cf12, by decide, m_inP pk_21 25 rfl rfl, _, rfl⟩
theorem p_X12_412 : m_fp RX12 412 12 63 46 := ⟨_, _, cf12, by decide, m_inP pk_21 25 rfl rfl, rfl⟩
theorem f_X12_418 : m_fl RX12 418 12 63 47 := ⟨_, _, cf12, by decide, m_inP pk_21 26 rfl rfl, _, rfl⟩
theorem p_X12_418 : m_fp RX12 418 12 63 47 := ⟨_, _, cf12, by decide, m_inP pk_21 26 rfl rfl, rfl⟩
theorem f_X12_106 : m_fl RX12 106 12 63 48 := ⟨_, _, cf12, by decide, m_inP pk_21 27 rfl rfl, _, rfl⟩
theorem f_X12_109 : m_fl RX12 109 12 63 49 := ⟨_, _, cf12, by decide, m_inP pk_21 28 rfl rfl, _, rfl⟩
theorem f_X12_112 : m_fl RX12 112 12 63 50 := ⟨_, _, cf12, by decide, m_inP pk_21 29 rfl rfl, _, rfl⟩
theorem f_X12_115 : m_fl RX12 115 12 63 51 := ⟨_, _, cf12, by decide, m_inP pk_21 30 rfl rfl, _, rfl⟩
theorem f_X12_118 : m_fl RX12 118 12 63 52 := ⟨_, _, cf12, by decide, m_inP pk_21 31 rfl rfl, _, rfl⟩
theorem f_X12_121 : m_fl RX12 121 12 63 53 := ⟨_, _, cf12, by decide, m_inP pk_21 32 rfl rfl, _, rfl⟩
theorem f_X12_459 : m_fl RX12 459 12 63 54 := ⟨_, _, cf12, by decide, m_inP pk_21 33 rfl rfl, _, rfl⟩
theorem p_X12_459 : m_fp RX12 459 12 63 54 := ⟨_, _, cf12, by decide, m_inP pk_21 33 rfl rfl, rfl⟩
theorem f_X12_462 : m_fl RX12 462 12 63 55 := ⟨_, _, cf12, by decide, m_inP pk_21 34 rfl rfl, _, rfl⟩
theorem p_X12_462 : m_fp RX12 462 12 63 55 := ⟨_, _, cf12, by decide, m_inP pk_21 34 rfl rfl, rfl⟩
theorem f_X12_124 : m_fl RX12 124 12 63 56 := ⟨_, _, cf12, by decide, m_inP pk_21 35 rfl rfl, _, rfl⟩
theorem f_X12_127 : m_fl RX12 127 12 63 57 := ⟨_, _, cf12, by decide, m_inP pk_21 36 rfl rfl, _, rfl⟩
theorem f_X12_487 : m_fl RX12 487 12 63 58 := ⟨_, _, cf12, by decide, m_inP pk_21 37 rfl rfl, _, rfl⟩
theorem p_X12_487 : m_fp RX12 487 12 63 58 := ⟨_, _, cf12, by decide, m_inP pk_21 37 rfl rfl, rfl⟩
theorem f_X12_130 : m_fl RX12 130 12 63 59 := ⟨_, _, cf12, by decide, m_inP pk_21 38 rfl rfl, _, rfl⟩
theorem f_X12_512 : m_fl RX12 512 12 63 60 := ⟨_, _, cf12, by decide, m_inP pk_21 39 rfl rfl, _, rfl⟩
theorem p_X12_512 : m_fp RX12 512 12 63 60 := ⟨_, _, cf12, by decide, m_inP pk_21 39 rfl rfl, rfl⟩
theorem f_X12_515 : m_fl RX12 515 12 63 61 := ⟨_, _, cf12, by decide, m_inP pk_22 0 rfl rfl, _, rfl⟩
theorem p_X12_515 : m_fp RX12 515 12 63 61 := ⟨_, _, cf12, by decide, m_inP pk_22 0 rfl rfl, rfl⟩
theorem f_X12_518 : m_fl RX12 518 12 63 62 := ⟨_, _, cf12, by decide, m_inP pk_22 1 rfl rfl, _, rfl⟩
theorem p_X12_518 : m_fp RX12 518 12 63 62 := ⟨_, _, cf12, by decide, m_inP pk_22 1 rfl rfl, rfl⟩
theorem k_J6_265 : Cond.constant RJ6 265 (Int32.ofInt (1431655765)) ∈ m_G := m_inP pk_6 32 rfl rfl
theorem k_J6_266 : Cond.constant RJ6 266 (Int32.ofInt (858993459)) ∈ m_G := m_inP pk_6 33 rfl rfl
theorem k_J6_267 : Cond.constant RJ6 267 (Int32.ofInt (252645135)) ∈ m_G := m_inP pk_6 34 rfl rfl
theorem k_X7_27 : Cond.constantLong RX7 27 (Int64.ofInt (1000000)) ∈ m_G := m_inP pk_12 27 rfl rfl
theorem k_X11_218 : Cond.constantLong RX11 218 (Int64.ofInt (2000000000)) ∈ m_G := m_inP pk_12 31 rfl rfl
theorem k_X7_40 : Cond.constantLong RX7 40 (Int64.ofInt (-1)) ∈ m_G := m_inP pk_13 2 rfl rfl
theorem k_X7_42 : Cond.constantLong RX7 42 (Int64.ofInt (2)) ∈ m_G := m_inP pk_13 24 rfl rfl
theorem k_X11_257 : Cond.constantLong RX11 257 (Int64.ofInt (2000)) ∈ m_G := m_inP pk_13 29 rfl rfl
theorem k_X11_259 : Cond.constantLong RX11 259 (Int64.ofInt (-2)) ∈ m_G := m_inP pk_13 33 rfl rfl
theorem k_X10_29 : Cond.constantLong RX10 29 (Int64.ofInt (-1)) ∈ m_G := m_inP pk_14 20 rfl rfl
theorem k_X11_291 : Cond.constantLong RX11 291 (Int64.ofInt (6000)) ∈ m_G := m_inP pk_14 31 rfl rfl
theorem k_X11_296 : Cond.constantLong RX11 296 (Int64.ofInt (4000000)) ∈ m_G := m_inP pk_14 39 rfl rfl
theorem k_X7_48 : Cond.constantLong RX7 48 (Int64.ofInt (100)) ∈ m_G := m_inP pk_15 11 rfl rfl
theorem k_X7_65 : Cond.constantLong RX7 65 (Int64.ofInt (99)) ∈ m_G := m_inP pk_15 22 rfl rfl
theorem k_X11_379 : Cond.constantLong RX11 379 (Int64.ofInt (100)) ∈ m_G := m_inP pk_18 39 rfl rfl
theorem k_X11_381 : Cond.constantLong RX11 381 (Int64.ofInt (2)) ∈ m_G := m_inP pk_19 0 rfl rfl
theorem k_X11_392 : Cond.constant RX11 392 (Int32.ofInt (1000000)) ∈ m_G := m_inP pk_19 22 rfl rfl
theorem k_X5_15 : Cond.constant RX5 15 (Int32.ofInt (1000003)) ∈ m_G := m_inP pk_19 27 rfl rfl
theorem k_X12_154 : Cond.constantLong RX12 154 (Int64.ofInt (31)) ∈ m_G := m_inP pk_22 20 rfl rfl
theorem k_X12_160 : Cond.constantLong RX12 160 (Int64.ofInt (-1)) ∈ m_G := m_inP pk_22 21 rfl rfl
theorem k_X12_152 : Cond.constantLong RX12 152 (Int64.ofInt (3)) ∈ m_G := m_inP pk_22 22 rfl rfl
theorem k_X12_150 : Cond.constantLong RX12 150 (Int64.ofInt (5)) ∈ m_G := m_inP pk_22 35 rfl rfl
theorem k_X12_180 : Cond.constantLong RX12 180 (Int64.ofInt (99)) ∈ m_G := m_inP pk_23 14 rfl rfl
theorem k_X12_182 : Cond.constantLong RX12 182 (Int64.ofInt (2)) ∈ m_G := m_inP pk_23 15 rfl rfl
theorem k_X12_237 : Cond.constantLong RX12 237 (Int64.ofInt (32)) ∈ m_G := m_inP pk_24 27 rfl rfl
theorem k_X12_239 : Cond.constantLong RX12 239 (Int64.ofInt (96)) ∈ m_G := m_inP pk_24 28 rfl rfl
theorem k_X12_241 : Cond.constantLong RX12 241 (Int64.ofInt (1000000)) ∈ m_G := m_inP pk_24 29 rfl rfl
theorem k_X12_243 : Cond.constantLong RX12 243 (Int64.ofInt (10)) ∈ m_G := m_inP pk_24 30 rfl rfl
theorem k_X12_245 : Cond.constantLong RX12 245 (Int64.ofInt (48)) ∈ m_G := m_inP pk_24 31 rfl rfl
theorem k_X12_303 : Cond.constantLong RX12 303 (Int64.ofInt (758955)) ∈ m_G := m_inP pk_24 35 rfl rfl
theorem k_X12_258 : Cond.constantLong RX12 258 (Int64.ofInt (655)) ∈ m_G := m_inP pk_25 8 rfl rfl
theorem k_X12_264 : Cond.constantLong RX12 264 (Int64.ofInt (89)) ∈ m_G := m_inP pk_25 9 rfl rfl
theorem k_X12_266 : Cond.constantLong RX12 266 (Int64.ofInt (485571737)) ∈ m_G := m_inP pk_25 10 rfl rfl
theorem k_X12_308 : Cond.constantLong RX12 308 (Int64.ofInt (374522034)) ∈ m_G := m_inP pk_25 14 rfl rfl
theorem k_X12_272 : Cond.constantLong RX12 272 (Int64.ofInt (2273783)) ∈ m_G := m_inP pk_25 18 rfl rfl
theorem k_X12_313 : Cond.constantLong RX12 313 (Int64.ofInt (21243335)) ∈ m_G := m_inP pk_25 22 rfl rfl
theorem k_X12_293 : Cond.constantLong RX12 293 (Int64.ofInt (3764)) ∈ m_G := m_inP pk_25 26 rfl rfl
theorem k_X12_295 : Cond.constantLong RX12 295 (Int64.ofInt (14866610)) ∈ m_G := m_inP pk_25 27 rfl rfl
theorem k_X12_280 : Cond.constantLong RX12 280 (Int64.ofInt (302)) ∈ m_G := m_inP pk_25 28 rfl rfl
theorem k_X12_285 : Cond.constantLong RX12 285 (Int64.ofInt (307)) ∈ m_G := m_inP pk_25 32 rfl rfl
theorem k_X12_287 : Cond.constantLong RX12 287 (Int64.ofInt (24395141)) ∈ m_G := m_inP pk_25 33 rfl rfl
theorem k_X12_289 : Cond.constantLong RX12 289 (Int64.ofInt (263558)) ∈ m_G := m_inP pk_25 34 rfl rfl
theorem k_X12_291 : Cond.constantLong RX12 291 (Int64.ofInt (6030452)) ∈ m_G := m_inP pk_25 35 rfl rfl
theorem k_X12_327 : Cond.constantLong RX12 327 (Int64.ofInt (100000000)) ∈ m_G := m_inP pk_26 38 rfl rfl
theorem k_X12_381 : Cond.constantLong RX12 381 (Int64.ofInt (15)) ∈ m_G := m_inP pk_27 17 rfl rfl
theorem k_X12_383 : Cond.constantLong RX12 383 (Int64.ofInt (6)) ∈ m_G := m_inP pk_27 18 rfl rfl
theorem k_X12_385 : Cond.constantLong RX12 385 (Int64.ofInt (11)) ∈ m_G := m_inP pk_27 19 rfl rfl
theorem k_X12_400 : Cond.constant RX12 400 (Int32.ofInt (1000000)) ∈ m_G := m_inP pk_27 23 rfl rfl
theorem k_X12_401 : Cond.constant RX12 401 (Int32.ofInt (2000000000)) ∈ m_G := m_inP pk_27 24 rfl rfl
theorem k_X12_437 : Cond.constantLong RX12 437 (Int64.ofInt (-2)) ∈ m_G := m_inP pk_28 30 rfl rfl
theorem k_X12_483 : Cond.constant RX12 483 (Int32.ofInt (4000000)) ∈ m_G := m_inP pk_29 27 rfl rfl
theorem k_X12_499 : Cond.constantLong RX12 499 (Int64.ofInt (9999)) ∈ m_G := m_inP pk_30 24 rfl rfl
theorem k_X12_504 : Cond.constantLong RX12 504 (Int64.ofInt (1103)) ∈ m_G := m_inP pk_30 37 rfl rfl
theorem k_X12_506 : Cond.constantLong RX12 506 (Int64.ofInt (12345)) ∈ m_G := m_inP pk_30 38 rfl rfl
theorem k_X12_508 : Cond.constantLong RX12 508 (Int64.ofInt (1000003)) ∈ m_G := m_inP pk_30 39 rfl rfl
theorem k_X12_510 : Cond.constantLong RX12 510 (Int64.ofInt (4)) ∈ m_G := m_inP pk_31 0 rfl rfl
theorem k_X12_524 : Cond.constantLong RX12 524 (Int64.ofInt (33)) ∈ m_G := m_inP pk_31 7 rfl rfl
def M_J0_charAt_5068e : m_M := (RJ0, yJ0_charAt_5068e, cJ0_charAt_5068e, 2, some .char, { frames := 4, cells := 0, slots := 0, locals := 85 }, 148, 4732)
def M_J0_checkIndex_df160 : m_M := (RJ0, yJ0_checkIndex_df160, cJ0_checkIndex_df160, 2, none, { frames := 1, cells := 0, slots := 0, locals := 22 }, 148, 4732)
def M_J0_coder_7d493 : m_M := (RJ0, yJ0_coder_7d493, cJ0_coder_7d493, 1, some .byte, { frames := 0, cells := 0, slots := 0, locals := 0 }, 148, 4732)
def M_J0_isLatin1_aae02 : m_M := (RJ0, yJ0_isLatin1_aae02, cJ0_isLatin1_aae02, 1, some .boolean, { frames := 0, cells := 0, slots := 0, locals := 0 }, 148, 4732)
def M_J0_length_8abf5 : m_M := (RJ0, yJ0_length_8abf5, cJ0_length_8abf5, 1, some .int, { frames := 1, cells := 0, slots := 0, locals := 20 }, 148, 4732)
def M_J1_charAt_3b067 : m_M := (RJ1, yJ1_charAt_3b067, cJ1_charAt_3b067, 2, some .char, { frames := 2, cells := 0, slots := 0, locals := 43 }, 148, 4732)
def M_J2_charAt_3b067 : m_M := (RJ2, yJ2_charAt_3b067, cJ2_charAt_3b067, 2, some .char, { frames := 3, cells := 0, slots := 0, locals := 64 }, 148, 4732)
def M_J2_checkIndex_2214a : m_M := (RJ2, yJ2_checkIndex_2214a, cJ2_checkIndex_2214a, 2, none, { frames := 2, cells := 0, slots := 0, locals := 43 }, 148, 4732)
def M_J2_getChar_3b067 : m_M := (RJ2, yJ2_getChar_3b067, cJ2_getChar_3b067, 2, some .char, { frames := 1, cells := 0, slots := 0, locals := 20 }, 148, 4732)
def M_J2_length_9d52b : m_M := (RJ2, yJ2_length_9d52b, cJ2_length_9d52b, 1, some .int, { frames := 0, cells := 0, slots := 0, locals := 0 }, 148, 4732)
def M_J3_checkIndex_8e157 : m_M := (RJ3, yJ3_checkIndex_8e157, cJ3_checkIndex_8e157, 3, some .int, { frames := 0, cells := 0, slots := 0, locals := 0 }, 148, 4732)
def M_J6_bitCount_0f7a4 : m_M := (RJ6, yJ6_bitCount_0f7a4, cJ6_bitCount_0f7a4, 1, some .int, { frames := 0, cells := 0, slots := 0, locals := 0 }, 148, 4732)
theorem t_J6_bitCount_0f7a4 : m_mS M_J6_bitCount_0f7a4 1 := ⟨m_inP pk_6 30 rfl rfl, ⟨m_inP pk_2 29 rfl rfl, m_inP pk_6 31 rfl rfl⟩, ⟨by decide +kernel, by decide +kernel, by decide +kernel⟩⟩
def M_J7_fill_53178 : m_M := (RJ7, yJ7_fill_53178, cJ7_fill_53178, 4, none, { frames := 0, cells := 0, slots := 0, locals := 0 }, 148, 4732)
theorem t_J7_fill_53178 : m_mS M_J7_fill_53178 2 := ⟨m_inP pk_2 32 rfl rfl, ⟨m_inP pk_2 16 rfl rfl, m_inP pk_2 33 rfl rfl⟩, ⟨by decide +kernel, by decide +kernel, by decide +kernel⟩⟩
def M_J9_max_7cf53 : m_M := (RJ9, yJ9_max_7cf53, cJ9_max_7cf53, 2, some .int, { frames := 0, cells := 0, slots := 0, locals := 0 }, 148, 4732)
theorem t_J9_max_7cf53 : m_mS M_J9_max_7cf53 2 := ⟨m_inP pk_3 39 rfl rfl, ⟨m_inP pk_2 20 rfl rfl, m_inP pk_4 0 rfl rfl⟩, ⟨by decide +kernel, by decide +kernel, by decide +kernel⟩⟩
def M_J9_max_f86c9 : m_M := (RJ9, yJ9_max_f86c9, cJ9_max_f86c9, 4, some .long, { frames := 0, cells := 0, slots := 0, locals := 0 }, 148, 4732)
theorem t_J9_max_f86c9 : m_mS M_J9_max_f86c9 2 := ⟨m_inP pk_15 14 rfl rfl, ⟨m_inP pk_2 20 rfl rfl, m_inP pk_15 15 rfl rfl⟩, ⟨by decide +kernel, by decide +kernel, by decide +kernel⟩⟩
def M_J9_min_7cf53 : m_M := (RJ9, yJ9_min_7cf53, cJ9_min_7cf53, 2, some .int, { frames := 0, cells := 0, slots := 0, locals := 0 }, 148, 4732)
theorem t_J9_min_7cf53 : m_mS M_J9_min_7cf53 2 := ⟨m_inP pk_9 17 rfl rfl, ⟨m_inP pk_2 20 rfl rfl, m_inP pk_9 18 rfl rfl⟩, ⟨by decide +kernel, by decide +kernel, by decide +kernel⟩⟩
def M_J9_min_f86c9 : m_M := (RJ9, yJ9_min_f86c9, cJ9_min_f86c9, 4, some .long, { frames := 0, cells := 0, slots := 0, locals := 0 }, 148, 4732)
theorem t_J9_min_f86c9 : m_mS M_J9_min_f86c9 2 := ⟨m_inP pk_12 36 rfl rfl, ⟨m_inP pk_2 20 rfl rfl, m_inP pk_12 37 rfl rfl⟩, ⟨by decide +kernel, by decide +kernel, by decide +kernel⟩⟩
def M_J13_compare_74951 : m_M := (RJ13, yJ13_compare_74951, cJ13_compare_74951, 4, some .int, { frames := 0, cells := 0, slots := 0, locals := 0 }, 148, 4732)
theorem t_J13_compare_74951 : m_mS M_J13_compare_74951 2 := ⟨m_inP pk_14 29 rfl rfl, ⟨m_inP pk_2 30 rfl rfl, m_inP pk_14 30 rfl rfl⟩, ⟨by decide +kernel, by decide +kernel, by decide +kernel⟩⟩
def M_X0_areTogether : m_M := (RX0, yX0_areTogether, cX0_areTogether, 3, some .boolean, { frames := 0, cells := 0, slots := 0, locals := 0 }, 148, 4732)
theorem t_X0_areTogether : m_mV M_X0_areTogether 2 := ⟨⟨m_inP pk_16 33 rfl rfl, m_inP pk_16 34 rfl rfl⟩, ⟨m_inP pk_2 24 rfl rfl, m_inP pk_16 35 rfl rfl⟩, ⟨by decide +kernel, by decide +kernel, by decide +kernel⟩⟩
def M_X0_bind : m_M := (RX0, yX0_bind, cX0_bind, 4, none, { frames := 2, cells := 0, slots := 0, locals := 46 }, 148, 4732)
theorem t_X0_bind : m_mV M_X0_bind 1 := ⟨⟨m_inP pk_16 21 rfl rfl, m_inP pk_16 22 rfl rfl⟩, ⟨m_inP pk_2 24 rfl rfl, m_inP pk_16 23 rfl rfl⟩, ⟨by decide +kernel, by decide +kernel, by decide +kernel⟩⟩
def M_X0_greatest : m_M := (RX0, yX0_greatest, cX0_greatest, 4, some .int, { frames := 3, cells := 0, slots := 0, locals := 68 }, 148, 4732)
theorem t_X0_greatest : m_mV M_X0_greatest 1 := ⟨⟨m_inP pk_17 0 rfl rfl, m_inP pk_17 1 rfl rfl⟩, ⟨m_inP pk_2 24 rfl rfl, m_inP pk_17 2 rfl rfl⟩, ⟨by decide +kernel, by decide +kernel, by decide +kernel⟩⟩
def M_X0_many : m_M := (RX0, yX0_many, cX0_many, 4, some .int, { frames := 2, cells := 0, slots := 0, locals := 44 }, 148, 4732)
theorem t_X0_many : m_mV M_X0_many 1 := ⟨⟨m_inP pk_17 8 rfl rfl, m_inP pk_17 9 rfl rfl⟩, ⟨m_inP pk_2 24 rfl rfl, m_inP pk_17 10 rfl rfl⟩, ⟨by decide +kernel, by decide +kernel, by decide +kernel⟩⟩
def M_X0_sizeOf : m_M := (RX0, yX0_sizeOf, cX0_sizeOf, 5, some .int, { frames := 2, cells := 0, slots := 0, locals := 44 }, 148, 4732)
theorem t_X0_sizeOf : m_mV M_X0_sizeOf 2 := ⟨⟨m_inP pk_17 4 rfl rfl, m_inP pk_0 32 rfl rfl⟩, ⟨m_inP pk_2 24 rfl rfl, m_inP pk_17 5 rfl rfl⟩, ⟨by decide +kernel, by decide +kernel, by decide +kernel⟩⟩
def M_X0_unite : m_M := (RX0, yX0_unite, cX0_unite, 6, none, { frames := 1, cells := 0, slots := 0, locals := 21 }, 148, 4732)
theorem t_X0_unite : m_mV M_X0_unite 2 := ⟨⟨m_inP pk_16 27 rfl rfl, m_inP pk_0 31 rfl rfl⟩, ⟨m_inP pk_2 24 rfl rfl, m_inP pk_16 28 rfl rfl⟩, ⟨by decide +kernel, by decide +kernel, by decide +kernel⟩⟩
def M_X1_advance : m_M := (RX1, yX1_advance, cX1_advance, 2, none, { frames := 1, cells := 0, slots := 0, locals := 20 }, 148, 4732)
theorem t_X1_advance : m_mV M_X1_advance 0 := ⟨⟨m_inP pk_8 34 rfl rfl, m_inP pk_0 3 rfl rfl⟩, ⟨m_inP pk_2 18 rfl rfl, m_inP pk_8 35 rfl rfl⟩, ⟨by decide +kernel, by decide +kernel, by decide +kernel⟩⟩
def M_X1_familyOf : m_M := (RX1, yX1_familyOf, cX1_familyOf, 1, some .int, { frames := 0, cells := 0, slots := 0, locals := 0 }, 148, 4732)
theorem t_X1_familyOf : m_mS M_X1_familyOf 1 := ⟨m_inP pk_8 37 rfl rfl, ⟨m_inP pk_2 18 rfl rfl, m_inP pk_8 38 rfl rfl⟩, ⟨by decide +kernel, by decide +kernel, by decide +kernel⟩⟩
def M_X1_readCut : m_M := (RX1, yX1_readCut, cX1_readCut, 4, some .boolean, { frames := 7, cells := 0, slots := 0, locals := 149 }, 148, 4732)
theorem t_X1_readCut : m_mV M_X1_readCut 2 := ⟨⟨m_inP pk_9 24 rfl rfl, m_inP pk_0 10 rfl rfl⟩, ⟨m_inP pk_2 18 rfl rfl, m_inP pk_9 25 rfl rfl⟩, ⟨by decide +kernel, by decide +kernel, by decide +kernel⟩⟩
def M_X1_readMeasure : m_M := (RX1, yX1_readMeasure, cX1_readMeasure, 6, some .boolean, { frames := 7, cells := 0, slots := 0, locals := 149 }, 148, 4732)
theorem t_X1_readMeasure : m_mV M_X1_readMeasure 2 := ⟨⟨m_inP pk_9 27 rfl rfl, m_inP pk_0 11 rfl rfl⟩, ⟨m_inP pk_2 18 rfl rfl, m_inP pk_9 28 rfl rfl⟩, ⟨by decide +kernel, by decide +kernel, by decide +kernel⟩⟩
def M_X1_readOnto : m_M := (RX1, yX1_readOnto, cX1_readOnto, 4, some .int, { frames := 9, cells := 0, slots := 0, locals := 197 }, 148, 4732)
theorem t_X1_readOnto : m_mV M_X1_readOnto 1 := ⟨⟨m_inP pk_8 30 rfl rfl, m_inP pk_8 31 rfl rfl⟩, ⟨m_inP pk_2 18 rfl rfl, m_inP pk_8 32 rfl rfl⟩, ⟨by decide +kernel, by decide +kernel, by decide +kernel⟩⟩
def M_X1_readShorter : m_M := (RX1, yX1_readShorter, cX1_readShorter, 5, some .boolean, { frames := 7, cells := 0, slots := 0, locals := 149 }, 148, 4732)
theorem t_X1_readShorter : m_mV M_X1_readShorter 1 := ⟨⟨m_inP pk_9 32 rfl rfl, m_inP pk_0 12 rfl rfl⟩, ⟨m_inP pk_2 18 rfl rfl, m_inP pk_9 33 rfl rfl⟩, ⟨by decide +kernel, by decide +kernel, by decide +kernel⟩⟩
def M_X1_readThing : m_M := (RX1, yX1_readThing, cX1_readThing, 4, some .boolean, { frames := 8, cells := 0, slots := 0, locals := 174 }, 148, 4732)
theorem t_X1_readThing : m_mV M_X1_readThing 1 := ⟨⟨m_inP pk_9 21 rfl rfl, m_inP pk_0 9 rfl rfl⟩, ⟨m_inP pk_2 18 rfl rfl, m_inP pk_9 22 rfl rfl⟩, ⟨by decide +kernel, by decide +kernel, by decide +kernel⟩⟩
def M_X1_readWeeks : m_M := (RX1, yX1_readWeeks, cX1_readWeeks, 7, some .boolean, { frames := 7, cells := 0, slots := 0, locals := 149 }, 148, 4732)
theorem t_X1_readWeeks : m_mV M_X1_readWeeks 1 := ⟨⟨m_inP pk_9 8 rfl rfl, m_inP pk_0 6 rfl rfl⟩, ⟨m_inP pk_2 18 rfl rfl, m_inP pk_9 9 rfl rfl⟩, ⟨by decide +kernel, by decide +kernel, by decide +kernel⟩⟩
def M_X1_stands : m_M := (RX1, yX1_stands, cX1_stands, 3, some .boolean, { frames := 5, cells := 0, slots := 0, locals := 106 }, 148, 4732)
theorem t_X1_stands : m_mV M_X1_stands 1 := ⟨⟨m_inP pk_9 3 rfl rfl, m_inP pk_0 5 rfl rfl⟩, ⟨m_inP pk_2 18 rfl rfl, m_inP pk_9 4 rfl rfl⟩, ⟨by decide +kernel, by decide +kernel, by decide +kernel⟩⟩
def M_X1_take : m_M := (RX1, yX1_take, cX1_take, 2, some .boolean, { frames := 6, cells := 0, slots := 0, locals := 128 }, 148, 4732)
theorem t_X1_take : m_mV M_X1_take 1 := ⟨⟨m_inP pk_9 0 rfl rfl, m_inP pk_0 4 rfl rfl⟩, ⟨m_inP pk_2 18 rfl rfl, m_inP pk_9 1 rfl rfl⟩, ⟨by decide +kernel, by decide +kernel, by decide +kernel⟩⟩
def M_X1_takeNumber : m_M := (RX1, yX1_takeNumber, cX1_takeNumber, 4, some .int, { frames := 2, cells := 0, slots := 0, locals := 43 }, 148, 4732)
theorem t_X1_takeNumber : m_mV M_X1_takeNumber 2 := ⟨⟨m_inP pk_9 11 rfl rfl, m_inP pk_0 7 rfl rfl⟩, ⟨m_inP pk_2 18 rfl rfl, m_inP pk_9 12 rfl rfl⟩, ⟨by decide +kernel, by decide +kernel, by decide +kernel⟩⟩
def M_X1_value : m_M := (RX1, yX1_value, cX1_value, 3, some .int, { frames := 1, cells := 0, slots := 0, locals := 21 }, 148, 4732)
theorem t_X1_value : m_mV M_X1_value 0 := ⟨⟨m_inP pk_9 14 rfl rfl, m_inP pk_0 8 rfl rfl⟩, ⟨m_inP pk_2 18 rfl rfl, m_inP pk_9 15 rfl rfl⟩, ⟨by decide +kernel, by decide +kernel, by decide +kernel⟩⟩
def M_X2_clear : m_M := (RX2, yX2_clear, cX2_clear, 1, none, { frames := 0, cells := 0, slots := 0, locals := 0 }, 148, 4732)
theorem t_X2_clear : m_mV M_X2_clear 0 := ⟨⟨m_inP pk_10 15 rfl rfl, m_inP pk_10 16 rfl rfl⟩, ⟨m_inP pk_2 21 rfl rfl, m_inP pk_10 17 rfl rfl⟩, ⟨by decide +kernel, by decide +kernel, by decide +kernel⟩⟩
def M_X2_contradicts : m_M := (RX2, yX2_contradicts, cX2_contradicts, 6, some .boolean, { frames := 0, cells := 0, slots := 0, locals := 0 }, 148, 4732)
theorem t_X2_contradicts : m_mV M_X2_contradicts 1 := ⟨⟨m_inP pk_11 29 rfl rfl, m_inP pk_11 30 rfl rfl⟩, ⟨m_inP pk_2 21 rfl rfl, m_inP pk_11 31 rfl rfl⟩, ⟨by decide +kernel, by decide +kernel, by decide +kernel⟩⟩
def M_X2_isBelowOne : m_M := (RX2, yX2_isBelowOne, cX2_isBelowOne, 1, some .boolean, { frames := 0, cells := 0, slots := 0, locals := 0 }, 148, 4732)
theorem t_X2_isBelowOne : m_mV M_X2_isBelowOne 0 := ⟨⟨m_inP pk_11 18 rfl rfl, m_inP pk_11 19 rfl rfl⟩, ⟨m_inP pk_2 21 rfl rfl, m_inP pk_11 20 rfl rfl⟩, ⟨by decide +kernel, by decide +kernel, by decide +kernel⟩⟩
def M_X2_lessen : m_M := (RX2, yX2_lessen, cX2_lessen, 10, none, { frames := 1, cells := 0, slots := 0, locals := 25 }, 148, 4732)
theorem t_X2_lessen : m_mV M_X2_lessen 3 := ⟨⟨m_inP pk_11 7 rfl rfl, m_inP pk_11 8 rfl rfl⟩, ⟨m_inP pk_2 21 rfl rfl, m_inP pk_11 9 rfl rfl⟩, ⟨by decide +kernel, by decide +kernel, by decide +kernel⟩⟩
def M_X2_put : m_M := (RX2, yX2_put, cX2_put, 6, none, { frames := 0, cells := 0, slots := 0, locals := 0 }, 148, 4732)
theorem t_X2_put : m_mV M_X2_put 3 := ⟨⟨m_inP pk_11 11 rfl rfl, m_inP pk_11 12 rfl rfl⟩, ⟨m_inP pk_2 21 rfl rfl, m_inP pk_11 13 rfl rfl⟩, ⟨by decide +kernel, by decide +kernel, by decide +kernel⟩⟩
def M_X3_leaveOut : m_M := (RX3, yX3_leaveOut, cX3_leaveOut, 6, some .int, { frames := 4, cells := 0, slots := 0, locals := 105 }, 148, 4732)
theorem t_X3_leaveOut : m_mV M_X3_leaveOut 2 := ⟨⟨m_inP pk_17 15 rfl rfl, m_inP pk_17 16 rfl rfl⟩, ⟨m_inP pk_2 25 rfl rfl, m_inP pk_17 17 rfl rfl⟩, ⟨by decide +kernel, by decide +kernel, by decide +kernel⟩⟩
def M_X3_search : m_M := (RX3, yX3_search, cX3_search, 7, some .boolean, { frames := 5, cells := 0, slots := 0, locals := 130 }, 148, 4732)
theorem t_X3_search : m_mV M_X3_search 1 := ⟨⟨m_inP pk_17 23 rfl rfl, m_inP pk_17 24 rfl rfl⟩, ⟨m_inP pk_2 25 rfl rfl, m_inP pk_17 25 rfl rfl⟩, ⟨by decide +kernel, by decide +kernel, by decide +kernel⟩⟩
def M_X3_strike : m_M := (RX3, yX3_strike, cX3_strike, 3, none, { frames := 4, cells := 0, slots := 0, locals := 105 }, 148, 4732)
theorem t_X3_strike : m_mV M_X3_strike 2 := ⟨⟨m_inP pk_17 29 rfl rfl, m_inP pk_0 33 rfl rfl⟩, ⟨m_inP pk_2 25 rfl rfl, m_inP pk_17 30 rfl rfl⟩, ⟨by decide +kernel, by decide +kernel, by decide +kernel⟩⟩
def M_X4_addEntry : m_M := (RX4, yX4_addEntry, cX4_addEntry, 5, none, { frames := 1, cells := 0, slots := 0, locals := 20 }, 148, 4732)
theorem t_X4_addEntry : m_mV M_X4_addEntry 4 := ⟨⟨m_inP pk_7 17 rfl rfl, m_inP pk_7 18 rfl rfl⟩, ⟨m_inP pk_2 15 rfl rfl, m_inP pk_7 19 rfl rfl⟩, ⟨by decide +kernel, by decide +kernel, by decide +kernel⟩⟩
def M_X4_addShorter : m_M := (RX4, yX4_addShorter, cX4_addShorter, 3, none, { frames := 0, cells := 0, slots := 0, locals := 0 }, 148, 4732)
theorem t_X4_addShorter : m_mV M_X4_addShorter 2 := ⟨⟨m_inP pk_6 36 rfl rfl, m_inP pk_6 37 rfl rfl⟩, ⟨m_inP pk_2 15 rfl rfl, m_inP pk_6 38 rfl rfl⟩, ⟨by decide +kernel, by decide +kernel, by decide +kernel⟩⟩
def M_X4_copyFrom : m_M := (RX4, yX4_copyFrom, cX4_copyFrom, 2, none, { frames := 1, cells := 0, slots := 0, locals := 28 }, 148, 4732)
theorem t_X4_copyFrom : m_mV M_X4_copyFrom 1 := ⟨⟨m_inP pk_8 26 rfl rfl, m_inP pk_8 27 rfl rfl⟩, ⟨m_inP pk_2 15 rfl rfl, m_inP pk_8 28 rfl rfl⟩, ⟨by decide +kernel, by decide +kernel, by decide +kernel⟩⟩
def M_X4_endHalves : m_M := (RX4, yX4_endHalves, cX4_endHalves, 2, some .int, { frames := 1, cells := 0, slots := 0, locals := 21 }, 148, 4732)
theorem t_X4_endHalves : m_mV M_X4_endHalves 1 := ⟨⟨m_inP pk_10 28 rfl rfl, m_inP pk_10 29 rfl rfl⟩, ⟨m_inP pk_2 15 rfl rfl, m_inP pk_10 30 rfl rfl⟩, ⟨by decide +kernel, by decide +kernel, by decide +kernel⟩⟩
def M_X4_hasCutsByWorld : m_M := (RX4, yX4_hasCutsByWorld, cX4_hasCutsByWorld, 2, some .boolean, { frames := 0, cells := 0, slots := 0, locals := 0 }, 148, 4732)
theorem t_X4_hasCutsByWorld : m_mV M_X4_hasCutsByWorld 0 := ⟨⟨m_inP pk_19 16 rfl rfl, m_inP pk_19 17 rfl rfl⟩, ⟨m_inP pk_2 15 rfl rfl, m_inP pk_19 18 rfl rfl⟩, ⟨by decide +kernel, by decide +kernel, by decide +kernel⟩⟩
def M_X4_hasRoom : m_M := (RX4, yX4_hasRoom, cX4_hasRoom, 1, some .boolean, { frames := 0, cells := 0, slots := 0, locals := 0 }, 148, 4732)
theorem t_X4_hasRoom : m_mV M_X4_hasRoom 0 := ⟨⟨m_inP pk_7 13 rfl rfl, m_inP pk_7 14 rfl rfl⟩, ⟨m_inP pk_2 15 rfl rfl, m_inP pk_7 15 rfl rfl⟩, ⟨by decide +kernel, by decide +kernel, by decide +kernel⟩⟩
def M_X4_hasRoomForShorter : m_M := (RX4, yX4_hasRoomForShorter, cX4_hasRoomForShorter, 1, some .boolean, { frames := 2, cells := 0, slots := 0, locals := 40 }, 148, 4732)
theorem t_X4_hasRoomForShorter : m_mV M_X4_hasRoomForShorter 0 := ⟨⟨m_inP pk_6 22 rfl rfl, m_inP pk_6 23 rfl rfl⟩, ⟨m_inP pk_2 15 rfl rfl, m_inP pk_6 24 rfl rfl⟩, ⟨by decide +kernel, by decide +kernel, by decide +kernel⟩⟩
def M_X4_hasShortersByWorld : m_M := (RX4, yX4_hasShortersByWorld, cX4_hasShortersByWorld, 4, some .boolean, { frames := 1, cells := 0, slots := 0, locals := 21 }, 148, 4732)
theorem t_X4_hasShortersByWorld : m_mV M_X4_hasShortersByWorld 0 := ⟨⟨m_inP pk_19 12 rfl rfl, m_inP pk_19 13 rfl rfl⟩, ⟨m_inP pk_2 15 rfl rfl, m_inP pk_19 14 rfl rfl⟩, ⟨by decide +kernel, by decide +kernel, by decide +kernel⟩⟩
def M_X4_isCounting : m_M := (RX4, yX4_isCounting, cX4_isCounting, 2, some .boolean, { frames := 1, cells := 0, slots := 0, locals := 21 }, 148, 4732)
theorem t_X4_isCounting : m_mV M_X4_isCounting 1 := ⟨⟨m_inP pk_7 25 rfl rfl, m_inP pk_7 26 rfl rfl⟩, ⟨m_inP pk_2 15 rfl rfl, m_inP pk_7 27 rfl rfl⟩, ⟨by decide +kernel, by decide +kernel, by decide +kernel⟩⟩
def M_X4_isShorter : m_M := (RX4, yX4_isShorter, cX4_isShorter, 3, some .boolean, { frames := 1, cells := 0, slots := 0, locals := 21 }, 148, 4732)
theorem t_X4_isShorter : m_mV M_X4_isShorter 2 := ⟨⟨m_inP pk_6 15 rfl rfl, m_inP pk_6 16 rfl rfl⟩, ⟨m_inP pk_2 15 rfl rfl, m_inP pk_6 17 rfl rfl⟩, ⟨by decide +kernel, by decide +kernel, by decide +kernel⟩⟩
def M_X4_isSoByWorld : m_M := (RX4, yX4_isSoByWorld, cX4_isSoByWorld, 7, some .boolean, { frames := 2, cells := 0, slots := 0, locals := 44 }, 148, 4732)
theorem t_X4_isSoByWorld : m_mV M_X4_isSoByWorld 1 := ⟨⟨m_inP pk_19 5 rfl rfl, m_inP pk_19 6 rfl rfl⟩, ⟨m_inP pk_2 15 rfl rfl, m_inP pk_19 7 rfl rfl⟩, ⟨by decide +kernel, by decide +kernel, by decide +kernel⟩⟩
def M_X4_isThere : m_M := (RX4, yX4_isThere, cX4_isThere, 3, some .boolean, { frames := 1, cells := 0, slots := 0, locals := 22 }, 148, 4732)
theorem t_X4_isThere : m_mV M_X4_isThere 1 := ⟨⟨m_inP pk_11 39 rfl rfl, m_inP pk_12 0 rfl rfl⟩, ⟨m_inP pk_2 15 rfl rfl, m_inP pk_12 1 rfl rfl⟩, ⟨by decide +kernel, by decide +kernel, by decide +kernel⟩⟩
def M_X4_keeperOf : m_M := (RX4, yX4_keeperOf, cX4_keeperOf, 2, some .int, { frames := 0, cells := 0, slots := 0, locals := 0 }, 148, 4732)
theorem t_X4_keeperOf : m_mV M_X4_keeperOf 1 := ⟨⟨m_inP pk_10 23 rfl rfl, m_inP pk_10 24 rfl rfl⟩, ⟨m_inP pk_2 15 rfl rfl, m_inP pk_10 25 rfl rfl⟩, ⟨by decide +kernel, by decide +kernel, by decide +kernel⟩⟩
def M_X4_leastHalves : m_M := (RX4, yX4_leastHalves, cX4_leastHalves, 2, some .int, { frames := 0, cells := 0, slots := 0, locals := 0 }, 148, 4732)
theorem t_X4_leastHalves : m_mV M_X4_leastHalves 1 := ⟨⟨m_inP pk_10 32 rfl rfl, m_inP pk_10 33 rfl rfl⟩, ⟨m_inP pk_2 15 rfl rfl, m_inP pk_10 34 rfl rfl⟩, ⟨by decide +kernel, by decide +kernel, by decide +kernel⟩⟩
def M_X4_lengthIn : m_M := (RX4, yX4_lengthIn, cX4_lengthIn, 4, some .int, { frames := 0, cells := 0, slots := 0, locals := 0 }, 148, 4732)
theorem t_X4_lengthIn : m_mV M_X4_lengthIn 2 := ⟨⟨m_inP pk_8 0 rfl rfl, m_inP pk_8 1 rfl rfl⟩, ⟨m_inP pk_2 15 rfl rfl, m_inP pk_8 2 rfl rfl⟩, ⟨by decide +kernel, by decide +kernel, by decide +kernel⟩⟩
def M_X4_lengthOf : m_M := (RX4, yX4_lengthOf, cX4_lengthOf, 2, some .int, { frames := 1, cells := 0, slots := 0, locals := 23 }, 148, 4732)
theorem t_X4_lengthOf : m_mV M_X4_lengthOf 1 := ⟨⟨m_inP pk_7 36 rfl rfl, m_inP pk_7 37 rfl rfl⟩, ⟨m_inP pk_2 15 rfl rfl, m_inP pk_7 38 rfl rfl⟩, ⟨by decide +kernel, by decide +kernel, by decide +kernel⟩⟩
def M_X4_setCounting : m_M := (RX4, yX4_setCounting, cX4_setCounting, 4, none, { frames := 0, cells := 0, slots := 0, locals := 0 }, 148, 4732)
theorem t_X4_setCounting : m_mV M_X4_setCounting 2 := ⟨⟨m_inP pk_7 29 rfl rfl, m_inP pk_7 30 rfl rfl⟩, ⟨m_inP pk_2 15 rfl rfl, m_inP pk_7 31 rfl rfl⟩, ⟨by decide +kernel, by decide +kernel, by decide +kernel⟩⟩
def M_X4_shorters : m_M := (RX4, yX4_shorters, cX4_shorters, 1, some .int, { frames := 1, cells := 0, slots := 0, locals := 20 }, 148, 4732)
theorem t_X4_shorters : m_mV M_X4_shorters 0 := ⟨⟨m_inP pk_6 26 rfl rfl, m_inP pk_6 27 rfl rfl⟩, ⟨m_inP pk_2 15 rfl rfl, m_inP pk_6 28 rfl rfl⟩, ⟨by decide +kernel, by decide +kernel, by decide +kernel⟩⟩
def M_X4_wholeFeet : m_M := (RX4, yX4_wholeFeet, cX4_wholeFeet, 3, some .int, { frames := 1, cells := 0, slots := 0, locals := 23 }, 148, 4732)
theorem t_X4_wholeFeet : m_mV M_X4_wholeFeet 2 := ⟨⟨m_inP pk_19 33 rfl rfl, m_inP pk_19 34 rfl rfl⟩, ⟨m_inP pk_2 15 rfl rfl, m_inP pk_19 35 rfl rfl⟩, ⟨by decide +kernel, by decide +kernel, by decide +kernel⟩⟩
def M_X5_bestTrade : m_M := (RX5, yX5_bestTrade, cX5_bestTrade, 8, some .int, { frames := 2, cells := 0, slots := 0, locals := 45 }, 148, 4732)
theorem t_X5_bestTrade : m_mV M_X5_bestTrade 2 := ⟨⟨m_inP pk_19 29 rfl rfl, m_inP pk_19 30 rfl rfl⟩, ⟨m_inP pk_2 27 rfl rfl, m_inP pk_19 31 rfl rfl⟩, ⟨by decide +kernel, by decide +kernel, by decide +kernel⟩⟩
def M_X5_draw : m_M := (RX5, yX5_draw, cX5_draw, 4, none, { frames := 0, cells := 0, slots := 0, locals := 0 }, 148, 4732)
theorem t_X5_draw : m_mV M_X5_draw 1 := ⟨⟨m_inP pk_19 24 rfl rfl, m_inP pk_19 25 rfl rfl⟩, ⟨m_inP pk_2 27 rfl rfl, m_inP pk_19 26 rfl rfl⟩, ⟨by decide +kernel, by decide +kernel, by decide +kernel⟩⟩
def M_X6_gather : m_M := (RX6, yX6_gather, cX6_gather, 3, some .boolean, { frames := 3, cells := 0, slots := 0, locals := 64 }, 148, 4732)
theorem t_X6_gather : m_mV M_X6_gather 1 := ⟨⟨m_inP pk_18 2 rfl rfl, m_inP pk_0 34 rfl rfl⟩, ⟨m_inP pk_2 26 rfl rfl, m_inP pk_18 3 rfl rfl⟩, ⟨by decide +kernel, by decide +kernel, by decide +kernel⟩⟩
def M_X6_hasEntry : m_M := (RX6, yX6_hasEntry, cX6_hasEntry, 3, some .boolean, { frames := 2, cells := 0, slots := 0, locals := 42 }, 148, 4732)
theorem t_X6_hasEntry : m_mS M_X6_hasEntry 2 := ⟨m_inP pk_18 5 rfl rfl, ⟨m_inP pk_2 26 rfl rfl, m_inP pk_18 6 rfl rfl⟩, ⟨by decide +kernel, by decide +kernel, by decide +kernel⟩⟩
def M_X6_keeperBy : m_M := (RX6, yX6_keeperBy, cX6_keeperBy, 2, some .int, { frames := 0, cells := 0, slots := 0, locals := 0 }, 148, 4732)
theorem t_X6_keeperBy : m_mS M_X6_keeperBy 2 := ⟨m_inP pk_18 9 rfl rfl, ⟨m_inP pk_2 26 rfl rfl, m_inP pk_18 10 rfl rfl⟩, ⟨by decide +kernel, by decide +kernel, by decide +kernel⟩⟩
def M_X6_note : m_M := (RX6, yX6_note, cX6_note, 3, none, { frames := 1, cells := 0, slots := 0, locals := 21 }, 148, 4732)
theorem t_X6_note : m_mV M_X6_note 1 := ⟨⟨m_inP pk_18 13 rfl rfl, m_inP pk_0 35 rfl rfl⟩, ⟨m_inP pk_2 26 rfl rfl, m_inP pk_18 14 rfl rfl⟩, ⟨by decide +kernel, by decide +kernel, by decide +kernel⟩⟩
def M_X6_onlyKeeper : m_M := (RX6, yX6_onlyKeeper, cX6_onlyKeeper, 3, some .int, { frames := 2, cells := 0, slots := 0, locals := 45 }, 148, 4732)
theorem t_X6_onlyKeeper : m_mV M_X6_onlyKeeper 1 := ⟨⟨m_inP pk_18 16 rfl rfl, m_inP pk_18 17 rfl rfl⟩, ⟨m_inP pk_2 26 rfl rfl, m_inP pk_18 18 rfl rfl⟩, ⟨by decide +kernel, by decide +kernel, by decide +kernel⟩⟩
def M_X6_placeOf : m_M := (RX6, yX6_placeOf, cX6_placeOf, 3, some .int, { frames := 0, cells := 0, slots := 0, locals := 0 }, 148, 4732)
theorem t_X6_placeOf : m_mV M_X6_placeOf 1 := ⟨⟨m_inP pk_18 20 rfl rfl, m_inP pk_0 36 rfl rfl⟩, ⟨m_inP pk_2 26 rfl rfl, m_inP pk_18 21 rfl rfl⟩, ⟨by decide +kernel, by decide +kernel, by decide +kernel⟩⟩
def M_X6_seek : m_M := (RX6, yX6_seek, cX6_seek, 5, some .boolean, { frames := 4, cells := 0, slots := 0, locals := 105 }, 148, 4732)
theorem t_X6_seek : m_mV M_X6_seek 1 := ⟨⟨m_inP pk_17 37 rfl rfl, m_inP pk_17 38 rfl rfl⟩, ⟨m_inP pk_2 26 rfl rfl, m_inP pk_17 39 rfl rfl⟩, ⟨by decide +kernel, by decide +kernel, by decide +kernel⟩⟩
def M_X6_waysWith : m_M := (RX6, yX6_waysWith, cX6_waysWith, 4, some .int, { frames := 1, cells := 0, slots := 0, locals := 22 }, 148, 4732)
theorem t_X6_waysWith : m_mV M_X6_waysWith 2 := ⟨⟨m_inP pk_18 23 rfl rfl, m_inP pk_18 24 rfl rfl⟩, ⟨m_inP pk_2 26 rfl rfl, m_inP pk_18 25 rfl rfl⟩, ⟨by decide +kernel, by decide +kernel, by decide +kernel⟩⟩
def M_X7_allows : m_M := (RX7, yX7_allows, cX7_allows, 3, some .boolean, { frames := 3, cells := 0, slots := 0, locals := 71 }, 148, 4732)
theorem t_X7_allows : m_mV M_X7_allows 2 := ⟨⟨m_inP pk_15 4 rfl rfl, m_inP pk_15 5 rfl rfl⟩, ⟨m_inP pk_2 22 rfl rfl, m_inP pk_15 6 rfl rfl⟩, ⟨by decide +kernel, by decide +kernel, by decide +kernel⟩⟩
def M_X7_firstNumber : m_M := (RX7, yX7_firstNumber, cX7_firstNumber, 2, some .int, { frames := 2, cells := 0, slots := 0, locals := 47 }, 148, 4732)
theorem t_X7_firstNumber : m_mV M_X7_firstNumber 1 := ⟨⟨m_inP pk_15 8 rfl rfl, m_inP pk_15 9 rfl rfl⟩, ⟨m_inP pk_2 22 rfl rfl, m_inP pk_15 10 rfl rfl⟩, ⟨by decide +kernel, by decide +kernel, by decide +kernel⟩⟩
def M_X7_forces : m_M := (RX7, yX7_forces, cX7_forces, 3, some .boolean, { frames := 2, cells := 0, slots := 0, locals := 50 }, 148, 4732)
theorem t_X7_forces : m_mV M_X7_forces 2 := ⟨⟨m_inP pk_15 25 rfl rfl, m_inP pk_15 26 rfl rfl⟩, ⟨m_inP pk_2 22 rfl rfl, m_inP pk_15 27 rfl rfl⟩, ⟨by decide +kernel, by decide +kernel, by decide +kernel⟩⟩
def M_X7_greatestMillionths : m_M := (RX7, yX7_greatestMillionths, cX7_greatestMillionths, 1, some .long, { frames := 1, cells := 0, slots := 0, locals := 23 }, 148, 4732)
theorem t_X7_greatestMillionths : m_mV M_X7_greatestMillionths 0 := ⟨⟨m_inP pk_12 39 rfl rfl, m_inP pk_13 0 rfl rfl⟩, ⟨m_inP pk_2 22 rfl rfl, m_inP pk_13 1 rfl rfl⟩, ⟨by decide +kernel, by decide +kernel, by decide +kernel⟩⟩
def M_X7_greatestNumber : m_M := (RX7, yX7_greatestNumber, cX7_greatestNumber, 8, some .long, { frames := 1, cells := 0, slots := 0, locals := 23 }, 148, 4732)
theorem t_X7_greatestNumber : m_mV M_X7_greatestNumber 1 := ⟨⟨m_inP pk_13 26 rfl rfl, m_inP pk_13 27 rfl rfl⟩, ⟨m_inP pk_2 22 rfl rfl, m_inP pk_13 28 rfl rfl⟩, ⟨by decide +kernel, by decide +kernel, by decide +kernel⟩⟩
def M_X7_isAlways : m_M := (RX7, yX7_isAlways, cX7_isAlways, 3, some .boolean, { frames := 0, cells := 0, slots := 0, locals := 0 }, 148, 4732)
theorem t_X7_isAlways : m_mV M_X7_isAlways 1 := ⟨⟨m_inP pk_13 7 rfl rfl, m_inP pk_13 8 rfl rfl⟩, ⟨m_inP pk_2 22 rfl rfl, m_inP pk_13 9 rfl rfl⟩, ⟨by decide +kernel, by decide +kernel, by decide +kernel⟩⟩
def M_X7_isTheSame : m_M := (RX7, yX7_isTheSame, cX7_isTheSame, 1, some .boolean, { frames := 0, cells := 0, slots := 0, locals := 0 }, 148, 4732)
theorem t_X7_isTheSame : m_mV M_X7_isTheSame 0 := ⟨⟨m_inP pk_13 35 rfl rfl, m_inP pk_13 36 rfl rfl⟩, ⟨m_inP pk_2 22 rfl rfl, m_inP pk_13 37 rfl rfl⟩, ⟨by decide +kernel, by decide +kernel, by decide +kernel⟩⟩
def M_X7_lastNumber : m_M := (RX7, yX7_lastNumber, cX7_lastNumber, 2, some .int, { frames := 2, cells := 0, slots := 0, locals := 50 }, 148, 4732)
theorem t_X7_lastNumber : m_mV M_X7_lastNumber 1 := ⟨⟨m_inP pk_15 18 rfl rfl, m_inP pk_15 19 rfl rfl⟩, ⟨m_inP pk_2 22 rfl rfl, m_inP pk_15 20 rfl rfl⟩, ⟨by decide +kernel, by decide +kernel, by decide +kernel⟩⟩
def M_X7_leastMillionths : m_M := (RX7, yX7_leastMillionths, cX7_leastMillionths, 1, some .long, { frames := 1, cells := 0, slots := 0, locals := 23 }, 148, 4732)
theorem t_X7_leastMillionths : m_mV M_X7_leastMillionths 0 := ⟨⟨m_inP pk_12 24 rfl rfl, m_inP pk_12 25 rfl rfl⟩, ⟨m_inP pk_2 22 rfl rfl, m_inP pk_12 26 rfl rfl⟩, ⟨by decide +kernel, by decide +kernel, by decide +kernel⟩⟩
def M_X7_leastNumber : m_M := (RX7, yX7_leastNumber, cX7_leastNumber, 5, some .long, { frames := 1, cells := 0, slots := 0, locals := 23 }, 148, 4732)
theorem t_X7_leastNumber : m_mV M_X7_leastNumber 1 := ⟨⟨m_inP pk_13 21 rfl rfl, m_inP pk_13 22 rfl rfl⟩, ⟨m_inP pk_2 22 rfl rfl, m_inP pk_13 23 rfl rfl⟩, ⟨by decide +kernel, by decide +kernel, by decide +kernel⟩⟩
def M_X7_manyNumbers : m_M := (RX7, yX7_manyNumbers, cX7_manyNumbers, 2, some .int, { frames := 3, cells := 0, slots := 0, locals := 71 }, 148, 4732)
theorem t_X7_manyNumbers : m_mV M_X7_manyNumbers 1 := ⟨⟨m_inP pk_15 33 rfl rfl, m_inP pk_15 34 rfl rfl⟩, ⟨m_inP pk_2 22 rfl rfl, m_inP pk_15 35 rfl rfl⟩, ⟨by decide +kernel, by decide +kernel, by decide +kernel⟩⟩
def M_X7_measure : m_M := (RX7, yX7_measure, cX7_measure, 4, none, { frames := 4, cells := 0, slots := 0, locals := 111 }, 148, 4732)
theorem t_X7_measure : m_mV M_X7_measure 3 := ⟨⟨m_inP pk_12 4 rfl rfl, m_inP pk_12 5 rfl rfl⟩, ⟨m_inP pk_2 22 rfl rfl, m_inP pk_12 6 rfl rfl⟩, ⟨by decide +kernel, by decide +kernel, by decide +kernel⟩⟩
def M_X8_append : m_M := (RX8, yX8_append, cX8_append, 2, none, { frames := 0, cells := 0, slots := 0, locals := 0 }, 148, 4732)
theorem t_X8_append : m_mV M_X8_append 1 := ⟨⟨m_inP pk_8 7 rfl rfl, m_inP pk_8 8 rfl rfl⟩, ⟨m_inP pk_2 17 rfl rfl, m_inP pk_8 9 rfl rfl⟩, ⟨by decide +kernel, by decide +kernel, by decide +kernel⟩⟩
def M_X9_canBe : m_M := (RX9, yX9_canBe, cX9_canBe, 4, some .boolean, { frames := 3, cells := 0, slots := 0, locals := 82 }, 148, 4732)
theorem t_X9_canBe : m_mV M_X9_canBe 2 := ⟨⟨m_inP pk_10 7 rfl rfl, m_inP pk_10 8 rfl rfl⟩, ⟨m_inP pk_2 19 rfl rfl, m_inP pk_10 9 rfl rfl⟩, ⟨by decide +kernel, by decide +kernel, by decide +kernel⟩⟩
def M_X9_eachFootHolds : m_M := (RX9, yX9_eachFootHolds, cX9_eachFootHolds, 2, some .boolean, { frames := 1, cells := 0, slots := 0, locals := 20 }, 148, 4732)
theorem t_X9_eachFootHolds : m_mV M_X9_eachFootHolds 0 := ⟨⟨m_inP pk_11 15 rfl rfl, m_inP pk_0 19 rfl rfl⟩, ⟨m_inP pk_2 19 rfl rfl, m_inP pk_11 16 rfl rfl⟩, ⟨by decide +kernel, by decide +kernel, by decide +kernel⟩⟩
def M_X9_feetHoldTogether : m_M := (RX9, yX9_feetHoldTogether, cX9_feetHoldTogether, 4, some .boolean, { frames := 1, cells := 0, slots := 0, locals := 25 }, 148, 4732)
theorem t_X9_feetHoldTogether : m_mV M_X9_feetHoldTogether 0 := ⟨⟨m_inP pk_11 26 rfl rfl, m_inP pk_0 21 rfl rfl⟩, ⟨m_inP pk_2 19 rfl rfl, m_inP pk_11 27 rfl rfl⟩, ⟨by decide +kernel, by decide +kernel, by decide +kernel⟩⟩
def M_X9_forget : m_M := (RX9, yX9_forget, cX9_forget, 2, none, { frames := 1, cells := 0, slots := 0, locals := 23 }, 148, 4732)
theorem t_X9_forget : m_mV M_X9_forget 0 := ⟨⟨m_inP pk_10 11 rfl rfl, m_inP pk_0 14 rfl rfl⟩, ⟨m_inP pk_2 19 rfl rfl, m_inP pk_10 12 rfl rfl⟩, ⟨by decide +kernel, by decide +kernel, by decide +kernel⟩⟩
def M_X9_goOn : m_M := (RX9, yX9_goOn, cX9_goOn, 9, none, { frames := 2, cells := 0, slots := 0, locals := 54 }, 148, 4732)
theorem t_X9_goOn : m_mV M_X9_goOn 2 := ⟨⟨m_inP pk_11 22 rfl rfl, m_inP pk_0 20 rfl rfl⟩, ⟨m_inP pk_2 19 rfl rfl, m_inP pk_11 23 rfl rfl⟩, ⟨by decide +kernel, by decide +kernel, by decide +kernel⟩⟩
def M_X9_halvesIn : m_M := (RX9, yX9_halvesIn, cX9_halvesIn, 2, some .int, { frames := 0, cells := 0, slots := 0, locals := 0 }, 148, 4732)
theorem t_X9_halvesIn : m_mS M_X9_halvesIn 2 := ⟨m_inP pk_12 21 rfl rfl, ⟨m_inP pk_2 19 rfl rfl, m_inP pk_12 22 rfl rfl⟩, ⟨by decide +kernel, by decide +kernel, by decide +kernel⟩⟩
def M_X9_highOf : m_M := (RX9, yX9_highOf, cX9_highOf, 3, some .int, { frames := 0, cells := 0, slots := 0, locals := 0 }, 148, 4732)
theorem t_X9_highOf : m_mV M_X9_highOf 2 := ⟨⟨m_inP pk_12 15 rfl rfl, m_inP pk_0 24 rfl rfl⟩, ⟨m_inP pk_2 19 rfl rfl, m_inP pk_12 16 rfl rfl⟩, ⟨by decide +kernel, by decide +kernel, by decide +kernel⟩⟩
def M_X9_limit : m_M := (RX9, yX9_limit, cX9_limit, 6, none, { frames := 3, cells := 0, slots := 0, locals := 86 }, 148, 4732)
theorem t_X9_limit : m_mV M_X9_limit 3 := ⟨⟨m_inP pk_12 8 rfl rfl, m_inP pk_12 9 rfl rfl⟩, ⟨m_inP pk_2 19 rfl rfl, m_inP pk_12 10 rfl rfl⟩, ⟨by decide +kernel, by decide +kernel, by decide +kernel⟩⟩
def M_X9_limitBy : m_M := (RX9, yX9_limitBy, cX9_limitBy, 13, none, { frames := 2, cells := 0, slots := 0, locals := 54 }, 148, 4732)
theorem t_X9_limitBy : m_mV M_X9_limitBy 4 := ⟨⟨m_inP pk_12 12 rfl rfl, m_inP pk_0 23 rfl rfl⟩, ⟨m_inP pk_2 19 rfl rfl, m_inP pk_12 13 rfl rfl⟩, ⟨by decide +kernel, by decide +kernel, by decide +kernel⟩⟩
def M_X9_lowOf : m_M := (RX9, yX9_lowOf, cX9_lowOf, 3, some .int, { frames := 0, cells := 0, slots := 0, locals := 0 }, 148, 4732)
theorem t_X9_lowOf : m_mV M_X9_lowOf 2 := ⟨⟨m_inP pk_12 18 rfl rfl, m_inP pk_0 25 rfl rfl⟩, ⟨m_inP pk_2 19 rfl rfl, m_inP pk_12 19 rfl rfl⟩, ⟨by decide +kernel, by decide +kernel, by decide +kernel⟩⟩
def M_X9_lower : m_M := (RX9, yX9_lower, cX9_lower, 4, none, { frames := 0, cells := 0, slots := 0, locals := 0 }, 148, 4732)
theorem t_X9_lower : m_mV M_X9_lower 3 := ⟨⟨m_inP pk_10 36 rfl rfl, m_inP pk_0 16 rfl rfl⟩, ⟨m_inP pk_2 19 rfl rfl, m_inP pk_10 37 rfl rfl⟩, ⟨by decide +kernel, by decide +kernel, by decide +kernel⟩⟩
def M_X9_stepOver : m_M := (RX9, yX9_stepOver, cX9_stepOver, 5, none, { frames := 2, cells := 0, slots := 0, locals := 54 }, 148, 4732)
theorem t_X9_stepOver : m_mV M_X9_stepOver 1 := ⟨⟨m_inP pk_11 4 rfl rfl, m_inP pk_0 18 rfl rfl⟩, ⟨m_inP pk_2 19 rfl rfl, m_inP pk_11 5 rfl rfl⟩, ⟨by decide +kernel, by decide +kernel, by decide +kernel⟩⟩
def M_X9_tie : m_M := (RX9, yX9_tie, cX9_tie, 5, none, { frames := 2, cells := 0, slots := 0, locals := 44 }, 148, 4732)
theorem t_X9_tie : m_mV M_X9_tie 2 := ⟨⟨m_inP pk_10 20 rfl rfl, m_inP pk_0 15 rfl rfl⟩, ⟨m_inP pk_2 19 rfl rfl, m_inP pk_10 21 rfl rfl⟩, ⟨by decide +kernel, by decide +kernel, by decide +kernel⟩⟩
def M_X9_tieCut : m_M := (RX9, yX9_tieCut, cX9_tieCut, 5, none, { frames := 1, cells := 0, slots := 0, locals := 23 }, 148, 4732)
theorem t_X9_tieCut : m_mV M_X9_tieCut 1 := ⟨⟨m_inP pk_11 1 rfl rfl, m_inP pk_0 17 rfl rfl⟩, ⟨m_inP pk_2 19 rfl rfl, m_inP pk_11 2 rfl rfl⟩, ⟨by decide +kernel, by decide +kernel, by decide +kernel⟩⟩
def M_X10_add : m_M := (RX10, yX10_add, cX10_add, 6, none, { frames := 0, cells := 0, slots := 0, locals := 0 }, 148, 4732)
theorem t_X10_add : m_mV M_X10_add 3 := ⟨⟨m_inP pk_14 13 rfl rfl, m_inP pk_14 14 rfl rfl⟩, ⟨m_inP pk_2 23 rfl rfl, m_inP pk_14 15 rfl rfl⟩, ⟨by decide +kernel, by decide +kernel, by decide +kernel⟩⟩
def M_X10_clear : m_M := (RX10, yX10_clear, cX10_clear, 2, none, { frames := 0, cells := 0, slots := 0, locals := 0 }, 148, 4732)
theorem t_X10_clear : m_mV M_X10_clear 0 := ⟨⟨m_inP pk_14 6 rfl rfl, m_inP pk_14 7 rfl rfl⟩, ⟨m_inP pk_2 23 rfl rfl, m_inP pk_14 8 rfl rfl⟩, ⟨by decide +kernel, by decide +kernel, by decide +kernel⟩⟩
def M_X10_product : m_M := (RX10, yX10_product, cX10_product, 7, some .long, { frames := 1, cells := 0, slots := 0, locals := 23 }, 148, 4732)
theorem t_X10_product : m_mV M_X10_product 0 := ⟨⟨m_inP pk_14 36 rfl rfl, m_inP pk_14 37 rfl rfl⟩, ⟨m_inP pk_2 23 rfl rfl, m_inP pk_14 38 rfl rfl⟩, ⟨by decide +kernel, by decide +kernel, by decide +kernel⟩⟩
def M_X10_sum : m_M := (RX10, yX10_sum, cX10_sum, 13, some .long, { frames := 2, cells := 0, slots := 0, locals := 65 }, 148, 4732)
theorem t_X10_sum : m_mV M_X10_sum 0 := ⟨⟨m_inP pk_14 17 rfl rfl, m_inP pk_14 18 rfl rfl⟩, ⟨m_inP pk_2 23 rfl rfl, m_inP pk_14 19 rfl rfl⟩, ⟨by decide +kernel, by decide +kernel, by decide +kernel⟩⟩
def M_X11_accept : m_M := (RX11, yX11_accept, cX11_accept, 2, some .int, { frames := 0, cells := 0, slots := 0, locals := 0 }, 148, 4732)
theorem t_X11_accept : m_mV M_X11_accept 1 := ⟨⟨m_inP pk_6 0 rfl rfl, m_inP pk_0 1 rfl rfl⟩, ⟨m_inP pk_2 14 rfl rfl, m_inP pk_6 1 rfl rfl⟩, ⟨by decide +kernel, by decide +kernel, by decide +kernel⟩⟩
def M_X11_addFeet : m_M := (RX11, yX11_addFeet, cX11_addFeet, 4, none, { frames := 5, cells := 0, slots := 0, locals := 134 }, 148, 4732)
theorem t_X11_addFeet : m_mV M_X11_addFeet 3 := ⟨⟨m_inP pk_14 10 rfl rfl, m_inP pk_0 28 rfl rfl⟩, ⟨m_inP pk_2 14 rfl rfl, m_inP pk_14 11 rfl rfl⟩, ⟨by decide +kernel, by decide +kernel, by decide +kernel⟩⟩
def M_X11_area : m_M := (RX11, yX11_area, cX11_area, 6, some .int, { frames := 6, cells := 0, slots := 0, locals := 157 }, 148, 4732)
theorem t_X11_area : m_mV M_X11_area 4 := ⟨⟨m_inP pk_14 32 rfl rfl, m_inP pk_14 33 rfl rfl⟩, ⟨m_inP pk_2 14 rfl rfl, m_inP pk_14 34 rfl rfl⟩, ⟨by decide +kernel, by decide +kernel, by decide +kernel⟩⟩
def M_X11_ask : m_M := (RX11, yX11_ask, cX11_ask, 6, some .int, { frames := 6, cells := 0, slots := 0, locals := 156 }, 148, 4732)
theorem t_X11_ask : m_mV M_X11_ask 1 := ⟨⟨m_inP pk_15 39 rfl rfl, m_inP pk_16 0 rfl rfl⟩, ⟨m_inP pk_2 14 rfl rfl, m_inP pk_16 1 rfl rfl⟩, ⟨by decide +kernel, by decide +kernel, by decide +kernel⟩⟩
def M_X11_atMost : m_M := (RX11, yX11_atMost, cX11_atMost, 4, some .int, { frames := 1, cells := 0, slots := 0, locals := 23 }, 148, 4732)
theorem t_X11_atMost : m_mS M_X11_atMost 2 := ⟨m_inP pk_12 33 rfl rfl, ⟨m_inP pk_2 14 rfl rfl, m_inP pk_12 34 rfl rfl⟩, ⟨by decide +kernel, by decide +kernel, by decide +kernel⟩⟩
def M_X11_back : m_M := (RX11, yX11_back, cX11_back, 2, some .int, { frames := 2, cells := 0, slots := 0, locals := 49 }, 148, 4732)
theorem t_X11_back : m_mV M_X11_back 1 := ⟨⟨m_inP pk_20 7 rfl rfl, m_inP pk_20 8 rfl rfl⟩, ⟨m_inP pk_2 14 rfl rfl, m_inP pk_20 9 rfl rfl⟩, ⟨by decide +kernel, by decide +kernel, by decide +kernel⟩⟩
def M_X11_between : m_M := (RX11, yX11_between, cX11_between, 4, some .int, { frames := 6, cells := 0, slots := 0, locals := 156 }, 148, 4732)
theorem t_X11_between : m_mV M_X11_between 3 := ⟨⟨m_inP pk_11 32 rfl rfl, m_inP pk_11 33 rfl rfl⟩, ⟨m_inP pk_2 14 rfl rfl, m_inP pk_11 34 rfl rfl⟩, ⟨by decide +kernel, by decide +kernel, by decide +kernel⟩⟩
def M_X11_blurred : m_M := (RX11, yX11_blurred, cX11_blurred, 1, some .int, { frames := 0, cells := 0, slots := 0, locals := 0 }, 148, 4732)
theorem t_X11_blurred : m_mV M_X11_blurred 0 := ⟨⟨m_inP pk_8 19 rfl rfl, m_inP pk_8 20 rfl rfl⟩, ⟨m_inP pk_2 14 rfl rfl, m_inP pk_8 21 rfl rfl⟩, ⟨by decide +kernel, by decide +kernel, by decide +kernel⟩⟩
def M_X11_book : m_M := (RX11, yX11_book, cX11_book, 2, some .int, { frames := 10, cells := 0, slots := 0, locals := 220 }, 148, 4732)
theorem t_X11_book : m_mV M_X11_book 0 := ⟨⟨m_inP pk_8 22 rfl rfl, m_inP pk_8 23 rfl rfl⟩, ⟨m_inP pk_2 14 rfl rfl, m_inP pk_8 24 rfl rfl⟩, ⟨by decide +kernel, by decide +kernel, by decide +kernel⟩⟩
def M_X11_canBe : m_M := (RX11, yX11_canBe, cX11_canBe, 1, some .boolean, { frames := 4, cells := 0, slots := 0, locals := 105 }, 148, 4732)
theorem t_X11_canBe : m_mV M_X11_canBe 0 := ⟨⟨m_inP pk_10 4 rfl rfl, m_inP pk_0 13 rfl rfl⟩, ⟨m_inP pk_2 14 rfl rfl, m_inP pk_10 5 rfl rfl⟩, ⟨by decide +kernel, by decide +kernel, by decide +kernel⟩⟩
def M_X11_commonDivisor : m_M := (RX11, yX11_commonDivisor, cX11_commonDivisor, 11, some .long, { frames := 0, cells := 0, slots := 0, locals := 0 }, 148, 4732)
theorem t_X11_commonDivisor : m_mS M_X11_commonDivisor 2 := ⟨m_inP pk_13 39 rfl rfl, ⟨m_inP pk_2 14 rfl rfl, m_inP pk_14 0 rfl rfl⟩, ⟨by decide +kernel, by decide +kernel, by decide +kernel⟩⟩
def M_X11_compare : m_M := (RX11, yX11_compare, cX11_compare, 3, some .boolean, { frames := 5, cells := 0, slots := 0, locals := 134 }, 148, 4732)
theorem t_X11_compare : m_mV M_X11_compare 2 := ⟨⟨m_inP pk_11 36 rfl rfl, m_inP pk_0 22 rfl rfl⟩, ⟨m_inP pk_2 14 rfl rfl, m_inP pk_11 37 rfl rfl⟩, ⟨by decide +kernel, by decide +kernel, by decide +kernel⟩⟩
def M_X11_compareFractions : m_M := (RX11, yX11_compareFractions, cX11_compareFractions, 23, some .int, { frames := 1, cells := 0, slots := 0, locals := 23 }, 148, 4732)
theorem t_X11_compareFractions : m_mS M_X11_compareFractions 4 := ⟨m_inP pk_14 26 rfl rfl, ⟨m_inP pk_2 14 rfl rfl, m_inP pk_14 27 rfl rfl⟩, ⟨by decide +kernel, by decide +kernel, by decide +kernel⟩⟩
def M_X11_compareToFoot : m_M := (RX11, yX11_compareToFoot, cX11_compareToFoot, 3, some .boolean, { frames := 5, cells := 0, slots := 0, locals := 134 }, 148, 4732)
theorem t_X11_compareToFoot : m_mV M_X11_compareToFoot 2 := ⟨⟨m_inP pk_13 15 rfl rfl, m_inP pk_0 26 rfl rfl⟩, ⟨m_inP pk_2 14 rfl rfl, m_inP pk_13 16 rfl rfl⟩, ⟨by decide +kernel, by decide +kernel, by decide +kernel⟩⟩
def M_X11_core : m_M := (RX11, yX11_core, cX11_core, 1, some .int, { frames := 5, cells := 0, slots := 0, locals := 130 }, 148, 4732)
theorem t_X11_core : m_mV M_X11_core 0 := ⟨⟨m_inP pk_17 11 rfl rfl, m_inP pk_17 12 rfl rfl⟩, ⟨m_inP pk_2 14 rfl rfl, m_inP pk_17 13 rfl rfl⟩, ⟨by decide +kernel, by decide +kernel, by decide +kernel⟩⟩
def M_X11_could : m_M := (RX11, yX11_could, cX11_could, 3, some .int, { frames := 5, cells := 0, slots := 0, locals := 129 }, 148, 4732)
theorem t_X11_could : m_mV M_X11_could 2 := ⟨⟨m_inP pk_18 26 rfl rfl, m_inP pk_18 27 rfl rfl⟩, ⟨m_inP pk_2 14 rfl rfl, m_inP pk_18 28 rfl rfl⟩, ⟨by decide +kernel, by decide +kernel, by decide +kernel⟩⟩
def M_X11_couldBeTold : m_M := (RX11, yX11_couldBeTold, cX11_couldBeTold, 6, some .boolean, { frames := 5, cells := 0, slots := 0, locals := 134 }, 148, 4732)
theorem t_X11_couldBeTold : m_mV M_X11_couldBeTold 4 := ⟨⟨m_inP pk_16 9 rfl rfl, m_inP pk_0 30 rfl rfl⟩, ⟨m_inP pk_2 14 rfl rfl, m_inP pk_16 10 rfl rfl⟩, ⟨by decide +kernel, by decide +kernel, by decide +kernel⟩⟩
def M_X11_count : m_M := (RX11, yX11_count, cX11_count, 2, some .int, { frames := 2, cells := 0, slots := 0, locals := 40 }, 148, 4732)
theorem t_X11_count : m_mV M_X11_count 1 := ⟨⟨m_inP pk_20 10 rfl rfl, m_inP pk_20 11 rfl rfl⟩, ⟨m_inP pk_2 14 rfl rfl, m_inP pk_20 12 rfl rfl⟩, ⟨by decide +kernel, by decide +kernel, by decide +kernel⟩⟩
def M_X11_counts : m_M := (RX11, yX11_counts, cX11_counts, 4, some .int, { frames := 2, cells := 0, slots := 0, locals := 44 }, 148, 4732)
theorem t_X11_counts : m_mV M_X11_counts 2 := ⟨⟨m_inP pk_7 21 rfl rfl, m_inP pk_7 22 rfl rfl⟩, ⟨m_inP pk_2 14 rfl rfl, m_inP pk_7 23 rfl rfl⟩, ⟨by decide +kernel, by decide +kernel, by decide +kernel⟩⟩
def M_X11_cut : m_M := (RX11, yX11_cut, cX11_cut, 4, some .int, { frames := 2, cells := 0, slots := 0, locals := 44 }, 148, 4732)
theorem t_X11_cut : m_mV M_X11_cut 2 := ⟨⟨m_inP pk_6 2 rfl rfl, m_inP pk_6 3 rfl rfl⟩, ⟨m_inP pk_2 14 rfl rfl, m_inP pk_6 4 rfl rfl⟩, ⟨by decide +kernel, by decide +kernel, by decide +kernel⟩⟩
def M_X11_dates : m_M := (RX11, yX11_dates, cX11_dates, 8, some .int, { frames := 6, cells := 0, slots := 0, locals := 159 }, 148, 4732)
theorem t_X11_dates : m_mV M_X11_dates 4 := ⟨⟨m_inP pk_16 5 rfl rfl, m_inP pk_16 6 rfl rfl⟩, ⟨m_inP pk_2 14 rfl rfl, m_inP pk_16 7 rfl rfl⟩, ⟨by decide +kernel, by decide +kernel, by decide +kernel⟩⟩
def M_X11_end : m_M := (RX11, yX11_end, cX11_end, 2, some .int, { frames := 1, cells := 0, slots := 0, locals := 22 }, 148, 4732)
theorem t_X11_end : m_mV M_X11_end 1 := ⟨⟨m_inP pk_8 10 rfl rfl, m_inP pk_8 11 rfl rfl⟩, ⟨m_inP pk_2 14 rfl rfl, m_inP pk_8 12 rfl rfl⟩, ⟨by decide +kernel, by decide +kernel, by decide +kernel⟩⟩
def M_X11_entry : m_M := (RX11, yX11_entry, cX11_entry, 5, some .int, { frames := 3, cells := 0, slots := 0, locals := 65 }, 148, 4732)
theorem t_X11_entry : m_mV M_X11_entry 4 := ⟨⟨m_inP pk_7 0 rfl rfl, m_inP pk_7 1 rfl rfl⟩, ⟨m_inP pk_2 14 rfl rfl, m_inP pk_7 2 rfl rfl⟩, ⟨by decide +kernel, by decide +kernel, by decide +kernel⟩⟩
def M_X11_fault : m_M := (RX11, yX11_fault, cX11_fault, 1, some .int, { frames := 0, cells := 0, slots := 0, locals := 0 }, 148, 4732)
theorem t_X11_fault : m_mV M_X11_fault 0 := ⟨⟨m_inP pk_9 37 rfl rfl, m_inP pk_9 38 rfl rfl⟩, ⟨m_inP pk_2 14 rfl rfl, m_inP pk_9 39 rfl rfl⟩, ⟨by decide +kernel, by decide +kernel, by decide +kernel⟩⟩
def M_X11_feed : m_M := (RX11, yX11_feed, cX11_feed, 6, some .int, { frames := 1, cells := 0, slots := 0, locals := 21 }, 148, 4732)
theorem t_X11_feed : m_mV M_X11_feed 5 := ⟨⟨m_inP pk_8 3 rfl rfl, m_inP pk_8 4 rfl rfl⟩, ⟨m_inP pk_2 14 rfl rfl, m_inP pk_8 5 rfl rfl⟩, ⟨by decide +kernel, by decide +kernel, by decide +kernel⟩⟩
def M_X11_feet : m_M := (RX11, yX11_feet, cX11_feet, 4, some .int, { frames := 6, cells := 0, slots := 0, locals := 156 }, 148, 4732)
theorem t_X11_feet : m_mV M_X11_feet 3 := ⟨⟨m_inP pk_13 11 rfl rfl, m_inP pk_13 12 rfl rfl⟩, ⟨m_inP pk_2 14 rfl rfl, m_inP pk_13 13 rfl rfl⟩, ⟨by decide +kernel, by decide +kernel, by decide +kernel⟩⟩
def M_X11_fits : m_M := (RX11, yX11_fits, cX11_fits, 1, some .int, { frames := 5, cells := 0, slots := 0, locals := 125 }, 148, 4732)
theorem t_X11_fits : m_mV M_X11_fits 0 := ⟨⟨m_inP pk_10 0 rfl rfl, m_inP pk_10 1 rfl rfl⟩, ⟨m_inP pk_2 14 rfl rfl, m_inP pk_10 2 rfl rfl⟩, ⟨by decide +kernel, by decide +kernel, by decide +kernel⟩⟩
def M_X11_groups : m_M := (RX11, yX11_groups, cX11_groups, 2, some .int, { frames := 4, cells := 0, slots := 0, locals := 91 }, 148, 4732)
theorem t_X11_groups : m_mV M_X11_groups 1 := ⟨⟨m_inP pk_16 36 rfl rfl, m_inP pk_16 37 rfl rfl⟩, ⟨m_inP pk_2 14 rfl rfl, m_inP pk_16 38 rfl rfl⟩, ⟨by decide +kernel, by decide +kernel, by decide +kernel⟩⟩
def M_X11_hasBit : m_M := (RX11, yX11_hasBit, cX11_hasBit, 2, some .boolean, { frames := 0, cells := 0, slots := 0, locals := 0 }, 148, 4732)
theorem t_X11_hasBit : m_mS M_X11_hasBit 2 := ⟨m_inP pk_6 19 rfl rfl, ⟨m_inP pk_2 14 rfl rfl, m_inP pk_6 20 rfl rfl⟩, ⟨by decide +kernel, by decide +kernel, by decide +kernel⟩⟩
def M_X11_image : m_M := (RX11, yX11_image, cX11_image, 2, some .int, { frames := 2, cells := 0, slots := 0, locals := 49 }, 148, 4732)
theorem t_X11_image : m_mV M_X11_image 1 := ⟨⟨m_inP pk_20 4 rfl rfl, m_inP pk_20 5 rfl rfl⟩, ⟨m_inP pk_2 14 rfl rfl, m_inP pk_20 6 rfl rfl⟩, ⟨by decide +kernel, by decide +kernel, by decide +kernel⟩⟩
def M_X11_isEntry : m_M := (RX11, yX11_isEntry, cX11_isEntry, 4, some .boolean, { frames := 2, cells := 0, slots := 0, locals := 42 }, 148, 4732)
theorem t_X11_isEntry : m_mS M_X11_isEntry 4 := ⟨m_inP pk_7 4 rfl rfl, ⟨m_inP pk_2 14 rfl rfl, m_inP pk_7 5 rfl rfl⟩, ⟨by decide +kernel, by decide +kernel, by decide +kernel⟩⟩
def M_X11_isKeeper : m_M := (RX11, yX11_isKeeper, cX11_isKeeper, 1, some .boolean, { frames := 1, cells := 0, slots := 0, locals := 22 }, 148, 4732)
theorem t_X11_isKeeper : m_mS M_X11_isKeeper 1 := ⟨m_inP pk_6 12 rfl rfl, ⟨m_inP pk_2 14 rfl rfl, m_inP pk_6 13 rfl rfl⟩, ⟨by decide +kernel, by decide +kernel, by decide +kernel⟩⟩
def M_X11_isKind : m_M := (RX11, yX11_isKind, cX11_isKind, 1, some .boolean, { frames := 1, cells := 0, slots := 0, locals := 22 }, 148, 4732)
theorem t_X11_isKind : m_mS M_X11_isKind 1 := ⟨m_inP pk_7 10 rfl rfl, ⟨m_inP pk_2 14 rfl rfl, m_inP pk_7 11 rfl rfl⟩, ⟨by decide +kernel, by decide +kernel, by decide +kernel⟩⟩
def M_X11_isMeasured : m_M := (RX11, yX11_isMeasured, cX11_isMeasured, 2, some .boolean, { frames := 2, cells := 0, slots := 0, locals := 44 }, 148, 4732)
theorem t_X11_isMeasured : m_mV M_X11_isMeasured 1 := ⟨⟨m_inP pk_13 18 rfl rfl, m_inP pk_0 27 rfl rfl⟩, ⟨m_inP pk_2 14 rfl rfl, m_inP pk_13 19 rfl rfl⟩, ⟨by decide +kernel, by decide +kernel, by decide +kernel⟩⟩
def M_X11_isNumber : m_M := (RX11, yX11_isNumber, cX11_isNumber, 1, some .boolean, { frames := 1, cells := 0, slots := 0, locals := 22 }, 148, 4732)
theorem t_X11_isNumber : m_mS M_X11_isNumber 1 := ⟨m_inP pk_7 7 rfl rfl, ⟨m_inP pk_2 14 rfl rfl, m_inP pk_7 8 rfl rfl⟩, ⟨by decide +kernel, by decide +kernel, by decide +kernel⟩⟩
def M_X11_isThing : m_M := (RX11, yX11_isThing, cX11_isThing, 1, some .boolean, { frames := 1, cells := 0, slots := 0, locals := 22 }, 148, 4732)
theorem t_X11_isThing : m_mS M_X11_isThing 1 := ⟨m_inP pk_6 6 rfl rfl, ⟨m_inP pk_2 14 rfl rfl, m_inP pk_6 7 rfl rfl⟩, ⟨by decide +kernel, by decide +kernel, by decide +kernel⟩⟩
def M_X11_isWeek : m_M := (RX11, yX11_isWeek, cX11_isWeek, 1, some .boolean, { frames := 1, cells := 0, slots := 0, locals := 22 }, 148, 4732)
theorem t_X11_isWeek : m_mS M_X11_isWeek 1 := ⟨m_inP pk_5 31 rfl rfl, ⟨m_inP pk_2 14 rfl rfl, m_inP pk_5 32 rfl rfl⟩, ⟨by decide +kernel, by decide +kernel, by decide +kernel⟩⟩
def M_X11_joined : m_M := (RX11, yX11_joined, cX11_joined, 3, some .int, { frames := 3, cells := 0, slots := 0, locals := 69 }, 148, 4732)
theorem t_X11_joined : m_mV M_X11_joined 2 := ⟨⟨m_inP pk_16 17 rfl rfl, m_inP pk_16 18 rfl rfl⟩, ⟨m_inP pk_2 14 rfl rfl, m_inP pk_16 19 rfl rfl⟩, ⟨by decide +kernel, by decide +kernel, by decide +kernel⟩⟩
def M_X11_judge : m_M := (RX11, yX11_judge, cX11_judge, 5, some .int, { frames := 3, cells := 0, slots := 0, locals := 70 }, 148, 4732)
theorem t_X11_judge : m_mV M_X11_judge 1 := ⟨⟨m_inP pk_19 1 rfl rfl, m_inP pk_19 2 rfl rfl⟩, ⟨m_inP pk_2 14 rfl rfl, m_inP pk_19 3 rfl rfl⟩, ⟨by decide +kernel, by decide +kernel, by decide +kernel⟩⟩
def M_X11_lay : m_M := (RX11, yX11_lay, cX11_lay, 7, some .int, { frames := 6, cells := 0, slots := 0, locals := 157 }, 148, 4732)
theorem t_X11_lay : m_mV M_X11_lay 5 := ⟨⟨m_inP pk_14 2 rfl rfl, m_inP pk_14 3 rfl rfl⟩, ⟨m_inP pk_2 14 rfl rfl, m_inP pk_14 4 rfl rfl⟩, ⟨by decide +kernel, by decide +kernel, by decide +kernel⟩⟩
def M_X11_manyKnown : m_M := (RX11, yX11_manyKnown, cX11_manyKnown, 3, some .int, { frames := 0, cells := 0, slots := 0, locals := 0 }, 148, 4732)
theorem t_X11_manyKnown : m_mS M_X11_manyKnown 1 := ⟨m_inP pk_20 14 rfl rfl, ⟨m_inP pk_2 14 rfl rfl, m_inP pk_20 15 rfl rfl⟩, ⟨by decide +kernel, by decide +kernel, by decide +kernel⟩⟩
def M_X11_manyWholes : m_M := (RX11, yX11_manyWholes, cX11_manyWholes, 3, some .int, { frames := 5, cells := 0, slots := 0, locals := 134 }, 148, 4732)
theorem t_X11_manyWholes : m_mV M_X11_manyWholes 2 := ⟨⟨m_inP pk_16 3 rfl rfl, m_inP pk_0 29 rfl rfl⟩, ⟨m_inP pk_2 14 rfl rfl, m_inP pk_16 4 rfl rfl⟩, ⟨by decide +kernel, by decide +kernel, by decide +kernel⟩⟩
def M_X11_numbers : m_M := (RX11, yX11_numbers, cX11_numbers, 6, some .int, { frames := 6, cells := 0, slots := 0, locals := 156 }, 148, 4732)
theorem t_X11_numbers : m_mV M_X11_numbers 4 := ⟨⟨m_inP pk_15 29 rfl rfl, m_inP pk_15 30 rfl rfl⟩, ⟨m_inP pk_2 14 rfl rfl, m_inP pk_15 31 rfl rfl⟩, ⟨by decide +kernel, by decide +kernel, by decide +kernel⟩⟩
def M_X11_of : m_M := (RX11, yX11_of, cX11_of, 3, some .int, { frames := 2, cells := 0, slots := 0, locals := 44 }, 148, 4732)
theorem t_X11_of : m_mV M_X11_of 2 := ⟨⟨m_inP pk_7 32 rfl rfl, m_inP pk_7 33 rfl rfl⟩, ⟨m_inP pk_2 14 rfl rfl, m_inP pk_7 34 rfl rfl⟩, ⟨by decide +kernel, by decide +kernel, by decide +kernel⟩⟩
def M_X11_ofWeeks : m_M := (RX11, yX11_ofWeeks, cX11_ofWeeks, 4, some .int, { frames := 1, cells := 0, slots := 0, locals := 21 }, 148, 4732)
theorem t_X11_ofWeeks : m_mS M_X11_ofWeeks 2 := ⟨m_inP pk_16 13 rfl rfl, ⟨m_inP pk_2 14 rfl rfl, m_inP pk_16 14 rfl rfl⟩, ⟨by decide +kernel, by decide +kernel, by decide +kernel⟩⟩
def M_X11_part : m_M := (RX11, yX11_part, cX11_part, 5, some .long, { frames := 6, cells := 0, slots := 0, locals := 156 }, 148, 4732)
theorem t_X11_part : m_mV M_X11_part 3 := ⟨⟨m_inP pk_13 30 rfl rfl, m_inP pk_13 31 rfl rfl⟩, ⟨m_inP pk_2 14 rfl rfl, m_inP pk_13 32 rfl rfl⟩, ⟨by decide +kernel, by decide +kernel, by decide +kernel⟩⟩
def M_X11_quotient : m_M := (RX11, yX11_quotient, cX11_quotient, 4, some .long, { frames := 0, cells := 0, slots := 0, locals := 0 }, 148, 4732)
theorem t_X11_quotient : m_mS M_X11_quotient 2 := ⟨m_inP pk_12 29 rfl rfl, ⟨m_inP pk_2 14 rfl rfl, m_inP pk_12 30 rfl rfl⟩, ⟨by decide +kernel, by decide +kernel, by decide +kernel⟩⟩
def M_X11_refuse : m_M := (RX11, yX11_refuse, cX11_refuse, 3, some .int, { frames := 1, cells := 0, slots := 0, locals := 22 }, 148, 4732)
theorem t_X11_refuse : m_mV M_X11_refuse 1 := ⟨⟨m_inP pk_5 37 rfl rfl, m_inP pk_0 0 rfl rfl⟩, ⟨m_inP pk_2 14 rfl rfl, m_inP pk_5 38 rfl rfl⟩, ⟨by decide +kernel, by decide +kernel, by decide +kernel⟩⟩
def M_X11_remainder : m_M := (RX11, yX11_remainder, cX11_remainder, 4, some .long, { frames := 0, cells := 0, slots := 0, locals := 0 }, 148, 4732)
theorem t_X11_remainder : m_mS M_X11_remainder 2 := ⟨m_inP pk_14 23 rfl rfl, ⟨m_inP pk_2 14 rfl rfl, m_inP pk_14 24 rfl rfl⟩, ⟨by decide +kernel, by decide +kernel, by decide +kernel⟩⟩
def M_X11_row : m_M := (RX11, yX11_row, cX11_row, 3, some .int, { frames := 4, cells := 0, slots := 0, locals := 90 }, 148, 4732)
theorem t_X11_row : m_mV M_X11_row 0 := ⟨⟨m_inP pk_8 13 rfl rfl, m_inP pk_8 14 rfl rfl⟩, ⟨m_inP pk_2 14 rfl rfl, m_inP pk_8 15 rfl rfl⟩, ⟨by decide +kernel, by decide +kernel, by decide +kernel⟩⟩
def M_X11_says : m_M := (RX11, yX11_says, cX11_says, 6, some .int, { frames := 2, cells := 0, slots := 0, locals := 42 }, 148, 4732)
theorem t_X11_says : m_mV M_X11_says 3 := ⟨⟨m_inP pk_18 36 rfl rfl, m_inP pk_18 37 rfl rfl⟩, ⟨m_inP pk_2 14 rfl rfl, m_inP pk_18 38 rfl rfl⟩, ⟨by decide +kernel, by decide +kernel, by decide +kernel⟩⟩
def M_X11_shorter : m_M := (RX11, yX11_shorter, cX11_shorter, 3, some .int, { frames := 3, cells := 0, slots := 0, locals := 60 }, 148, 4732)
theorem t_X11_shorter : m_mV M_X11_shorter 2 := ⟨⟨m_inP pk_6 8 rfl rfl, m_inP pk_6 9 rfl rfl⟩, ⟨m_inP pk_2 14 rfl rfl, m_inP pk_6 10 rfl rfl⟩, ⟨by decide +kernel, by decide +kernel, by decide +kernel⟩⟩
def M_X11_status : m_M := (RX11, yX11_status, cX11_status, 1, some .int, { frames := 0, cells := 0, slots := 0, locals := 0 }, 148, 4732)
theorem t_X11_status : m_mV M_X11_status 0 := ⟨⟨m_inP pk_20 16 rfl rfl, m_inP pk_20 17 rfl rfl⟩, ⟨m_inP pk_2 14 rfl rfl, m_inP pk_20 18 rfl rfl⟩, ⟨by decide +kernel, by decide +kernel, by decide +kernel⟩⟩
def M_X11_sure : m_M := (RX11, yX11_sure, cX11_sure, 3, some .int, { frames := 6, cells := 0, slots := 0, locals := 156 }, 148, 4732)
theorem t_X11_sure : m_mV M_X11_sure 2 := ⟨⟨m_inP pk_13 3 rfl rfl, m_inP pk_13 4 rfl rfl⟩, ⟨m_inP pk_2 14 rfl rfl, m_inP pk_13 5 rfl rfl⟩, ⟨by decide +kernel, by decide +kernel, by decide +kernel⟩⟩
def M_X11_takeFromRow : m_M := (RX11, yX11_takeFromRow, cX11_takeFromRow, 6, some .boolean, { frames := 3, cells := 0, slots := 0, locals := 65 }, 148, 4732)
theorem t_X11_takeFromRow : m_mV M_X11_takeFromRow 1 := ⟨⟨m_inP pk_8 17 rfl rfl, m_inP pk_0 2 rfl rfl⟩, ⟨m_inP pk_2 14 rfl rfl, m_inP pk_8 18 rfl rfl⟩, ⟨by decide +kernel, by decide +kernel, by decide +kernel⟩⟩
def M_X11_tell : m_M := (RX11, yX11_tell, cX11_tell, 4, some .int, { frames := 2, cells := 0, slots := 0, locals := 44 }, 148, 4732)
theorem t_X11_tell : m_mV M_X11_tell 2 := ⟨⟨m_inP pk_18 33 rfl rfl, m_inP pk_18 34 rfl rfl⟩, ⟨m_inP pk_2 14 rfl rfl, m_inP pk_18 35 rfl rfl⟩, ⟨by decide +kernel, by decide +kernel, by decide +kernel⟩⟩
def M_X11_told : m_M := (RX11, yX11_told, cX11_told, 4, some .int, { frames := 2, cells := 0, slots := 0, locals := 45 }, 148, 4732)
theorem t_X11_told : m_mV M_X11_told 1 := ⟨⟨m_inP pk_20 0 rfl rfl, m_inP pk_20 1 rfl rfl⟩, ⟨m_inP pk_2 14 rfl rfl, m_inP pk_20 2 rfl rfl⟩, ⟨by decide +kernel, by decide +kernel, by decide +kernel⟩⟩
def M_X11_trade : m_M := (RX11, yX11_trade, cX11_trade, 2, some .int, { frames := 1, cells := 0, slots := 0, locals := 22 }, 148, 4732)
theorem t_X11_trade : m_mV M_X11_trade 1 := ⟨⟨m_inP pk_19 37 rfl rfl, m_inP pk_19 38 rfl rfl⟩, ⟨m_inP pk_2 14 rfl rfl, m_inP pk_19 39 rfl rfl⟩, ⟨by decide +kernel, by decide +kernel, by decide +kernel⟩⟩
def M_X11_week : m_M := (RX11, yX11_week, cX11_week, 4, some .int, { frames := 2, cells := 0, slots := 0, locals := 44 }, 148, 4732)
theorem t_X11_week : m_mV M_X11_week 2 := ⟨⟨m_inP pk_5 27 rfl rfl, m_inP pk_5 28 rfl rfl⟩, ⟨m_inP pk_2 14 rfl rfl, m_inP pk_5 29 rfl rfl⟩, ⟨by decide +kernel, by decide +kernel, by decide +kernel⟩⟩
def M_X11_when : m_M := (RX11, yX11_when, cX11_when, 5, some .int, { frames := 4, cells := 0, slots := 0, locals := 105 }, 148, 4732)
theorem t_X11_when : m_mV M_X11_when 2 := ⟨⟨m_inP pk_18 30 rfl rfl, m_inP pk_18 31 rfl rfl⟩, ⟨m_inP pk_2 14 rfl rfl, m_inP pk_18 32 rfl rfl⟩, ⟨by decide +kernel, by decide +kernel, by decide +kernel⟩⟩
def M_X11_whose : m_M := (RX11, yX11_whose, cX11_whose, 2, some .int, { frames := 5, cells := 0, slots := 0, locals := 129 }, 148, 4732)
theorem t_X11_whose : m_mV M_X11_whose 1 := ⟨⟨m_inP pk_17 33 rfl rfl, m_inP pk_17 34 rfl rfl⟩, ⟨m_inP pk_2 14 rfl rfl, m_inP pk_17 35 rfl rfl⟩, ⟨by decide +kernel, by decide +kernel, by decide +kernel⟩⟩
def M_X11_within : m_M := (RX11, yX11_within, cX11_within, 3, some .boolean, { frames := 0, cells := 0, slots := 0, locals := 0 }, 148, 4732)
theorem t_X11_within : m_mS M_X11_within 3 := ⟨m_inP pk_5 34 rfl rfl, ⟨m_inP pk_2 14 rfl rfl, m_inP pk_5 35 rfl rfl⟩, ⟨by decide +kernel, by decide +kernel, by decide +kernel⟩⟩
def M_X11_would : m_M := (RX11, yX11_would, cX11_would, 5, some .int, { frames := 6, cells := 0, slots := 0, locals := 156 }, 148, 4732)
theorem t_X11_would : m_mV M_X11_would 4 := ⟨⟨m_inP pk_15 0 rfl rfl, m_inP pk_15 1 rfl rfl⟩, ⟨m_inP pk_2 14 rfl rfl, m_inP pk_15 2 rfl rfl⟩, ⟨by decide +kernel, by decide +kernel, by decide +kernel⟩⟩
def M_X11_wrong : m_M := (RX11, yX11_wrong, cX11_wrong, 2, some .int, { frames := 6, cells := 0, slots := 0, locals := 156 }, 148, 4732)
theorem t_X11_wrong : m_mV M_X11_wrong 1 := ⟨⟨m_inP pk_17 19 rfl rfl, m_inP pk_17 20 rfl rfl⟩, ⟨m_inP pk_2 14 rfl rfl, m_inP pk_17 21 rfl rfl⟩, ⟨by decide +kernel, by decide +kernel, by decide +kernel⟩⟩
def M_X11_year : m_M := (RX11, yX11_year, cX11_year, 4, some .int, { frames := 3, cells := 0, slots := 0, locals := 72 }, 148, 4732)
theorem t_X11_year : m_mV M_X11_year 3 := ⟨⟨m_inP pk_19 19 rfl rfl, m_inP pk_19 20 rfl rfl⟩, ⟨m_inP pk_2 14 rfl rfl, m_inP pk_19 21 rfl rfl⟩, ⟨by decide +kernel, by decide +kernel, by decide +kernel⟩⟩
def M_X12_act : m_M := (RX12, yX12_act, cX12_act, 7, none, { frames := 0, cells := 0, slots := 0, locals := 0 }, 148, 4732)
theorem t_X12_act : m_mV M_X12_act 5 := ⟨⟨m_inP pk_25 12 rfl rfl, m_inP pk_1 14 rfl rfl⟩, ⟨m_inP pk_2 28 rfl rfl, m_inP pk_25 13 rfl rfl⟩, ⟨by decide +kernel, by decide +kernel, by decide +kernel⟩⟩
def M_X12_addEntry : m_M := (RX12, yX12_addEntry, cX12_addEntry, 6, none, { frames := 0, cells := 0, slots := 0, locals := 0 }, 148, 4732)
theorem t_X12_addEntry : m_mV M_X12_addEntry 4 := ⟨⟨m_inP pk_23 17 rfl rfl, m_inP pk_1 2 rfl rfl⟩, ⟨m_inP pk_2 28 rfl rfl, m_inP pk_23 18 rfl rfl⟩, ⟨by decide +kernel, by decide +kernel, by decide +kernel⟩⟩
def M_X12_addFactor : m_M := (RX12, yX12_addFactor, cX12_addFactor, 6, none, { frames := 0, cells := 0, slots := 0, locals := 0 }, 148, 4732)
theorem t_X12_addFactor : m_mV M_X12_addFactor 0 := ⟨⟨m_inP pk_29 13 rfl rfl, m_inP pk_2 5 rfl rfl⟩, ⟨m_inP pk_2 28 rfl rfl, m_inP pk_29 14 rfl rfl⟩, ⟨by decide +kernel, by decide +kernel, by decide +kernel⟩⟩
def M_X12_addShorter : m_M := (RX12, yX12_addShorter, cX12_addShorter, 3, none, { frames := 0, cells := 0, slots := 0, locals := 0 }, 148, 4732)
theorem t_X12_addShorter : m_mV M_X12_addShorter 2 := ⟨⟨m_inP pk_23 6 rfl rfl, m_inP pk_1 1 rfl rfl⟩, ⟨m_inP pk_2 28 rfl rfl, m_inP pk_23 7 rfl rfl⟩, ⟨by decide +kernel, by decide +kernel, by decide +kernel⟩⟩
def M_X12_answer : m_M := (RX12, yX12_answer, cX12_answer, 2, some .int, { frames := 0, cells := 0, slots := 0, locals := 0 }, 148, 4732)
theorem t_X12_answer : m_mV M_X12_answer 1 := ⟨⟨m_inP pk_22 9 rfl rfl, m_inP pk_0 37 rfl rfl⟩, ⟨m_inP pk_2 28 rfl rfl, m_inP pk_22 10 rfl rfl⟩, ⟨by decide +kernel, by decide +kernel, by decide +kernel⟩⟩
def M_X12_area : m_M := (RX12, yX12_area, cX12_area, 6, some .int, { frames := 6, cells := 0, slots := 0, locals := 162 }, 148, 4732)
theorem t_X12_area : m_mV M_X12_area 4 := ⟨⟨m_inP pk_29 24 rfl rfl, m_inP pk_29 25 rfl rfl⟩, ⟨m_inP pk_2 28 rfl rfl, m_inP pk_29 26 rfl rfl⟩, ⟨by decide +kernel, by decide +kernel, by decide +kernel⟩⟩
def M_X12_asIs : m_M := (RX12, yX12_asIs, cX12_asIs, 2, none, { frames := 0, cells := 0, slots := 0, locals := 0 }, 148, 4732)
theorem t_X12_asIs : m_mV M_X12_asIs 0 := ⟨⟨m_inP pk_26 9 rfl rfl, m_inP pk_1 22 rfl rfl⟩, ⟨m_inP pk_2 28 rfl rfl, m_inP pk_26 10 rfl rfl⟩, ⟨by decide +kernel, by decide +kernel, by decide +kernel⟩⟩
def M_X12_ask : m_M := (RX12, yX12_ask, cX12_ask, 7, some .int, { frames := 5, cells := 0, slots := 0, locals := 131 }, 148, 4732)
theorem t_X12_ask : m_mV M_X12_ask 1 := ⟨⟨m_inP pk_28 21 rfl rfl, m_inP pk_28 22 rfl rfl⟩, ⟨m_inP pk_2 28 rfl rfl, m_inP pk_28 23 rfl rfl⟩, ⟨by decide +kernel, by decide +kernel, by decide +kernel⟩⟩
def M_X12_back : m_M := (RX12, yX12_back, cX12_back, 3, some .int, { frames := 1, cells := 0, slots := 0, locals := 25 }, 148, 4732)
theorem t_X12_back : m_mV M_X12_back 1 := ⟨⟨m_inP pk_22 11 rfl rfl, m_inP pk_22 12 rfl rfl⟩, ⟨m_inP pk_2 28 rfl rfl, m_inP pk_22 13 rfl rfl⟩, ⟨by decide +kernel, by decide +kernel, by decide +kernel⟩⟩
def M_X12_begin : m_M := (RX12, yX12_begin, cX12_begin, 1, none, { frames := 2, cells := 0, slots := 0, locals := 40 }, 148, 4732)
theorem t_X12_begin : m_mV M_X12_begin 0 := ⟨⟨m_inP pk_24 16 rfl rfl, m_inP pk_1 7 rfl rfl⟩, ⟨m_inP pk_2 28 rfl rfl, m_inP pk_24 17 rfl rfl⟩, ⟨by decide +kernel, by decide +kernel, by decide +kernel⟩⟩
def M_X12_beside : m_M := (RX12, yX12_beside, cX12_beside, 5, some .int, { frames := 1, cells := 0, slots := 0, locals := 29 }, 148, 4732)
theorem t_X12_beside : m_mV M_X12_beside 3 := ⟨⟨m_inP pk_28 13 rfl rfl, m_inP pk_2 0 rfl rfl⟩, ⟨m_inP pk_2 28 rfl rfl, m_inP pk_28 14 rfl rfl⟩, ⟨by decide +kernel, by decide +kernel, by decide +kernel⟩⟩
def M_X12_besideOne : m_M := (RX12, yX12_besideOne, cX12_besideOne, 4, some .int, { frames := 4, cells := 0, slots := 0, locals := 107 }, 148, 4732)
theorem t_X12_besideOne : m_mV M_X12_besideOne 2 := ⟨⟨m_inP pk_27 35 rfl rfl, m_inP pk_1 36 rfl rfl⟩, ⟨m_inP pk_2 28 rfl rfl, m_inP pk_27 36 rfl rfl⟩, ⟨by decide +kernel, by decide +kernel, by decide +kernel⟩⟩
def M_X12_besideTen : m_M := (RX12, yX12_besideTen, cX12_besideTen, 3, some .int, { frames := 0, cells := 0, slots := 0, locals := 0 }, 148, 4732)
theorem t_X12_besideTen : m_mS M_X12_besideTen 2 := ⟨m_inP pk_29 22 rfl rfl, ⟨m_inP pk_2 28 rfl rfl, m_inP pk_29 23 rfl rfl⟩, ⟨by decide +kernel, by decide +kernel, by decide +kernel⟩⟩
def M_X12_between : m_M := (RX12, yX12_between, cX12_between, 6, some .int, { frames := 6, cells := 0, slots := 0, locals := 152 }, 148, 4732)
theorem t_X12_between : m_mV M_X12_between 3 := ⟨⟨m_inP pk_27 8 rfl rfl, m_inP pk_27 9 rfl rfl⟩, ⟨m_inP pk_2 28 rfl rfl, m_inP pk_27 10 rfl rfl⟩, ⟨by decide +kernel, by decide +kernel, by decide +kernel⟩⟩
def M_X12_bits : m_M := (RX12, yX12_bits, cX12_bits, 3, some .int, { frames := 0, cells := 0, slots := 0, locals := 0 }, 148, 4732)
theorem t_X12_bits : m_mS M_X12_bits 1 := ⟨m_inP pk_31 15 rfl rfl, ⟨m_inP pk_2 28 rfl rfl, m_inP pk_31 16 rfl rfl⟩, ⟨by decide +kernel, by decide +kernel, by decide +kernel⟩⟩
def M_X12_blurred : m_M := (RX12, yX12_blurred, cX12_blurred, 1, some .int, { frames := 0, cells := 0, slots := 0, locals := 0 }, 148, 4732)
theorem t_X12_blurred : m_mV M_X12_blurred 0 := ⟨⟨m_inP pk_23 37 rfl rfl, m_inP pk_23 38 rfl rfl⟩, ⟨m_inP pk_2 28 rfl rfl, m_inP pk_23 39 rfl rfl⟩, ⟨by decide +kernel, by decide +kernel, by decide +kernel⟩⟩
def M_X12_book : m_M := (RX12, yX12_book, cX12_book, 3, some .int, { frames := 7, cells := 0, slots := 0, locals := 151 }, 148, 4732)
theorem t_X12_book : m_mV M_X12_book 0 := ⟨⟨m_inP pk_24 12 rfl rfl, m_inP pk_24 13 rfl rfl⟩, ⟨m_inP pk_2 28 rfl rfl, m_inP pk_24 14 rfl rfl⟩, ⟨by decide +kernel, by decide +kernel, by decide +kernel⟩⟩
def M_X12_build : m_M := (RX12, yX12_build, cX12_build, 11, none, { frames := 1, cells := 0, slots := 0, locals := 25 }, 148, 4732)
theorem t_X12_build : m_mV M_X12_build 1 := ⟨⟨m_inP pk_26 18 rfl rfl, m_inP pk_1 25 rfl rfl⟩, ⟨m_inP pk_2 28 rfl rfl, m_inP pk_26 19 rfl rfl⟩, ⟨by decide +kernel, by decide +kernel, by decide +kernel⟩⟩
def M_X12_canBe : m_M := (RX12, yX12_canBe, cX12_canBe, 6, some .boolean, { frames := 3, cells := 0, slots := 0, locals := 85 }, 148, 4732)
theorem t_X12_canBe : m_mV M_X12_canBe 1 := ⟨⟨m_inP pk_26 15 rfl rfl, m_inP pk_1 24 rfl rfl⟩, ⟨m_inP pk_2 28 rfl rfl, m_inP pk_26 16 rfl rfl⟩, ⟨by decide +kernel, by decide +kernel, by decide +kernel⟩⟩
def M_X12_canBeNow : m_M := (RX12, yX12_canBeNow, cX12_canBeNow, 1, some .boolean, { frames := 4, cells := 0, slots := 0, locals := 110 }, 148, 4732)
theorem t_X12_canBeNow : m_mV M_X12_canBeNow 0 := ⟨⟨m_inP pk_26 6 rfl rfl, m_inP pk_1 21 rfl rfl⟩, ⟨m_inP pk_2 28 rfl rfl, m_inP pk_26 7 rfl rfl⟩, ⟨by decide +kernel, by decide +kernel, by decide +kernel⟩⟩
def M_X12_canEnter : m_M := (RX12, yX12_canEnter, cX12_canEnter, 4, some .boolean, { frames := 2, cells := 0, slots := 0, locals := 45 }, 148, 4732)
theorem t_X12_canEnter : m_mS M_X12_canEnter 4 := ⟨m_inP pk_23 12 rfl rfl, ⟨m_inP pk_2 28 rfl rfl, m_inP pk_23 13 rfl rfl⟩, ⟨by decide +kernel, by decide +kernel, by decide +kernel⟩⟩
def M_X12_change : m_M := (RX12, yX12_change, cX12_change, 4, some .int, { frames := 1, cells := 0, slots := 0, locals := 21 }, 148, 4732)
theorem t_X12_change : m_mV M_X12_change 2 := ⟨⟨m_inP pk_22 24 rfl rfl, m_inP pk_0 38 rfl rfl⟩, ⟨m_inP pk_2 28 rfl rfl, m_inP pk_22 25 rfl rfl⟩, ⟨by decide +kernel, by decide +kernel, by decide +kernel⟩⟩
def M_X12_common : m_M := (RX12, yX12_common, cX12_common, 10, some .long, { frames := 0, cells := 0, slots := 0, locals := 0 }, 148, 4732)
theorem t_X12_common : m_mS M_X12_common 2 := ⟨m_inP pk_28 35 rfl rfl, ⟨m_inP pk_2 28 rfl rfl, m_inP pk_28 36 rfl rfl⟩, ⟨by decide +kernel, by decide +kernel, by decide +kernel⟩⟩
def M_X12_compare : m_M := (RX12, yX12_compare, cX12_compare, 8, some .int, { frames := 1, cells := 0, slots := 0, locals := 30 }, 148, 4732)
theorem t_X12_compare : m_mV M_X12_compare 6 := ⟨⟨m_inP pk_27 0 rfl rfl, m_inP pk_1 30 rfl rfl⟩, ⟨m_inP pk_2 28 rfl rfl, m_inP pk_27 1 rfl rfl⟩, ⟨by decide +kernel, by decide +kernel, by decide +kernel⟩⟩
def M_X12_copyTen : m_M := (RX12, yX12_copyTen, cX12_copyTen, 3, none, { frames := 0, cells := 0, slots := 0, locals := 0 }, 148, 4732)
theorem t_X12_copyTen : m_mV M_X12_copyTen 1 := ⟨⟨m_inP pk_29 19 rfl rfl, m_inP pk_2 7 rfl rfl⟩, ⟨m_inP pk_2 28 rfl rfl, m_inP pk_29 20 rfl rfl⟩, ⟨by decide +kernel, by decide +kernel, by decide +kernel⟩⟩
def M_X12_core : m_M := (RX12, yX12_core, cX12_core, 3, some .int, { frames := 4, cells := 0, slots := 0, locals := 110 }, 148, 4732)
theorem t_X12_core : m_mV M_X12_core 0 := ⟨⟨m_inP pk_29 37 rfl rfl, m_inP pk_29 38 rfl rfl⟩, ⟨m_inP pk_2 28 rfl rfl, m_inP pk_29 39 rfl rfl⟩, ⟨by decide +kernel, by decide +kernel, by decide +kernel⟩⟩
def M_X12_could : m_M := (RX12, yX12_could, cX12_could, 4, some .int, { frames := 5, cells := 0, slots := 0, locals := 135 }, 148, 4732)
theorem t_X12_could : m_mV M_X12_could 2 := ⟨⟨m_inP pk_30 15 rfl rfl, m_inP pk_30 16 rfl rfl⟩, ⟨m_inP pk_2 28 rfl rfl, m_inP pk_30 17 rfl rfl⟩, ⟨by decide +kernel, by decide +kernel, by decide +kernel⟩⟩
def M_X12_count : m_M := (RX12, yX12_count, cX12_count, 5, some .int, { frames := 2, cells := 0, slots := 0, locals := 44 }, 148, 4732)
theorem t_X12_count : m_mV M_X12_count 1 := ⟨⟨m_inP pk_31 11 rfl rfl, m_inP pk_31 12 rfl rfl⟩, ⟨m_inP pk_2 28 rfl rfl, m_inP pk_31 13 rfl rfl⟩, ⟨by decide +kernel, by decide +kernel, by decide +kernel⟩⟩
def M_X12_counting : m_M := (RX12, yX12_counting, cX12_counting, 3, some .int, { frames := 1, cells := 0, slots := 0, locals := 22 }, 148, 4732)
theorem t_X12_counting : m_mV M_X12_counting 0 := ⟨⟨m_inP pk_26 12 rfl rfl, m_inP pk_1 23 rfl rfl⟩, ⟨m_inP pk_2 28 rfl rfl, m_inP pk_26 13 rfl rfl⟩, ⟨by decide +kernel, by decide +kernel, by decide +kernel⟩⟩
def M_X12_counts : m_M := (RX12, yX12_counts, cX12_counts, 3, some .int, { frames := 2, cells := 0, slots := 0, locals := 46 }, 148, 4732)
theorem t_X12_counts : m_mV M_X12_counts 2 := ⟨⟨m_inP pk_23 19 rfl rfl, m_inP pk_23 20 rfl rfl⟩, ⟨m_inP pk_2 28 rfl rfl, m_inP pk_23 21 rfl rfl⟩, ⟨by decide +kernel, by decide +kernel, by decide +kernel⟩⟩
def M_X12_cut : m_M := (RX12, yX12_cut, cX12_cut, 3, some .int, { frames := 2, cells := 0, slots := 0, locals := 45 }, 148, 4732)
theorem t_X12_cut : m_mV M_X12_cut 2 := ⟨⟨m_inP pk_22 29 rfl rfl, m_inP pk_22 30 rfl rfl⟩, ⟨m_inP pk_2 28 rfl rfl, m_inP pk_22 31 rfl rfl⟩, ⟨by decide +kernel, by decide +kernel, by decide +kernel⟩⟩
def M_X12_dates : m_M := (RX12, yX12_dates, cX12_dates, 10, some .int, { frames := 5, cells := 0, slots := 0, locals := 131 }, 148, 4732)
theorem t_X12_dates : m_mV M_X12_dates 4 := ⟨⟨m_inP pk_28 24 rfl rfl, m_inP pk_28 25 rfl rfl⟩, ⟨m_inP pk_2 28 rfl rfl, m_inP pk_28 26 rfl rfl⟩, ⟨by decide +kernel, by decide +kernel, by decide +kernel⟩⟩
def M_X12_doAct : m_M := (RX12, yX12_doAct, cX12_doAct, 3, none, { frames := 1, cells := 0, slots := 0, locals := 25 }, 148, 4732)
theorem t_X12_doAct : m_mV M_X12_doAct 1 := ⟨⟨m_inP pk_26 0 rfl rfl, m_inP pk_1 20 rfl rfl⟩, ⟨m_inP pk_2 28 rfl rfl, m_inP pk_26 1 rfl rfl⟩, ⟨by decide +kernel, by decide +kernel, by decide +kernel⟩⟩
def M_X12_edge : m_M := (RX12, yX12_edge, cX12_edge, 6, none, { frames := 0, cells := 0, slots := 0, locals := 0 }, 148, 4732)
theorem t_X12_edge : m_mV M_X12_edge 5 := ⟨⟨m_inP pk_26 24 rfl rfl, m_inP pk_1 26 rfl rfl⟩, ⟨m_inP pk_2 28 rfl rfl, m_inP pk_26 25 rfl rfl⟩, ⟨by decide +kernel, by decide +kernel, by decide +kernel⟩⟩
def M_X12_end : m_M := (RX12, yX12_end, cX12_end, 2, some .int, { frames := 0, cells := 0, slots := 0, locals := 0 }, 148, 4732)
theorem t_X12_end : m_mV M_X12_end 1 := ⟨⟨m_inP pk_24 6 rfl rfl, m_inP pk_24 7 rfl rfl⟩, ⟨m_inP pk_2 28 rfl rfl, m_inP pk_24 8 rfl rfl⟩, ⟨by decide +kernel, by decide +kernel, by decide +kernel⟩⟩
def M_X12_entry : m_M := (RX12, yX12_entry, cX12_entry, 5, some .int, { frames := 3, cells := 0, slots := 0, locals := 68 }, 148, 4732)
theorem t_X12_entry : m_mV M_X12_entry 4 := ⟨⟨m_inP pk_23 8 rfl rfl, m_inP pk_23 9 rfl rfl⟩, ⟨m_inP pk_2 28 rfl rfl, m_inP pk_23 10 rfl rfl⟩, ⟨by decide +kernel, by decide +kernel, by decide +kernel⟩⟩
def M_X12_fault : m_M := (RX12, yX12_fault, cX12_fault, 1, some .int, { frames := 0, cells := 0, slots := 0, locals := 0 }, 148, 4732)
theorem t_X12_fault : m_mV M_X12_fault 0 := ⟨⟨m_inP pk_24 9 rfl rfl, m_inP pk_24 10 rfl rfl⟩, ⟨m_inP pk_2 28 rfl rfl, m_inP pk_24 11 rfl rfl⟩, ⟨by decide +kernel, by decide +kernel, by decide +kernel⟩⟩
def M_X12_feed : m_M := (RX12, yX12_feed, cX12_feed, 6, some .int, { frames := 1, cells := 0, slots := 0, locals := 22 }, 148, 4732)
theorem t_X12_feed : m_mV M_X12_feed 5 := ⟨⟨m_inP pk_24 0 rfl rfl, m_inP pk_24 1 rfl rfl⟩, ⟨m_inP pk_2 28 rfl rfl, m_inP pk_24 2 rfl rfl⟩, ⟨by decide +kernel, by decide +kernel, by decide +kernel⟩⟩
def M_X12_feet : m_M := (RX12, yX12_feet, cX12_feet, 8, some .int, { frames := 6, cells := 0, slots := 0, locals := 152 }, 148, 4732)
theorem t_X12_feet : m_mV M_X12_feet 3 := ⟨⟨m_inP pk_27 37 rfl rfl, m_inP pk_27 38 rfl rfl⟩, ⟨m_inP pk_2 28 rfl rfl, m_inP pk_27 39 rfl rfl⟩, ⟨by decide +kernel, by decide +kernel, by decide +kernel⟩⟩
def M_X12_feetOf : m_M := (RX12, yX12_feetOf, cX12_feetOf, 3, some .int, { frames := 0, cells := 0, slots := 0, locals := 0 }, 148, 4732)
theorem t_X12_feetOf : m_mV M_X12_feetOf 2 := ⟨⟨m_inP pk_31 2 rfl rfl, m_inP pk_2 13 rfl rfl⟩, ⟨m_inP pk_2 28 rfl rfl, m_inP pk_31 3 rfl rfl⟩, ⟨by decide +kernel, by decide +kernel, by decide +kernel⟩⟩
def M_X12_findAsked : m_M := (RX12, yX12_findAsked, cX12_findAsked, 4, some .boolean, { frames := 1, cells := 0, slots := 0, locals := 22 }, 148, 4732)
theorem t_X12_findAsked : m_mV M_X12_findAsked 0 := ⟨⟨m_inP pk_30 7 rfl rfl, m_inP pk_2 9 rfl rfl⟩, ⟨m_inP pk_2 28 rfl rfl, m_inP pk_30 8 rfl rfl⟩, ⟨by decide +kernel, by decide +kernel, by decide +kernel⟩⟩
def M_X12_findEnds : m_M := (RX12, yX12_findEnds, cX12_findEnds, 5, none, { frames := 4, cells := 0, slots := 0, locals := 107 }, 148, 4732)
theorem t_X12_findEnds : m_mV M_X12_findEnds 2 := ⟨⟨m_inP pk_28 7 rfl rfl, m_inP pk_1 38 rfl rfl⟩, ⟨m_inP pk_2 28 rfl rfl, m_inP pk_28 8 rfl rfl⟩, ⟨by decide +kernel, by decide +kernel, by decide +kernel⟩⟩
def M_X12_findGroups : m_M := (RX12, yX12_findGroups, cX12_findGroups, 6, none, { frames := 2, cells := 0, slots := 0, locals := 55 }, 148, 4732)
theorem t_X12_findGroups : m_mV M_X12_findGroups 0 := ⟨⟨m_inP pk_29 32 rfl rfl, m_inP pk_2 8 rfl rfl⟩, ⟨m_inP pk_2 28 rfl rfl, m_inP pk_29 33 rfl rfl⟩, ⟨by decide +kernel, by decide +kernel, by decide +kernel⟩⟩
def M_X12_fits : m_M := (RX12, yX12_fits, cX12_fits, 1, some .int, { frames := 5, cells := 0, slots := 0, locals := 130 }, 148, 4732)
theorem t_X12_fits : m_mV M_X12_fits 0 := ⟨⟨m_inP pk_26 2 rfl rfl, m_inP pk_26 3 rfl rfl⟩, ⟨m_inP pk_2 28 rfl rfl, m_inP pk_26 4 rfl rfl⟩, ⟨by decide +kernel, by decide +kernel, by decide +kernel⟩⟩
def M_X12_four : m_M := (RX12, yX12_four, cX12_four, 3, none, { frames := 0, cells := 0, slots := 0, locals := 0 }, 148, 4732)
theorem t_X12_four : m_mV M_X12_four 1 := ⟨⟨m_inP pk_24 4 rfl rfl, m_inP pk_1 6 rfl rfl⟩, ⟨m_inP pk_2 28 rfl rfl, m_inP pk_24 5 rfl rfl⟩, ⟨by decide +kernel, by decide +kernel, by decide +kernel⟩⟩
def M_X12_goFrom : m_M := (RX12, yX12_goFrom, cX12_goFrom, 3, none, { frames := 3, cells := 0, slots := 0, locals := 85 }, 148, 4732)
theorem t_X12_goFrom : m_mV M_X12_goFrom 1 := ⟨⟨m_inP pk_27 21 rfl rfl, m_inP pk_1 34 rfl rfl⟩, ⟨m_inP pk_2 28 rfl rfl, m_inP pk_27 22 rfl rfl⟩, ⟨by decide +kernel, by decide +kernel, by decide +kernel⟩⟩
def M_X12_groups : m_M := (RX12, yX12_groups, cX12_groups, 7, some .int, { frames := 3, cells := 0, slots := 0, locals := 80 }, 148, 4732)
theorem t_X12_groups : m_mV M_X12_groups 1 := ⟨⟨m_inP pk_29 34 rfl rfl, m_inP pk_29 35 rfl rfl⟩, ⟨m_inP pk_2 28 rfl rfl, m_inP pk_29 36 rfl rfl⟩, ⟨by decide +kernel, by decide +kernel, by decide +kernel⟩⟩
def M_X12_image : m_M := (RX12, yX12_image, cX12_image, 3, some .int, { frames := 1, cells := 0, slots := 0, locals := 25 }, 148, 4732)
theorem t_X12_image : m_mV M_X12_image 1 := ⟨⟨m_inP pk_22 2 rfl rfl, m_inP pk_22 3 rfl rfl⟩, ⟨m_inP pk_2 28 rfl rfl, m_inP pk_22 4 rfl rfl⟩, ⟨by decide +kernel, by decide +kernel, by decide +kernel⟩⟩
def M_X12_in : m_M := (RX12, yX12_in, cX12_in, 6, some .boolean, { frames := 0, cells := 0, slots := 0, locals := 0 }, 148, 4732)
theorem t_X12_in : m_mS M_X12_in 3 := ⟨m_inP pk_22 6 rfl rfl, ⟨m_inP pk_2 28 rfl rfl, m_inP pk_22 7 rfl rfl⟩, ⟨by decide +kernel, by decide +kernel, by decide +kernel⟩⟩
def M_X12_is : m_M := (RX12, yX12_is, cX12_is, 2, some .boolean, { frames := 0, cells := 0, slots := 0, locals := 0 }, 148, 4732)
theorem t_X12_is : m_mS M_X12_is 2 := ⟨m_inP pk_26 21 rfl rfl, ⟨m_inP pk_2 28 rfl rfl, m_inP pk_26 22 rfl rfl⟩, ⟨by decide +kernel, by decide +kernel, by decide +kernel⟩⟩
def M_X12_isAnswered : m_M := (RX12, yX12_isAnswered, cX12_isAnswered, 3, some .boolean, { frames := 5, cells := 0, slots := 0, locals := 130 }, 148, 4732)
theorem t_X12_isAnswered : m_mV M_X12_isAnswered 2 := ⟨⟨m_inP pk_27 12 rfl rfl, m_inP pk_1 32 rfl rfl⟩, ⟨m_inP pk_2 28 rfl rfl, m_inP pk_27 13 rfl rfl⟩, ⟨by decide +kernel, by decide +kernel, by decide +kernel⟩⟩
def M_X12_isAsked : m_M := (RX12, yX12_isAsked, cX12_isAsked, 3, some .boolean, { frames := 6, cells := 0, slots := 0, locals := 152 }, 148, 4732)
theorem t_X12_isAsked : m_mV M_X12_isAsked 2 := ⟨⟨m_inP pk_28 4 rfl rfl, m_inP pk_1 37 rfl rfl⟩, ⟨m_inP pk_2 28 rfl rfl, m_inP pk_28 5 rfl rfl⟩, ⟨by decide +kernel, by decide +kernel, by decide +kernel⟩⟩
def M_X12_isDigit : m_M := (RX12, yX12_isDigit, cX12_isDigit, 1, some .boolean, { frames := 0, cells := 0, slots := 0, locals := 0 }, 148, 4732)
theorem t_X12_isDigit : m_mS M_X12_isDigit 1 := ⟨m_inP pk_24 25 rfl rfl, ⟨m_inP pk_2 28 rfl rfl, m_inP pk_24 26 rfl rfl⟩, ⟨by decide +kernel, by decide +kernel, by decide +kernel⟩⟩
def M_X12_isDrafted : m_M := (RX12, yX12_isDrafted, cX12_isDrafted, 5, some .boolean, { frames := 1, cells := 0, slots := 0, locals := 23 }, 148, 4732)
theorem t_X12_isDrafted : m_mV M_X12_isDrafted 2 := ⟨⟨m_inP pk_25 20 rfl rfl, m_inP pk_1 16 rfl rfl⟩, ⟨m_inP pk_2 28 rfl rfl, m_inP pk_25 21 rfl rfl⟩, ⟨by decide +kernel, by decide +kernel, by decide +kernel⟩⟩
def M_X12_isEntry : m_M := (RX12, yX12_isEntry, cX12_isEntry, 2, some .boolean, { frames := 1, cells := 0, slots := 0, locals := 25 }, 148, 4732)
theorem t_X12_isEntry : m_mV M_X12_isEntry 1 := ⟨⟨m_inP pk_23 23 rfl rfl, m_inP pk_1 3 rfl rfl⟩, ⟨m_inP pk_2 28 rfl rfl, m_inP pk_23 24 rfl rfl⟩, ⟨by decide +kernel, by decide +kernel, by decide +kernel⟩⟩
def M_X12_isGround : m_M := (RX12, yX12_isGround, cX12_isGround, 1, some .boolean, { frames := 1, cells := 0, slots := 0, locals := 25 }, 148, 4732)
theorem t_X12_isGround : m_mS M_X12_isGround 1 := ⟨m_inP pk_29 1 rfl rfl, ⟨m_inP pk_2 28 rfl rfl, m_inP pk_29 2 rfl rfl⟩, ⟨by decide +kernel, by decide +kernel, by decide +kernel⟩⟩
def M_X12_isKeeper : m_M := (RX12, yX12_isKeeper, cX12_isKeeper, 1, some .boolean, { frames := 1, cells := 0, slots := 0, locals := 25 }, 148, 4732)
theorem t_X12_isKeeper : m_mS M_X12_isKeeper 1 := ⟨m_inP pk_23 0 rfl rfl, ⟨m_inP pk_2 28 rfl rfl, m_inP pk_23 1 rfl rfl⟩, ⟨by decide +kernel, by decide +kernel, by decide +kernel⟩⟩
def M_X12_isLength : m_M := (RX12, yX12_isLength, cX12_isLength, 2, some .boolean, { frames := 1, cells := 0, slots := 0, locals := 25 }, 148, 4732)
theorem t_X12_isLength : m_mV M_X12_isLength 1 := ⟨⟨m_inP pk_27 15 rfl rfl, m_inP pk_1 33 rfl rfl⟩, ⟨m_inP pk_2 28 rfl rfl, m_inP pk_27 16 rfl rfl⟩, ⟨by decide +kernel, by decide +kernel, by decide +kernel⟩⟩
def M_X12_isShorter : m_M := (RX12, yX12_isShorter, cX12_isShorter, 4, some .boolean, { frames := 0, cells := 0, slots := 0, locals := 0 }, 148, 4732)
theorem t_X12_isShorter : m_mV M_X12_isShorter 2 := ⟨⟨m_inP pk_23 3 rfl rfl, m_inP pk_1 0 rfl rfl⟩, ⟨m_inP pk_2 28 rfl rfl, m_inP pk_23 4 rfl rfl⟩, ⟨by decide +kernel, by decide +kernel, by decide +kernel⟩⟩
def M_X12_isSign : m_M := (RX12, yX12_isSign, cX12_isSign, 2, some .boolean, { frames := 0, cells := 0, slots := 0, locals := 0 }, 148, 4732)
theorem t_X12_isSign : m_mV M_X12_isSign 1 := ⟨⟨m_inP pk_25 37 rfl rfl, m_inP pk_1 19 rfl rfl⟩, ⟨m_inP pk_2 28 rfl rfl, m_inP pk_25 38 rfl rfl⟩, ⟨by decide +kernel, by decide +kernel, by decide +kernel⟩⟩
def M_X12_isSmall : m_M := (RX12, yX12_isSmall, cX12_isSmall, 1, some .boolean, { frames := 0, cells := 0, slots := 0, locals := 0 }, 148, 4732)
theorem t_X12_isSmall : m_mS M_X12_isSmall 1 := ⟨m_inP pk_24 22 rfl rfl, ⟨m_inP pk_2 28 rfl rfl, m_inP pk_24 23 rfl rfl⟩, ⟨by decide +kernel, by decide +kernel, by decide +kernel⟩⟩
def M_X12_isSo : m_M := (RX12, yX12_isSo, cX12_isSo, 5, some .boolean, { frames := 2, cells := 0, slots := 0, locals := 44 }, 148, 4732)
theorem t_X12_isSo : m_mV M_X12_isSo 1 := ⟨⟨m_inP pk_30 32 rfl rfl, m_inP pk_2 12 rfl rfl⟩, ⟨m_inP pk_2 28 rfl rfl, m_inP pk_30 33 rfl rfl⟩, ⟨by decide +kernel, by decide +kernel, by decide +kernel⟩⟩
def M_X12_isThing : m_M := (RX12, yX12_isThing, cX12_isThing, 1, some .boolean, { frames := 1, cells := 0, slots := 0, locals := 25 }, 148, 4732)
theorem t_X12_isThing : m_mS M_X12_isThing 1 := ⟨m_inP pk_22 33 rfl rfl, ⟨m_inP pk_2 28 rfl rfl, m_inP pk_22 34 rfl rfl⟩, ⟨by decide +kernel, by decide +kernel, by decide +kernel⟩⟩
def M_X12_isTight : m_M := (RX12, yX12_isTight, cX12_isTight, 2, some .boolean, { frames := 2, cells := 0, slots := 0, locals := 57 }, 148, 4732)
theorem t_X12_isTight : m_mV M_X12_isTight 1 := ⟨⟨m_inP pk_27 6 rfl rfl, m_inP pk_1 31 rfl rfl⟩, ⟨m_inP pk_2 28 rfl rfl, m_inP pk_27 7 rfl rfl⟩, ⟨by decide +kernel, by decide +kernel, by decide +kernel⟩⟩
def M_X12_isWeek : m_M := (RX12, yX12_isWeek, cX12_isWeek, 1, some .boolean, { frames := 1, cells := 0, slots := 0, locals := 25 }, 148, 4732)
theorem t_X12_isWeek : m_mS M_X12_isWeek 1 := ⟨m_inP pk_22 18 rfl rfl, ⟨m_inP pk_2 28 rfl rfl, m_inP pk_22 19 rfl rfl⟩, ⟨by decide +kernel, by decide +kernel, by decide +kernel⟩⟩
def M_X12_isWord : m_M := (RX12, yX12_isWord, cX12_isWord, 3, some .boolean, { frames := 0, cells := 0, slots := 0, locals := 0 }, 148, 4732)
theorem t_X12_isWord : m_mV M_X12_isWord 1 := ⟨⟨m_inP pk_24 37 rfl rfl, m_inP pk_1 10 rfl rfl⟩, ⟨m_inP pk_2 28 rfl rfl, m_inP pk_24 38 rfl rfl⟩, ⟨by decide +kernel, by decide +kernel, by decide +kernel⟩⟩
def M_X12_joined : m_M := (RX12, yX12_joined, cX12_joined, 3, some .int, { frames := 3, cells := 0, slots := 0, locals := 80 }, 148, 4732)
theorem t_X12_joined : m_mV M_X12_joined 2 := ⟨⟨m_inP pk_29 28 rfl rfl, m_inP pk_29 29 rfl rfl⟩, ⟨m_inP pk_2 28 rfl rfl, m_inP pk_29 30 rfl rfl⟩, ⟨by decide +kernel, by decide +kernel, by decide +kernel⟩⟩
def M_X12_judge : m_M := (RX12, yX12_judge, cX12_judge, 6, some .int, { frames := 3, cells := 0, slots := 0, locals := 68 }, 148, 4732)
theorem t_X12_judge : m_mV M_X12_judge 1 := ⟨⟨m_inP pk_30 28 rfl rfl, m_inP pk_30 29 rfl rfl⟩, ⟨m_inP pk_2 28 rfl rfl, m_inP pk_30 30 rfl rfl⟩, ⟨by decide +kernel, by decide +kernel, by decide +kernel⟩⟩
def M_X12_keep : m_M := (RX12, yX12_keep, cX12_keep, 3, none, { frames := 0, cells := 0, slots := 0, locals := 0 }, 148, 4732)
theorem t_X12_keep : m_mV M_X12_keep 1 := ⟨⟨m_inP pk_26 33 rfl rfl, m_inP pk_1 29 rfl rfl⟩, ⟨m_inP pk_2 28 rfl rfl, m_inP pk_26 34 rfl rfl⟩, ⟨by decide +kernel, by decide +kernel, by decide +kernel⟩⟩
def M_X12_lay : m_M := (RX12, yX12_lay, cX12_lay, 7, some .int, { frames := 6, cells := 0, slots := 0, locals := 162 }, 148, 4732)
theorem t_X12_lay : m_mV M_X12_lay 5 := ⟨⟨m_inP pk_28 37 rfl rfl, m_inP pk_28 38 rfl rfl⟩, ⟨m_inP pk_2 28 rfl rfl, m_inP pk_28 39 rfl rfl⟩, ⟨by decide +kernel, by decide +kernel, by decide +kernel⟩⟩
def M_X12_lengthOf : m_M := (RX12, yX12_lengthOf, cX12_lengthOf, 3, some .int, { frames := 1, cells := 0, slots := 0, locals := 22 }, 148, 4732)
theorem t_X12_lengthOf : m_mV M_X12_lengthOf 1 := ⟨⟨m_inP pk_23 29 rfl rfl, m_inP pk_1 4 rfl rfl⟩, ⟨m_inP pk_2 28 rfl rfl, m_inP pk_23 30 rfl rfl⟩, ⟨by decide +kernel, by decide +kernel, by decide +kernel⟩⟩
def M_X12_multiply : m_M := (RX12, yX12_multiply, cX12_multiply, 14, none, { frames := 0, cells := 0, slots := 0, locals := 0 }, 148, 4732)
theorem t_X12_multiply : m_mV M_X12_multiply 2 := ⟨⟨m_inP pk_29 10 rfl rfl, m_inP pk_2 4 rfl rfl⟩, ⟨m_inP pk_2 28 rfl rfl, m_inP pk_29 11 rfl rfl⟩, ⟨by decide +kernel, by decide +kernel, by decide +kernel⟩⟩
def M_X12_must : m_M := (RX12, yX12_must, cX12_must, 2, none, { frames := 2, cells := 0, slots := 0, locals := 40 }, 148, 4732)
theorem t_X12_must : m_mV M_X12_must 1 := ⟨⟨m_inP pk_25 6 rfl rfl, m_inP pk_1 13 rfl rfl⟩, ⟨m_inP pk_2 28 rfl rfl, m_inP pk_25 7 rfl rfl⟩, ⟨by decide +kernel, by decide +kernel, by decide +kernel⟩⟩
def M_X12_next : m_M := (RX12, yX12_next, cX12_next, 1, none, { frames := 1, cells := 0, slots := 0, locals := 20 }, 148, 4732)
theorem t_X12_next : m_mV M_X12_next 0 := ⟨⟨m_inP pk_24 19 rfl rfl, m_inP pk_1 8 rfl rfl⟩, ⟨m_inP pk_2 28 rfl rfl, m_inP pk_24 20 rfl rfl⟩, ⟨by decide +kernel, by decide +kernel, by decide +kernel⟩⟩
def M_X12_number : m_M := (RX12, yX12_number, cX12_number, 6, some .int, { frames := 3, cells := 0, slots := 0, locals := 61 }, 148, 4732)
theorem t_X12_number : m_mV M_X12_number 2 := ⟨⟨m_inP pk_25 3 rfl rfl, m_inP pk_1 12 rfl rfl⟩, ⟨m_inP pk_2 28 rfl rfl, m_inP pk_25 4 rfl rfl⟩, ⟨by decide +kernel, by decide +kernel, by decide +kernel⟩⟩
def M_X12_numbers : m_M := (RX12, yX12_numbers, cX12_numbers, 8, some .int, { frames := 7, cells := 0, slots := 0, locals := 174 }, 148, 4732)
theorem t_X12_numbers : m_mV M_X12_numbers 4 := ⟨⟨m_inP pk_28 15 rfl rfl, m_inP pk_28 16 rfl rfl⟩, ⟨m_inP pk_2 28 rfl rfl, m_inP pk_28 17 rfl rfl⟩, ⟨by decide +kernel, by decide +kernel, by decide +kernel⟩⟩
def M_X12_numbersOf : m_M := (RX12, yX12_numbersOf, cX12_numbersOf, 4, some .int, { frames := 3, cells := 0, slots := 0, locals := 85 }, 148, 4732)
theorem t_X12_numbersOf : m_mV M_X12_numbersOf 1 := ⟨⟨m_inP pk_28 19 rfl rfl, m_inP pk_2 1 rfl rfl⟩, ⟨m_inP pk_2 28 rfl rfl, m_inP pk_28 20 rfl rfl⟩, ⟨by decide +kernel, by decide +kernel, by decide +kernel⟩⟩
def M_X12_of : m_M := (RX12, yX12_of, cX12_of, 3, some .int, { frames := 2, cells := 0, slots := 0, locals := 46 }, 148, 4732)
theorem t_X12_of : m_mV M_X12_of 2 := ⟨⟨m_inP pk_23 25 rfl rfl, m_inP pk_23 26 rfl rfl⟩, ⟨m_inP pk_2 28 rfl rfl, m_inP pk_23 27 rfl rfl⟩, ⟨by decide +kernel, by decide +kernel, by decide +kernel⟩⟩
def M_X12_ofEntry : m_M := (RX12, yX12_ofEntry, cX12_ofEntry, 3, some .int, { frames := 0, cells := 0, slots := 0, locals := 0 }, 148, 4732)
theorem t_X12_ofEntry : m_mV M_X12_ofEntry 2 := ⟨⟨m_inP pk_23 32 rfl rfl, m_inP pk_1 5 rfl rfl⟩, ⟨m_inP pk_2 28 rfl rfl, m_inP pk_23 33 rfl rfl⟩, ⟨by decide +kernel, by decide +kernel, by decide +kernel⟩⟩
def M_X12_often : m_M := (RX12, yX12_often, cX12_often, 6, some .int, { frames := 1, cells := 0, slots := 0, locals := 33 }, 148, 4732)
theorem t_X12_often : m_mV M_X12_often 2 := ⟨⟨m_inP pk_29 16 rfl rfl, m_inP pk_2 6 rfl rfl⟩, ⟨m_inP pk_2 28 rfl rfl, m_inP pk_29 17 rfl rfl⟩, ⟨by decide +kernel, by decide +kernel, by decide +kernel⟩⟩
def M_X12_part : m_M := (RX12, yX12_part, cX12_part, 16, some .long, { frames := 6, cells := 0, slots := 0, locals := 152 }, 148, 4732)
theorem t_X12_part : m_mV M_X12_part 3 := ⟨⟨m_inP pk_28 27 rfl rfl, m_inP pk_28 28 rfl rfl⟩, ⟨m_inP pk_2 28 rfl rfl, m_inP pk_28 29 rfl rfl⟩, ⟨by decide +kernel, by decide +kernel, by decide +kernel⟩⟩
def M_X12_product : m_M := (RX12, yX12_product, cX12_product, 11, none, { frames := 0, cells := 0, slots := 0, locals := 0 }, 148, 4732)
theorem t_X12_product : m_mS M_X12_product 5 := ⟨m_inP pk_27 3 rfl rfl, ⟨m_inP pk_2 28 rfl rfl, m_inP pk_27 4 rfl rfl⟩, ⟨by decide +kernel, by decide +kernel, by decide +kernel⟩⟩
def M_X12_readClause : m_M := (RX12, yX12_readClause, cX12_readClause, 1, none, { frames := 6, cells := 0, slots := 0, locals := 131 }, 148, 4732)
theorem t_X12_readClause : m_mV M_X12_readClause 0 := ⟨⟨m_inP pk_24 33 rfl rfl, m_inP pk_1 9 rfl rfl⟩, ⟨m_inP pk_2 28 rfl rfl, m_inP pk_24 34 rfl rfl⟩, ⟨by decide +kernel, by decide +kernel, by decide +kernel⟩⟩
def M_X12_readMeasure : m_M := (RX12, yX12_readMeasure, cX12_readMeasure, 5, none, { frames := 4, cells := 0, slots := 0, locals := 86 }, 148, 4732)
theorem t_X12_readMeasure : m_mV M_X12_readMeasure 1 := ⟨⟨m_inP pk_25 30 rfl rfl, m_inP pk_1 18 rfl rfl⟩, ⟨m_inP pk_2 28 rfl rfl, m_inP pk_25 31 rfl rfl⟩, ⟨by decide +kernel, by decide +kernel, by decide +kernel⟩⟩
def M_X12_readShorter : m_M := (RX12, yX12_readShorter, cX12_readShorter, 4, none, { frames := 4, cells := 0, slots := 0, locals := 86 }, 148, 4732)
theorem t_X12_readShorter : m_mV M_X12_readShorter 0 := ⟨⟨m_inP pk_25 16 rfl rfl, m_inP pk_1 15 rfl rfl⟩, ⟨m_inP pk_2 28 rfl rfl, m_inP pk_25 17 rfl rfl⟩, ⟨by decide +kernel, by decide +kernel, by decide +kernel⟩⟩
def M_X12_readThing : m_M := (RX12, yX12_readThing, cX12_readThing, 2, none, { frames := 5, cells := 0, slots := 0, locals := 110 }, 148, 4732)
theorem t_X12_readThing : m_mV M_X12_readThing 0 := ⟨⟨m_inP pk_25 24 rfl rfl, m_inP pk_1 17 rfl rfl⟩, ⟨m_inP pk_2 28 rfl rfl, m_inP pk_25 25 rfl rfl⟩, ⟨by decide +kernel, by decide +kernel, by decide +kernel⟩⟩
def M_X12_readWeeks : m_M := (RX12, yX12_readWeeks, cX12_readWeeks, 3, none, { frames := 4, cells := 0, slots := 0, locals := 86 }, 148, 4732)
theorem t_X12_readWeeks : m_mV M_X12_readWeeks 0 := ⟨⟨m_inP pk_25 0 rfl rfl, m_inP pk_1 11 rfl rfl⟩, ⟨m_inP pk_2 28 rfl rfl, m_inP pk_25 1 rfl rfl⟩, ⟨by decide +kernel, by decide +kernel, by decide +kernel⟩⟩
def M_X12_round : m_M := (RX12, yX12_round, cX12_round, 9, some .boolean, { frames := 2, cells := 0, slots := 0, locals := 57 }, 148, 4732)
theorem t_X12_round : m_mV M_X12_round 1 := ⟨⟨m_inP pk_26 30 rfl rfl, m_inP pk_1 28 rfl rfl⟩, ⟨m_inP pk_2 28 rfl rfl, m_inP pk_26 31 rfl rfl⟩, ⟨by decide +kernel, by decide +kernel, by decide +kernel⟩⟩
def M_X12_row : m_M := (RX12, yX12_row, cX12_row, 5, some .int, { frames := 3, cells := 0, slots := 0, locals := 68 }, 148, 4732)
theorem t_X12_row : m_mV M_X12_row 0 := ⟨⟨m_inP pk_23 34 rfl rfl, m_inP pk_23 35 rfl rfl⟩, ⟨m_inP pk_2 28 rfl rfl, m_inP pk_23 36 rfl rfl⟩, ⟨by decide +kernel, by decide +kernel, by decide +kernel⟩⟩
def M_X12_says : m_M := (RX12, yX12_says, cX12_says, 6, some .int, { frames := 2, cells := 0, slots := 0, locals := 45 }, 148, 4732)
theorem t_X12_says : m_mV M_X12_says 3 := ⟨⟨m_inP pk_30 25 rfl rfl, m_inP pk_30 26 rfl rfl⟩, ⟨m_inP pk_2 28 rfl rfl, m_inP pk_30 27 rfl rfl⟩, ⟨by decide +kernel, by decide +kernel, by decide +kernel⟩⟩
def M_X12_share : m_M := (RX12, yX12_share, cX12_share, 13, some .int, { frames := 1, cells := 0, slots := 0, locals := 29 }, 148, 4732)
theorem t_X12_share : m_mV M_X12_share 6 := ⟨⟨m_inP pk_27 26 rfl rfl, m_inP pk_1 35 rfl rfl⟩, ⟨m_inP pk_2 28 rfl rfl, m_inP pk_27 27 rfl rfl⟩, ⟨by decide +kernel, by decide +kernel, by decide +kernel⟩⟩
def M_X12_shorter : m_M := (RX12, yX12_shorter, cX12_shorter, 3, some .int, { frames := 2, cells := 0, slots := 0, locals := 45 }, 148, 4732)
theorem t_X12_shorter : m_mV M_X12_shorter 2 := ⟨⟨m_inP pk_22 36 rfl rfl, m_inP pk_22 37 rfl rfl⟩, ⟨m_inP pk_2 28 rfl rfl, m_inP pk_22 38 rfl rfl⟩, ⟨by decide +kernel, by decide +kernel, by decide +kernel⟩⟩
def M_X12_startAt : m_M := (RX12, yX12_startAt, cX12_startAt, 4, none, { frames := 0, cells := 0, slots := 0, locals := 0 }, 148, 4732)
theorem t_X12_startAt : m_mV M_X12_startAt 1 := ⟨⟨m_inP pk_26 27 rfl rfl, m_inP pk_1 27 rfl rfl⟩, ⟨m_inP pk_2 28 rfl rfl, m_inP pk_26 28 rfl rfl⟩, ⟨by decide +kernel, by decide +kernel, by decide +kernel⟩⟩
def M_X12_status : m_M := (RX12, yX12_status, cX12_status, 1, some .int, { frames := 0, cells := 0, slots := 0, locals := 0 }, 148, 4732)
theorem t_X12_status : m_mV M_X12_status 0 := ⟨⟨m_inP pk_31 17 rfl rfl, m_inP pk_31 18 rfl rfl⟩, ⟨m_inP pk_2 28 rfl rfl, m_inP pk_31 19 rfl rfl⟩, ⟨by decide +kernel, by decide +kernel, by decide +kernel⟩⟩
def M_X12_sure : m_M := (RX12, yX12_sure, cX12_sure, 5, some .int, { frames := 6, cells := 0, slots := 0, locals := 152 }, 148, 4732)
theorem t_X12_sure : m_mV M_X12_sure 2 := ⟨⟨m_inP pk_27 31 rfl rfl, m_inP pk_27 32 rfl rfl⟩, ⟨m_inP pk_2 28 rfl rfl, m_inP pk_27 33 rfl rfl⟩, ⟨by decide +kernel, by decide +kernel, by decide +kernel⟩⟩
def M_X12_takeEnd : m_M := (RX12, yX12_takeEnd, cX12_takeEnd, 12, none, { frames := 5, cells := 0, slots := 0, locals := 131 }, 148, 4732)
theorem t_X12_takeEnd : m_mV M_X12_takeEnd 4 := ⟨⟨m_inP pk_29 4 rfl rfl, m_inP pk_2 2 rfl rfl⟩, ⟨m_inP pk_2 28 rfl rfl, m_inP pk_29 5 rfl rfl⟩, ⟨by decide +kernel, by decide +kernel, by decide +kernel⟩⟩
def M_X12_tell : m_M := (RX12, yX12_tell, cX12_tell, 3, some .int, { frames := 2, cells := 0, slots := 0, locals := 44 }, 148, 4732)
theorem t_X12_tell : m_mV M_X12_tell 2 := ⟨⟨m_inP pk_30 21 rfl rfl, m_inP pk_30 22 rfl rfl⟩, ⟨m_inP pk_2 28 rfl rfl, m_inP pk_30 23 rfl rfl⟩, ⟨by decide +kernel, by decide +kernel, by decide +kernel⟩⟩
def M_X12_tells : m_M := (RX12, yX12_tells, cX12_tells, 13, some .int, { frames := 2, cells := 0, slots := 0, locals := 53 }, 148, 4732)
theorem t_X12_tells : m_mV M_X12_tells 2 := ⟨⟨m_inP pk_28 10 rfl rfl, m_inP pk_1 39 rfl rfl⟩, ⟨m_inP pk_2 28 rfl rfl, m_inP pk_28 11 rfl rfl⟩, ⟨by decide +kernel, by decide +kernel, by decide +kernel⟩⟩
def M_X12_times : m_M := (RX12, yX12_times, cX12_times, 10, none, { frames := 0, cells := 0, slots := 0, locals := 0 }, 148, 4732)
theorem t_X12_times : m_mS M_X12_times 5 := ⟨m_inP pk_26 36 rfl rfl, ⟨m_inP pk_2 28 rfl rfl, m_inP pk_26 37 rfl rfl⟩, ⟨by decide +kernel, by decide +kernel, by decide +kernel⟩⟩
def M_X12_told : m_M := (RX12, yX12_told, cX12_told, 5, some .int, { frames := 2, cells := 0, slots := 0, locals := 45 }, 148, 4732)
theorem t_X12_told : m_mV M_X12_told 1 := ⟨⟨m_inP pk_31 8 rfl rfl, m_inP pk_31 9 rfl rfl⟩, ⟨m_inP pk_2 28 rfl rfl, m_inP pk_31 10 rfl rfl⟩, ⟨by decide +kernel, by decide +kernel, by decide +kernel⟩⟩
def M_X12_trade : m_M := (RX12, yX12_trade, cX12_trade, 2, some .int, { frames := 1, cells := 0, slots := 0, locals := 25 }, 148, 4732)
theorem t_X12_trade : m_mV M_X12_trade 1 := ⟨⟨m_inP pk_31 4 rfl rfl, m_inP pk_31 5 rfl rfl⟩, ⟨m_inP pk_2 28 rfl rfl, m_inP pk_31 6 rfl rfl⟩, ⟨by decide +kernel, by decide +kernel, by decide +kernel⟩⟩
def M_X12_triple : m_M := (RX12, yX12_triple, cX12_triple, 9, none, { frames := 1, cells := 0, slots := 0, locals := 33 }, 148, 4732)
theorem t_X12_triple : m_mV M_X12_triple 4 := ⟨⟨m_inP pk_29 7 rfl rfl, m_inP pk_2 3 rfl rfl⟩, ⟨m_inP pk_2 28 rfl rfl, m_inP pk_29 8 rfl rfl⟩, ⟨by decide +kernel, by decide +kernel, by decide +kernel⟩⟩
def M_X12_was : m_M := (RX12, yX12_was, cX12_was, 2, some .int, { frames := 0, cells := 0, slots := 0, locals := 0 }, 148, 4732)
theorem t_X12_was : m_mV M_X12_was 1 := ⟨⟨m_inP pk_22 27 rfl rfl, m_inP pk_0 39 rfl rfl⟩, ⟨m_inP pk_2 28 rfl rfl, m_inP pk_22 28 rfl rfl⟩, ⟨by decide +kernel, by decide +kernel, by decide +kernel⟩⟩
def M_X12_waysWith : m_M := (RX12, yX12_waysWith, cX12_waysWith, 6, some .int, { frames := 4, cells := 0, slots := 0, locals := 110 }, 148, 4732)
theorem t_X12_waysWith : m_mV M_X12_waysWith 2 := ⟨⟨m_inP pk_30 10 rfl rfl, m_inP pk_2 10 rfl rfl⟩, ⟨m_inP pk_2 28 rfl rfl, m_inP pk_30 11 rfl rfl⟩, ⟨by decide +kernel, by decide +kernel, by decide +kernel⟩⟩
def M_X12_week : m_M := (RX12, yX12_week, cX12_week, 3, some .int, { frames := 2, cells := 0, slots := 0, locals := 45 }, 148, 4732)
theorem t_X12_week : m_mV M_X12_week 2 := ⟨⟨m_inP pk_22 14 rfl rfl, m_inP pk_22 15 rfl rfl⟩, ⟨m_inP pk_2 28 rfl rfl, m_inP pk_22 16 rfl rfl⟩, ⟨by decide +kernel, by decide +kernel, by decide +kernel⟩⟩
def M_X12_when : m_M := (RX12, yX12_when, cX12_when, 7, some .int, { frames := 4, cells := 0, slots := 0, locals := 110 }, 148, 4732)
theorem t_X12_when : m_mV M_X12_when 2 := ⟨⟨m_inP pk_30 18 rfl rfl, m_inP pk_30 19 rfl rfl⟩, ⟨m_inP pk_2 28 rfl rfl, m_inP pk_30 20 rfl rfl⟩, ⟨by decide +kernel, by decide +kernel, by decide +kernel⟩⟩
def M_X12_whichOf : m_M := (RX12, yX12_whichOf, cX12_whichOf, 4, some .int, { frames := 0, cells := 0, slots := 0, locals := 0 }, 148, 4732)
theorem t_X12_whichOf : m_mV M_X12_whichOf 1 := ⟨⟨m_inP pk_30 13 rfl rfl, m_inP pk_2 11 rfl rfl⟩, ⟨m_inP pk_2 28 rfl rfl, m_inP pk_30 14 rfl rfl⟩, ⟨by decide +kernel, by decide +kernel, by decide +kernel⟩⟩
def M_X12_whole : m_M := (RX12, yX12_whole, cX12_whole, 2, some .long, { frames := 0, cells := 0, slots := 0, locals := 0 }, 148, 4732)
theorem t_X12_whole : m_mS M_X12_whole 2 := ⟨m_inP pk_28 32 rfl rfl, ⟨m_inP pk_2 28 rfl rfl, m_inP pk_28 33 rfl rfl⟩, ⟨by decide +kernel, by decide +kernel, by decide +kernel⟩⟩
def M_X12_whose : m_M := (RX12, yX12_whose, cX12_whose, 5, some .int, { frames := 5, cells := 0, slots := 0, locals := 135 }, 148, 4732)
theorem t_X12_whose : m_mV M_X12_whose 1 := ⟨⟨m_inP pk_30 3 rfl rfl, m_inP pk_30 4 rfl rfl⟩, ⟨m_inP pk_2 28 rfl rfl, m_inP pk_30 5 rfl rfl⟩, ⟨by decide +kernel, by decide +kernel, by decide +kernel⟩⟩
def M_X12_wide : m_M := (RX12, yX12_wide, cX12_wide, 10, none, { frames := 0, cells := 0, slots := 0, locals := 0 }, 148, 4732)
theorem t_X12_wide : m_mS M_X12_wide 4 := ⟨m_inP pk_27 29 rfl rfl, ⟨m_inP pk_2 28 rfl rfl, m_inP pk_27 30 rfl rfl⟩, ⟨by decide +kernel, by decide +kernel, by decide +kernel⟩⟩
def M_X12_would : m_M := (RX12, yX12_would, cX12_would, 5, some .int, { frames := 7, cells := 0, slots := 0, locals := 174 }, 148, 4732)
theorem t_X12_would : m_mV M_X12_would 4 := ⟨⟨m_inP pk_28 0 rfl rfl, m_inP pk_28 1 rfl rfl⟩, ⟨m_inP pk_2 28 rfl rfl, m_inP pk_28 2 rfl rfl⟩, ⟨by decide +kernel, by decide +kernel, by decide +kernel⟩⟩
def M_X12_wrong : m_M := (RX12, yX12_wrong, cX12_wrong, 11, some .int, { frames := 4, cells := 0, slots := 0, locals := 110 }, 148, 4732)
theorem t_X12_wrong : m_mV M_X12_wrong 1 := ⟨⟨m_inP pk_30 0 rfl rfl, m_inP pk_30 1 rfl rfl⟩, ⟨m_inP pk_2 28 rfl rfl, m_inP pk_30 2 rfl rfl⟩, ⟨by decide +kernel, by decide +kernel, by decide +kernel⟩⟩
def M_X12_year : m_M := (RX12, yX12_year, cX12_year, 10, some .int, { frames := 2, cells := 0, slots := 0, locals := 45 }, 148, 4732)
theorem t_X12_year : m_mV M_X12_year 3 := ⟨⟨m_inP pk_30 34 rfl rfl, m_inP pk_30 35 rfl rfl⟩, ⟨m_inP pk_2 28 rfl rfl, m_inP pk_30 36 rfl rfl⟩, ⟨by decide +kernel, by decide +kernel, by decide +kernel⟩⟩
theorem l_X4_33 : Cond.methodLink RX4 33 yJ7_fill_53178 ∈ m_G := m_inP pk_2 31 rfl rfl
theorem l_X11_447 : Cond.methodLink RX11 447 yJ9_max_7cf53 ∈ m_G := m_inP pk_3 38 rfl rfl
theorem l_X11_108 : Cond.methodLink RX11 108 yX11_isWeek ∈ m_G := m_inP pk_5 30 rfl rfl
theorem l_X11_112 : Cond.methodLink RX11 112 yX11_within ∈ m_G := m_inP pk_5 33 rfl rfl
theorem l_X11_116 : Cond.methodLink RX11 116 yX11_refuse ∈ m_G := m_inP pk_5 36 rfl rfl
theorem l_X11_123 : Cond.methodLink RX11 123 yX11_accept ∈ m_G := m_inP pk_5 39 rfl rfl
theorem l_X11_126 : Cond.methodLink RX11 126 yX11_isThing ∈ m_G := m_inP pk_6 5 rfl rfl
theorem l_X11_132 : Cond.methodLink RX11 132 yX11_isKeeper ∈ m_G := m_inP pk_6 11 rfl rfl
theorem l_X11_135 : Cond.methodLink RX11 135 yX4_isShorter ∈ m_G := m_inP pk_6 14 rfl rfl
theorem l_X4_59 : Cond.methodLinkNest RX4 59 yX11_hasBit "WeekFoot" ∈ m_N := m_inQ pk_6 18 rfl rfl
theorem l_X11_139 : Cond.methodLink RX11 139 yX4_hasRoomForShorter ∈ m_G := m_inP pk_6 21 rfl rfl
theorem l_X4_69 : Cond.methodLink RX4 69 yX4_shorters ∈ m_G := m_inP pk_6 25 rfl rfl
theorem l_X4_63 : Cond.methodLink RX4 63 yJ6_bitCount_0f7a4 ∈ m_G := m_inP pk_6 29 rfl rfl
theorem l_X11_143 : Cond.methodLink RX11 143 yX4_addShorter ∈ m_G := m_inP pk_6 35 rfl rfl
theorem l_X11_147 : Cond.methodLink RX11 147 yX4_shorters ∈ m_G := m_inP pk_6 39 rfl rfl
theorem l_X11_151 : Cond.methodLink RX11 151 yX11_isEntry ∈ m_G := m_inP pk_7 3 rfl rfl
theorem l_X11_298 : Cond.methodLink RX11 298 yX11_isNumber ∈ m_G := m_inP pk_7 6 rfl rfl
theorem l_X11_301 : Cond.methodLink RX11 301 yX11_isKind ∈ m_G := m_inP pk_7 9 rfl rfl
theorem l_X11_155 : Cond.methodLink RX11 155 yX4_hasRoom ∈ m_G := m_inP pk_7 12 rfl rfl
theorem l_X11_158 : Cond.methodLink RX11 158 yX4_addEntry ∈ m_G := m_inP pk_7 16 rfl rfl
theorem l_X4_55 : Cond.methodLink RX4 55 yX4_hasRoom ∈ m_G := m_inP pk_7 20 rfl rfl
theorem l_X11_165 : Cond.methodLink RX11 165 yX4_isCounting ∈ m_G := m_inP pk_7 24 rfl rfl
theorem l_X11_168 : Cond.methodLink RX11 168 yX4_setCounting ∈ m_G := m_inP pk_7 28 rfl rfl
theorem l_X11_184 : Cond.methodLink RX11 184 yX4_lengthOf ∈ m_G := m_inP pk_7 35 rfl rfl
theorem l_X4_77 : Cond.methodLink RX4 77 yX4_lengthIn ∈ m_G := m_inP pk_7 39 rfl rfl
theorem l_X11_190 : Cond.methodLink RX11 190 yX8_append ∈ m_G := m_inP pk_8 6 rfl rfl
theorem l_X11_194 : Cond.methodLink RX11 194 yX11_takeFromRow ∈ m_G := m_inP pk_8 16 rfl rfl
theorem l_X11_197 : Cond.methodLink RX11 197 yX4_copyFrom ∈ m_G := m_inP pk_8 25 rfl rfl
theorem l_X11_201 : Cond.methodLink RX11 201 yX1_readOnto ∈ m_G := m_inP pk_8 29 rfl rfl
theorem l_X1_22 : Cond.methodLink RX1 22 yX1_advance ∈ m_G := m_inP pk_8 33 rfl rfl
theorem l_X1_139 : Cond.methodLink RX1 139 yX1_familyOf ∈ m_G := m_inP pk_8 36 rfl rfl
theorem l_X1_27 : Cond.methodLink RX1 27 yX1_take ∈ m_G := m_inP pk_8 39 rfl rfl
theorem l_X1_121 : Cond.methodLink RX1 121 yX1_stands ∈ m_G := m_inP pk_9 2 rfl rfl
theorem l_X1_124 : Cond.methodLink RX1 124 yJ0_length_8abf5 ∈ m_G := m_inP pk_9 5 rfl rfl
theorem l_X1_131 : Cond.methodLink RX1 131 yJ0_charAt_5068e ∈ m_G := m_inP pk_9 6 rfl rfl
theorem l_X1_31 : Cond.methodLink RX1 31 yX1_readWeeks ∈ m_G := m_inP pk_9 7 rfl rfl
theorem l_X1_53 : Cond.methodLink RX1 53 yX1_takeNumber ∈ m_G := m_inP pk_9 10 rfl rfl
theorem l_X1_72 : Cond.methodLink RX1 72 yX1_value ∈ m_G := m_inP pk_9 13 rfl rfl
theorem l_X1_143 : Cond.methodLink RX1 143 yJ9_min_7cf53 ∈ m_G := m_inP pk_9 16 rfl rfl
theorem l_X1_135 : Cond.methodLinkNest RX1 135 yX11_within "WeekFoot" ∈ m_N := m_inQ pk_9 19 rfl rfl
theorem l_X1_37 : Cond.methodLink RX1 37 yX1_readThing ∈ m_G := m_inP pk_9 20 rfl rfl
theorem l_X1_90 : Cond.methodLink RX1 90 yX1_readCut ∈ m_G := m_inP pk_9 23 rfl rfl
theorem l_X1_94 : Cond.methodLink RX1 94 yX1_readMeasure ∈ m_G := m_inP pk_9 26 rfl rfl
theorem l_X1_106 : Cond.methodLink RX1 106 yX4_hasRoom ∈ m_G := m_inP pk_9 29 rfl rfl
theorem l_X1_117 : Cond.methodLink RX1 117 yX4_addEntry ∈ m_G := m_inP pk_9 30 rfl rfl
theorem l_X1_40 : Cond.methodLink RX1 40 yX1_readShorter ∈ m_G := m_inP pk_9 31 rfl rfl
theorem l_X1_76 : Cond.methodLink RX1 76 yX4_isShorter ∈ m_G := m_inP pk_9 34 rfl rfl
theorem l_X1_80 : Cond.methodLink RX1 80 yX4_hasRoomForShorter ∈ m_G := m_inP pk_9 35 rfl rfl
theorem l_X1_84 : Cond.methodLink RX1 84 yX4_addShorter ∈ m_G := m_inP pk_9 36 rfl rfl
theorem l_X11_208 : Cond.methodLink RX11 208 yX11_canBe ∈ m_G := m_inP pk_10 3 rfl rfl
theorem l_X11_343 : Cond.methodLink RX11 343 yX9_canBe ∈ m_G := m_inP pk_10 6 rfl rfl
theorem l_X9_36 : Cond.methodLink RX9 36 yX9_forget ∈ m_G := m_inP pk_10 10 rfl rfl
theorem l_X9_83 : Cond.methodLink RX9 83 yJ7_fill_53178 ∈ m_G := m_inP pk_10 13 rfl rfl
theorem l_X9_89 : Cond.methodLink RX9 89 yX2_clear ∈ m_G := m_inP pk_10 14 rfl rfl
theorem l_X9_45 : Cond.methodLinkNest RX9 45 yX11_hasBit "WeekFoot" ∈ m_N := m_inQ pk_10 18 rfl rfl
theorem l_X9_49 : Cond.methodLink RX9 49 yX9_tie ∈ m_G := m_inP pk_10 19 rfl rfl
theorem l_X9_92 : Cond.methodLink RX9 92 yX4_keeperOf ∈ m_G := m_inP pk_10 22 rfl rfl
theorem l_X9_96 : Cond.methodLink RX9 96 yX4_lengthOf ∈ m_G := m_inP pk_10 26 rfl rfl
theorem l_X9_99 : Cond.methodLink RX9 99 yX4_endHalves ∈ m_G := m_inP pk_10 27 rfl rfl
theorem l_X4_81 : Cond.methodLink RX4 81 yX4_leastHalves ∈ m_G := m_inP pk_10 31 rfl rfl
theorem l_X9_105 : Cond.methodLink RX9 105 yX9_lower ∈ m_G := m_inP pk_10 35 rfl rfl
theorem l_X9_109 : Cond.methodLink RX9 109 yX4_leastHalves ∈ m_G := m_inP pk_10 38 rfl rfl
theorem l_X9_112 : Cond.methodLink RX9 112 yJ9_max_7cf53 ∈ m_G := m_inP pk_10 39 rfl rfl
theorem l_X9_56 : Cond.methodLink RX9 56 yX9_tieCut ∈ m_G := m_inP pk_11 0 rfl rfl
theorem l_X9_60 : Cond.methodLink RX9 60 yX9_stepOver ∈ m_G := m_inP pk_11 3 rfl rfl
theorem l_X9_66 : Cond.methodLink RX9 66 yX2_lessen ∈ m_G := m_inP pk_11 6 rfl rfl
theorem l_X2_20 : Cond.methodLink RX2 20 yX2_put ∈ m_G := m_inP pk_11 10 rfl rfl
theorem l_X9_72 : Cond.methodLink RX9 72 yX9_eachFootHolds ∈ m_G := m_inP pk_11 14 rfl rfl
theorem l_X9_118 : Cond.methodLink RX9 118 yX2_isBelowOne ∈ m_G := m_inP pk_11 17 rfl rfl
theorem l_X9_76 : Cond.methodLink RX9 76 yX9_goOn ∈ m_G := m_inP pk_11 21 rfl rfl
theorem l_X9_125 : Cond.methodLink RX9 125 yX2_put ∈ m_G := m_inP pk_11 24 rfl rfl
theorem l_X9_80 : Cond.methodLink RX9 80 yX9_feetHoldTogether ∈ m_G := m_inP pk_11 25 rfl rfl
theorem l_X9_121 : Cond.methodLink RX9 121 yX2_contradicts ∈ m_G := m_inP pk_11 28 rfl rfl
theorem l_X11_211 : Cond.methodLink RX11 211 yX11_compare ∈ m_G := m_inP pk_11 35 rfl rfl
theorem l_X11_329 : Cond.methodLink RX11 329 yX4_isThere ∈ m_G := m_inP pk_11 38 rfl rfl
theorem l_X4_73 : Cond.methodLinkNest RX4 73 yX11_within "WeekFoot" ∈ m_N := m_inQ pk_12 2 rfl rfl
theorem l_X11_427 : Cond.methodLink RX11 427 yX7_measure ∈ m_G := m_inP pk_12 3 rfl rfl
theorem l_X7_21 : Cond.methodLink RX7 21 yX9_limit ∈ m_G := m_inP pk_12 7 rfl rfl
theorem l_X9_138 : Cond.methodLink RX9 138 yX9_limitBy ∈ m_G := m_inP pk_12 11 rfl rfl
theorem l_X9_142 : Cond.methodLink RX9 142 yX9_highOf ∈ m_G := m_inP pk_12 14 rfl rfl
theorem l_X9_145 : Cond.methodLink RX9 145 yX9_lowOf ∈ m_G := m_inP pk_12 17 rfl rfl
theorem l_X9_148 : Cond.methodLink RX9 148 yX9_halvesIn ∈ m_G := m_inP pk_12 20 rfl rfl
theorem l_X11_214 : Cond.methodLink RX11 214 yX7_leastMillionths ∈ m_G := m_inP pk_12 23 rfl rfl
theorem l_X7_36 : Cond.methodLinkNest RX7 36 yX11_quotient "WeekFoot" ∈ m_N := m_inQ pk_12 28 rfl rfl
theorem l_X11_220 : Cond.methodLink RX11 220 yX11_atMost ∈ m_G := m_inP pk_12 32 rfl rfl
theorem l_X11_438 : Cond.methodLink RX11 438 yJ9_min_f86c9 ∈ m_G := m_inP pk_12 35 rfl rfl
theorem l_X11_224 : Cond.methodLink RX11 224 yX7_greatestMillionths ∈ m_G := m_inP pk_12 38 rfl rfl
theorem l_X11_240 : Cond.methodLink RX11 240 yX7_isAlways ∈ m_G := m_inP pk_13 6 rfl rfl
theorem l_X11_244 : Cond.methodLink RX11 244 yX2_isBelowOne ∈ m_G := m_inP pk_13 10 rfl rfl
theorem l_X11_247 : Cond.methodLink RX11 247 yX11_compareToFoot ∈ m_G := m_inP pk_13 14 rfl rfl
theorem l_X11_278 : Cond.methodLink RX11 278 yX11_isMeasured ∈ m_G := m_inP pk_13 17 rfl rfl
theorem l_X11_250 : Cond.methodLink RX11 250 yX7_leastNumber ∈ m_G := m_inP pk_13 20 rfl rfl
theorem l_X11_254 : Cond.methodLink RX11 254 yX7_greatestNumber ∈ m_G := m_inP pk_13 25 rfl rfl
theorem l_X11_261 : Cond.methodLink RX11 261 yX7_isTheSame ∈ m_G := m_inP pk_13 34 rfl rfl
theorem l_X11_271 : Cond.methodLink RX11 271 yX11_commonDivisor ∈ m_G := m_inP pk_13 38 rfl rfl
theorem l_X11_275 : Cond.methodLink RX11 275 yX11_quotient ∈ m_G := m_inP pk_14 1 rfl rfl
theorem l_X11_281 : Cond.methodLink RX11 281 yX10_clear ∈ m_G := m_inP pk_14 5 rfl rfl
theorem l_X11_284 : Cond.methodLink RX11 284 yX11_addFeet ∈ m_G := m_inP pk_14 9 rfl rfl
theorem l_X11_431 : Cond.methodLink RX11 431 yX10_add ∈ m_G := m_inP pk_14 12 rfl rfl
theorem l_X11_288 : Cond.methodLink RX11 288 yX10_sum ∈ m_G := m_inP pk_14 16 rfl rfl
theorem l_X10_31 : Cond.methodLinkNest RX10 31 yX11_quotient "WeekFoot" ∈ m_N := m_inQ pk_14 21 rfl rfl
theorem l_X10_35 : Cond.methodLinkNest RX10 35 yX11_remainder "WeekFoot" ∈ m_N := m_inQ pk_14 22 rfl rfl
theorem l_X10_38 : Cond.methodLinkNest RX10 38 yX11_compareFractions "WeekFoot" ∈ m_N := m_inQ pk_14 25 rfl rfl
theorem l_X11_443 : Cond.methodLink RX11 443 yJ13_compare_74951 ∈ m_G := m_inP pk_14 28 rfl rfl
theorem l_X11_293 : Cond.methodLink RX11 293 yX10_product ∈ m_G := m_inP pk_14 35 rfl rfl
theorem l_X11_304 : Cond.methodLink RX11 304 yX7_allows ∈ m_G := m_inP pk_15 3 rfl rfl
theorem l_X7_75 : Cond.methodLink RX7 75 yX7_firstNumber ∈ m_G := m_inP pk_15 7 rfl rfl
theorem l_X7_50 : Cond.methodLink RX7 50 yX7_leastNumber ∈ m_G := m_inP pk_15 12 rfl rfl
theorem l_X7_54 : Cond.methodLink RX7 54 yJ9_max_f86c9 ∈ m_G := m_inP pk_15 13 rfl rfl
theorem l_X7_59 : Cond.methodLink RX7 59 yJ9_min_f86c9 ∈ m_G := m_inP pk_15 16 rfl rfl
theorem l_X7_71 : Cond.methodLink RX7 71 yX7_lastNumber ∈ m_G := m_inP pk_15 17 rfl rfl
theorem l_X7_62 : Cond.methodLink RX7 62 yX7_greatestNumber ∈ m_G := m_inP pk_15 21 rfl rfl
theorem l_X7_67 : Cond.methodLinkNest RX7 67 yX11_atMost "WeekFoot" ∈ m_N := m_inQ pk_15 23 rfl rfl
theorem l_X11_307 : Cond.methodLink RX11 307 yX7_forces ∈ m_G := m_inP pk_15 24 rfl rfl
theorem l_X7_81 : Cond.methodLink RX7 81 yX7_isAlways ∈ m_G := m_inP pk_15 28 rfl rfl
theorem l_X11_310 : Cond.methodLink RX11 310 yX7_manyNumbers ∈ m_G := m_inP pk_15 32 rfl rfl
theorem l_X7_78 : Cond.methodLink RX7 78 yJ9_max_7cf53 ∈ m_G := m_inP pk_15 36 rfl rfl
theorem l_X11_313 : Cond.methodLink RX11 313 yX7_firstNumber ∈ m_G := m_inP pk_15 37 rfl rfl
theorem l_X11_316 : Cond.methodLink RX11 316 yX7_lastNumber ∈ m_G := m_inP pk_15 38 rfl rfl
theorem l_X11_319 : Cond.methodLink RX11 319 yX11_manyWholes ∈ m_G := m_inP pk_16 2 rfl rfl
theorem l_X11_323 : Cond.methodLink RX11 323 yX11_couldBeTold ∈ m_G := m_inP pk_16 8 rfl rfl
theorem l_X11_409 : Cond.methodLink RX11 409 yX4_lengthIn ∈ m_G := m_inP pk_16 11 rfl rfl
theorem l_X11_326 : Cond.methodLink RX11 326 yX11_ofWeeks ∈ m_G := m_inP pk_16 12 rfl rfl
theorem l_X11_415 : Cond.methodLink RX11 415 yJ6_bitCount_0f7a4 ∈ m_G := m_inP pk_16 15 rfl rfl
theorem l_X11_435 : Cond.methodLink RX11 435 yX11_hasBit ∈ m_G := m_inP pk_16 16 rfl rfl
theorem l_X11_332 : Cond.methodLink RX11 332 yX0_bind ∈ m_G := m_inP pk_16 20 rfl rfl
theorem l_X0_21 : Cond.methodLink RX0 21 yX4_keeperOf ∈ m_G := m_inP pk_16 24 rfl rfl
theorem l_X0_25 : Cond.methodLink RX0 25 yX4_lengthOf ∈ m_G := m_inP pk_16 25 rfl rfl
theorem l_X0_28 : Cond.methodLink RX0 28 yX0_unite ∈ m_G := m_inP pk_16 26 rfl rfl
theorem l_X0_42 : Cond.methodLink RX0 42 yJ9_min_7cf53 ∈ m_G := m_inP pk_16 29 rfl rfl
theorem l_X0_48 : Cond.methodLink RX0 48 yJ9_max_7cf53 ∈ m_G := m_inP pk_16 30 rfl rfl
theorem l_X0_35 : Cond.methodLinkNest RX0 35 yX11_hasBit "WeekFoot" ∈ m_N := m_inQ pk_16 31 rfl rfl
theorem l_X11_335 : Cond.methodLink RX11 335 yX0_areTogether ∈ m_G := m_inP pk_16 32 rfl rfl
theorem l_X11_338 : Cond.methodLink RX11 338 yX0_greatest ∈ m_G := m_inP pk_16 39 rfl rfl
theorem l_X0_55 : Cond.methodLink RX0 55 yX0_sizeOf ∈ m_G := m_inP pk_17 3 rfl rfl
theorem l_X0_51 : Cond.methodLink RX0 51 yX4_isThere ∈ m_G := m_inP pk_17 6 rfl rfl
theorem l_X11_340 : Cond.methodLink RX11 340 yX0_many ∈ m_G := m_inP pk_17 7 rfl rfl
theorem l_X11_349 : Cond.methodLink RX11 349 yX3_leaveOut ∈ m_G := m_inP pk_17 14 rfl rfl
theorem l_X3_15 : Cond.methodLink RX3 15 yX9_canBe ∈ m_G := m_inP pk_17 18 rfl rfl
theorem l_X11_353 : Cond.methodLink RX11 353 yX3_search ∈ m_G := m_inP pk_17 22 rfl rfl
theorem l_X3_36 : Cond.methodLink RX3 36 yX3_leaveOut ∈ m_G := m_inP pk_17 26 rfl rfl
theorem l_X3_40 : Cond.methodLinkNest RX3 40 yX11_hasBit "WeekFoot" ∈ m_N := m_inQ pk_17 27 rfl rfl
theorem l_X3_44 : Cond.methodLink RX3 44 yX3_strike ∈ m_G := m_inP pk_17 28 rfl rfl
theorem l_X3_52 : Cond.methodLink RX3 52 yJ9_min_7cf53 ∈ m_G := m_inP pk_17 31 rfl rfl
theorem l_X3_48 : Cond.methodLink RX3 48 yX4_isCounting ∈ m_G := m_inP pk_17 32 rfl rfl
theorem l_X11_366 : Cond.methodLink RX11 366 yX6_seek ∈ m_G := m_inP pk_17 36 rfl rfl
theorem l_X6_26 : Cond.methodLink RX6 26 yJ7_fill_53178 ∈ m_G := m_inP pk_18 0 rfl rfl
theorem l_X6_32 : Cond.methodLink RX6 32 yX6_gather ∈ m_G := m_inP pk_18 1 rfl rfl
theorem l_X6_61 : Cond.methodLink RX6 61 yX6_hasEntry ∈ m_G := m_inP pk_18 4 rfl rfl
theorem l_X6_70 : Cond.methodLink RX6 70 yX4_isCounting ∈ m_G := m_inP pk_18 7 rfl rfl
theorem l_X6_44 : Cond.methodLink RX6 44 yX6_keeperBy ∈ m_G := m_inP pk_18 8 rfl rfl
theorem l_X6_51 : Cond.methodLink RX6 51 yX9_canBe ∈ m_G := m_inP pk_18 11 rfl rfl
theorem l_X6_57 : Cond.methodLink RX6 57 yX6_note ∈ m_G := m_inP pk_18 12 rfl rfl
theorem l_X11_370 : Cond.methodLink RX11 370 yX6_onlyKeeper ∈ m_G := m_inP pk_18 15 rfl rfl
theorem l_X6_74 : Cond.methodLink RX6 74 yX6_placeOf ∈ m_G := m_inP pk_18 19 rfl rfl
theorem l_X6_78 : Cond.methodLink RX6 78 yX6_waysWith ∈ m_G := m_inP pk_18 22 rfl rfl
theorem l_X11_373 : Cond.methodLink RX11 373 yX6_waysWith ∈ m_G := m_inP pk_18 29 rfl rfl
theorem l_X11_383 : Cond.methodLink RX11 383 yX4_isSoByWorld ∈ m_G := m_inP pk_19 4 rfl rfl
theorem l_X4_88 : Cond.methodLink RX4 88 yX4_keeperOf ∈ m_G := m_inP pk_19 8 rfl rfl
theorem l_X4_91 : Cond.methodLink RX4 91 yX4_lengthOf ∈ m_G := m_inP pk_19 9 rfl rfl
theorem l_X4_94 : Cond.methodLink RX4 94 yX4_endHalves ∈ m_G := m_inP pk_19 10 rfl rfl
theorem l_X11_386 : Cond.methodLink RX11 386 yX4_hasShortersByWorld ∈ m_G := m_inP pk_19 11 rfl rfl
theorem l_X11_389 : Cond.methodLink RX11 389 yX4_hasCutsByWorld ∈ m_G := m_inP pk_19 15 rfl rfl
theorem l_X11_393 : Cond.methodLink RX11 393 yX5_draw ∈ m_G := m_inP pk_19 23 rfl rfl
theorem l_X11_396 : Cond.methodLink RX11 396 yX5_bestTrade ∈ m_G := m_inP pk_19 28 rfl rfl
theorem l_X5_27 : Cond.methodLink RX5 27 yX4_wholeFeet ∈ m_G := m_inP pk_19 32 rfl rfl
theorem l_X4_84 : Cond.methodLinkNest RX4 84 yX11_quotient "WeekFoot" ∈ m_N := m_inQ pk_19 36 rfl rfl
theorem l_X11_412 : Cond.methodLink RX11 412 yX4_wholeFeet ∈ m_G := m_inP pk_20 3 rfl rfl
theorem l_X11_420 : Cond.methodLink RX11 420 yX11_manyKnown ∈ m_G := m_inP pk_20 13 rfl rfl
theorem l_X12_143 : Cond.methodLink RX12 143 yX12_in ∈ m_G := m_inP pk_22 5 rfl rfl
theorem l_X12_147 : Cond.methodLink RX12 147 yX12_answer ∈ m_G := m_inP pk_22 8 rfl rfl
theorem l_X12_156 : Cond.methodLink RX12 156 yX12_isWeek ∈ m_G := m_inP pk_22 17 rfl rfl
theorem l_X12_162 : Cond.methodLink RX12 162 yX12_change ∈ m_G := m_inP pk_22 23 rfl rfl
theorem l_X12_139 : Cond.methodLink RX12 139 yX12_was ∈ m_G := m_inP pk_22 26 rfl rfl
theorem l_X12_166 : Cond.methodLink RX12 166 yX12_isThing ∈ m_G := m_inP pk_22 32 rfl rfl
theorem l_X12_169 : Cond.methodLink RX12 169 yX12_isKeeper ∈ m_G := m_inP pk_22 39 rfl rfl
theorem l_X12_172 : Cond.methodLink RX12 172 yX12_isShorter ∈ m_G := m_inP pk_23 2 rfl rfl
theorem l_X12_176 : Cond.methodLink RX12 176 yX12_addShorter ∈ m_G := m_inP pk_23 5 rfl rfl
theorem l_X12_184 : Cond.methodLink RX12 184 yX12_canEnter ∈ m_G := m_inP pk_23 11 rfl rfl
theorem l_X12_188 : Cond.methodLink RX12 188 yX12_addEntry ∈ m_G := m_inP pk_23 16 rfl rfl
theorem l_X12_192 : Cond.methodLink RX12 192 yX12_isEntry ∈ m_G := m_inP pk_23 22 rfl rfl
theorem l_X12_198 : Cond.methodLink RX12 198 yX12_lengthOf ∈ m_G := m_inP pk_23 28 rfl rfl
theorem l_X12_195 : Cond.methodLink RX12 195 yX12_ofEntry ∈ m_G := m_inP pk_23 31 rfl rfl
theorem l_X12_207 : Cond.methodLink RX12 207 yX12_four ∈ m_G := m_inP pk_24 3 rfl rfl
theorem l_X12_318 : Cond.methodLink RX12 318 yX12_begin ∈ m_G := m_inP pk_24 15 rfl rfl
theorem l_X12_218 : Cond.methodLink RX12 218 yX12_next ∈ m_G := m_inP pk_24 18 rfl rfl
theorem l_X12_228 : Cond.methodLink RX12 228 yX12_isSmall ∈ m_G := m_inP pk_24 21 rfl rfl
theorem l_X12_231 : Cond.methodLink RX12 231 yX12_isDigit ∈ m_G := m_inP pk_24 24 rfl rfl
theorem l_X12_321 : Cond.methodLink RX12 321 yX12_readClause ∈ m_G := m_inP pk_24 32 rfl rfl
theorem l_X12_260 : Cond.methodLink RX12 260 yX12_isWord ∈ m_G := m_inP pk_24 36 rfl rfl
theorem l_X12_305 : Cond.methodLink RX12 305 yX12_readWeeks ∈ m_G := m_inP pk_24 39 rfl rfl
theorem l_X12_254 : Cond.methodLink RX12 254 yX12_number ∈ m_G := m_inP pk_25 2 rfl rfl
theorem l_X12_247 : Cond.methodLink RX12 247 yX12_must ∈ m_G := m_inP pk_25 5 rfl rfl
theorem l_X12_268 : Cond.methodLink RX12 268 yX12_act ∈ m_G := m_inP pk_25 11 rfl rfl
theorem l_X12_310 : Cond.methodLink RX12 310 yX12_readShorter ∈ m_G := m_inP pk_25 15 rfl rfl
theorem l_X12_274 : Cond.methodLink RX12 274 yX12_isDrafted ∈ m_G := m_inP pk_25 19 rfl rfl
theorem l_X12_315 : Cond.methodLink RX12 315 yX12_readThing ∈ m_G := m_inP pk_25 23 rfl rfl
theorem l_X12_297 : Cond.methodLink RX12 297 yX12_readMeasure ∈ m_G := m_inP pk_25 29 rfl rfl
theorem l_X12_300 : Cond.methodLink RX12 300 yX12_isSign ∈ m_G := m_inP pk_25 36 rfl rfl
theorem l_X12_324 : Cond.methodLink RX12 324 yX12_doAct ∈ m_G := m_inP pk_25 39 rfl rfl
theorem l_X12_377 : Cond.methodLink RX12 377 yX12_canBeNow ∈ m_G := m_inP pk_26 5 rfl rfl
theorem l_X12_367 : Cond.methodLink RX12 367 yX12_asIs ∈ m_G := m_inP pk_26 8 rfl rfl
theorem l_X12_370 : Cond.methodLink RX12 370 yX12_counting ∈ m_G := m_inP pk_26 11 rfl rfl
theorem l_X12_374 : Cond.methodLink RX12 374 yX12_canBe ∈ m_G := m_inP pk_26 14 rfl rfl
theorem l_X12_354 : Cond.methodLink RX12 354 yX12_build ∈ m_G := m_inP pk_26 17 rfl rfl
theorem l_X12_336 : Cond.methodLink RX12 336 yX12_is ∈ m_G := m_inP pk_26 20 rfl rfl
theorem l_X12_339 : Cond.methodLink RX12 339 yX12_edge ∈ m_G := m_inP pk_26 23 rfl rfl
theorem l_X12_357 : Cond.methodLink RX12 357 yX12_startAt ∈ m_G := m_inP pk_26 26 rfl rfl
theorem l_X12_360 : Cond.methodLink RX12 360 yX12_round ∈ m_G := m_inP pk_26 29 rfl rfl
theorem l_X12_343 : Cond.methodLink RX12 343 yX12_keep ∈ m_G := m_inP pk_26 32 rfl rfl
theorem l_X12_346 : Cond.methodLink RX12 346 yX12_times ∈ m_G := m_inP pk_26 35 rfl rfl
theorem l_X12_350 : Cond.methodLink RX12 350 yX12_compare ∈ m_G := m_inP pk_26 39 rfl rfl
theorem l_X12_329 : Cond.methodLink RX12 329 yX12_product ∈ m_G := m_inP pk_27 2 rfl rfl
theorem l_X12_364 : Cond.methodLink RX12 364 yX12_isTight ∈ m_G := m_inP pk_27 5 rfl rfl
theorem l_X12_394 : Cond.methodLink RX12 394 yX12_isAnswered ∈ m_G := m_inP pk_27 11 rfl rfl
theorem l_X12_391 : Cond.methodLink RX12 391 yX12_isLength ∈ m_G := m_inP pk_27 14 rfl rfl
theorem l_X12_397 : Cond.methodLink RX12 397 yX12_goFrom ∈ m_G := m_inP pk_27 20 rfl rfl
theorem l_X12_402 : Cond.methodLink RX12 402 yX12_share ∈ m_G := m_inP pk_27 25 rfl rfl
theorem l_X12_387 : Cond.methodLink RX12 387 yX12_wide ∈ m_G := m_inP pk_27 28 rfl rfl
theorem l_X12_406 : Cond.methodLink RX12 406 yX12_besideOne ∈ m_G := m_inP pk_27 34 rfl rfl
theorem l_X12_425 : Cond.methodLink RX12 425 yX12_isAsked ∈ m_G := m_inP pk_28 3 rfl rfl
theorem l_X12_428 : Cond.methodLink RX12 428 yX12_findEnds ∈ m_G := m_inP pk_28 6 rfl rfl
theorem l_X12_431 : Cond.methodLink RX12 431 yX12_tells ∈ m_G := m_inP pk_28 9 rfl rfl
theorem l_X12_421 : Cond.methodLink RX12 421 yX12_beside ∈ m_G := m_inP pk_28 12 rfl rfl
theorem l_X12_434 : Cond.methodLink RX12 434 yX12_numbersOf ∈ m_G := m_inP pk_28 18 rfl rfl
theorem l_X12_439 : Cond.methodLink RX12 439 yX12_whole ∈ m_G := m_inP pk_28 31 rfl rfl
theorem l_X12_443 : Cond.methodLink RX12 443 yX12_common ∈ m_G := m_inP pk_28 34 rfl rfl
theorem l_X12_465 : Cond.methodLink RX12 465 yX12_isGround ∈ m_G := m_inP pk_29 0 rfl rfl
theorem l_X12_468 : Cond.methodLink RX12 468 yX12_takeEnd ∈ m_G := m_inP pk_29 3 rfl rfl
theorem l_X12_472 : Cond.methodLink RX12 472 yX12_triple ∈ m_G := m_inP pk_29 6 rfl rfl
theorem l_X12_447 : Cond.methodLink RX12 447 yX12_multiply ∈ m_G := m_inP pk_29 9 rfl rfl
theorem l_X12_476 : Cond.methodLink RX12 476 yX12_addFactor ∈ m_G := m_inP pk_29 12 rfl rfl
theorem l_X12_479 : Cond.methodLink RX12 479 yX12_often ∈ m_G := m_inP pk_29 15 rfl rfl
theorem l_X12_451 : Cond.methodLink RX12 451 yX12_copyTen ∈ m_G := m_inP pk_29 18 rfl rfl
theorem l_X12_455 : Cond.methodLink RX12 455 yX12_besideTen ∈ m_G := m_inP pk_29 21 rfl rfl
theorem l_X12_484 : Cond.methodLink RX12 484 yX12_findGroups ∈ m_G := m_inP pk_29 31 rfl rfl
theorem l_X12_490 : Cond.methodLink RX12 490 yX12_findAsked ∈ m_G := m_inP pk_30 6 rfl rfl
theorem l_X12_493 : Cond.methodLink RX12 493 yX12_waysWith ∈ m_G := m_inP pk_30 9 rfl rfl
theorem l_X12_496 : Cond.methodLink RX12 496 yX12_whichOf ∈ m_G := m_inP pk_30 12 rfl rfl
theorem l_X12_501 : Cond.methodLink RX12 501 yX12_isSo ∈ m_G := m_inP pk_30 31 rfl rfl
theorem l_X12_521 : Cond.methodLink RX12 521 yX12_feetOf ∈ m_G := m_inP pk_31 1 rfl rfl
theorem l_X12_526 : Cond.methodLink RX12 526 yX12_bits ∈ m_G := m_inP pk_31 14 rfl rfl
def m_QI (P : Int → m_H → Prop) : m_W → Option m_V → m_H → Prop := fun w r h' => w = oF ∧ ∃ x, r = some (mI x) ∧ P x h'
def m_QJ (P : Int → m_H → Prop) : m_W → Option m_V → m_H → Prop := fun w r h' => w = oF ∧ ∃ x, r = some (mJ x) ∧ P x h'
def m_QV (P : m_H → Prop) : m_W → Option m_V → m_H → Prop := fun w r h' => w = oF ∧ r = none ∧ P h'
def m_CI (M : m_M) (as : List m_V) (h : m_H) (P : Int → m_H → Prop) : Prop := m_C M oF oF as h (fun r h' => ∃ x, r = some (mI x) ∧ P x h')
def m_CJ (M : m_M) (as : List m_V) (h : m_H) (P : Int → m_H → Prop) : Prop := m_C M oF oF as h (fun r h' => ∃ x, r = some (mJ x) ∧ P x h')
def m_CV (M : m_M) (as : List m_V) (h : m_H) (P : m_H → Prop) : Prop := m_C M oF oF as h (fun r h' => r = none ∧ P h')
theorem m_b_of {M : m_M} (h1 : m_k0 M = 148) (h2 : m_s0 M = 4732) : m_b oF M := by
  unfold m_b; rw [h1, h2, oF_len, oF_sz]; refine ⟨⟨Nat.le_refl _, Nat.le_refl _⟩, ?_, ?_⟩ <;> simp
def m_st (M : m_M) (as : List m_V) : Prop := plainName M.2.1.cls = true ∧ M.1 = M.2.1.cls ∧ (m_arg as).length ≤ M.2.2.2.1 ∧ (m_k0 M = 148 ∧ m_s0 M = 4732) ∧ (m_rm M).cells = 0 ∧ (m_rm M).slots = 0
theorem m_C_st {M : m_M} {as : List m_V} {h : m_H} {ls : List (Option m_V)} {Q : Option m_V → m_H → Prop} (s : m_st M as) (hl : m_loc as M.2.2.2.1 = ls) (z : m_Z oF M 0 ls [] h (fun w r h' => w = oF ∧ Q r h')) : m_C M oF oF as h Q := by
  subst hl
  obtain ⟨s1, s2, s3, s4, s5, s6⟩ := s
  exact m_C_of s1 s2 s3 (m_b_of s4.1 s4.2) ⟨by rw [s4.1, oF_len], by rw [s4.2, oF_sz]⟩ ⟨by rw [s5, Nat.sub_self], by rw [s6, Nat.sub_self]⟩ z
theorem m_CI_of {M : m_M} {as : List m_V} {h : m_H} {ls : List (Option m_V)} {P : Int → m_H → Prop} (s : m_st M as) (hl : m_loc as M.2.2.2.1 = ls) (z : m_Z oF M 0 ls [] h (m_QI P)) : m_CI M as h P := m_C_st s hl z
theorem m_CJ_of {M : m_M} {as : List m_V} {h : m_H} {ls : List (Option m_V)} {P : Int → m_H → Prop} (s : m_st M as) (hl : m_loc as M.2.2.2.1 = ls) (z : m_Z oF M 0 ls [] h (m_QJ P)) : m_CJ M as h P := m_C_st s hl z
theorem m_CV_of {M : m_M} {as : List m_V} {h : m_H} {ls : List (Option m_V)} {P : m_H → Prop} (s : m_st M as) (hl : m_loc as M.2.2.2.1 = ls) (z : m_Z oF M 0 ls [] h (m_QV P)) : m_CV M as h P := m_C_st s hl z
theorem m_CI.weaken {M : m_M} {as : List m_V} {h : m_H} {P P' : Int → m_H → Prop} (c : m_CI M as h P) (q : ∀ x h', P x h' → P' x h') : m_CI M as h P' := m_C.weaken c (fun _ h' ⟨x, e, p⟩ => ⟨x, e, q x h' p⟩)
theorem m_CJ.weaken {M : m_M} {as : List m_V} {h : m_H} {P P' : Int → m_H → Prop} (c : m_CJ M as h P) (q : ∀ x h', P x h' → P' x h') : m_CJ M as h P' := m_C.weaken c (fun _ h' ⟨x, e, p⟩ => ⟨x, e, q x h' p⟩)
theorem m_CV.weaken {M : m_M} {as : List m_V} {h : m_H} {P P' : m_H → Prop} (c : m_CV M as h P) (q : ∀ h', P h' → P' h') : m_CV M as h P' := m_C.weaken c (fun _ h' ⟨e, p⟩ => ⟨e, q h' p⟩)
/-! frames: the cells (cs) and slots (ss) that may change -/
def fr (cs : List Nat) (ss : List (Nat × Nat)) (k j : Nat) : Bool := cs.any (fun c => c == k) || ss.any (fun q => q.1 == k && q.2 == j)
def FR (cs : List Nat) (ss : List (Nat × Nat)) (h h' : m_H) : Prop := ∀ k j, fr cs ss k j = false → h' k j = h k j
theorem FR.rf {cs : List Nat} {ss : List (Nat × Nat)} {h : m_H} : FR cs ss h h := fun _ _ _ => rfl
theorem FR.up {cs : List Nat} {ss : List (Nat × Nat)} {h h' : m_H} {k j : Nat} {v : Int} (R : FR cs ss h h') (hF : fr cs ss k j = true) : FR cs ss h (m_up h' k j v) := by
  intro a b q
  rw [m_up_ne (fun z => by obtain ⟨rfl, rfl⟩ := z; rw [hF] at q; cases q)]
  exact R a b q
def fsub (cs' : List Nat) (ss' : List (Nat × Nat)) (cs : List Nat) (ss : List (Nat × Nat)) : Bool := cs'.all (fun c => cs.any (fun d => d == c)) && ss'.all (fun q => fr cs ss q.1 q.2)
theorem FR.mono {cs cs' : List Nat} {ss ss' : List (Nat × Nat)} {h h' : m_H} (R : FR cs' ss' h h') (s : fsub cs' ss' cs ss = true) : FR cs ss h h' := by
  intro a b q
  refine R a b ?_
  unfold fsub at s
  rw [Bool.and_eq_true] at s
  cases hx : fr cs' ss' a b with
  | false => rfl
  | true =>
    exfalso
    unfold fr at hx
    rw [Bool.or_eq_true] at hx
    rcases hx with hx | hx
    · obtain ⟨c, hc, e⟩ := List.any_eq_true.mp hx
      have e1 : c = a := by simpa using e
      subst e1
      have h2 := List.all_eq_true.mp s.1 c hc
      unfold fr at q
      rw [h2] at q
      cases q
    · obtain ⟨p, hp, e⟩ := List.any_eq_true.mp hx
      have e1 : p.1 = a ∧ p.2 = b := by simpa using e
      have h2 := List.all_eq_true.mp s.2 p hp
      rw [e1.1, e1.2, q] at h2
      cases h2
theorem FR.trans {cs : List Nat} {ss : List (Nat × Nat)} {h h' h'' : m_H} (R : FR cs ss h h') (S : FR cs ss h' h'') : FR cs ss h h'' := fun k j q => (S k j q).trans (R k j q)
theorem FR.call {cs cs' : List Nat} {ss ss' : List (Nat × Nat)} {h h' h'' : m_H} (R : FR cs ss h h') (S : FR cs' ss' h' h'') (s : fsub cs' ss' cs ss = true) : FR cs ss h h'' := R.trans (S.mono s)
def csB : List Nat := [43, 44, 45, 46, 47, 48, 49, 50, 51, 52, 53, 54, 55, 56, 57, 58, 60, 61, 62, 63, 64, 65, 66, 67, 68, 69, 70, 71, 72, 73, 74, 75, 77, 78, 79, 80, 81, 82, 83, 84, 85, 86, 87, 88, 89, 90, 91, 92, 94, 95]
theorem csB_in : ∀ k, k < 96 → isBb k = true → csB.any (fun c => c == k) = true := by decide +kernel
theorem frB {cs : List Nat} {ss : List (Nat × Nat)} {k j : Nat} (hk : isB k) : fr (csB ++ cs) ss k j = true := by
  unfold fr; rw [List.any_append, csB_in k (isB_lt hk) hk]; rfl
theorem upE {h h' : m_H} {k j : Nat} {v : Int} (E : h' = m_up h k j v) : h' k j = v := by rw [E, m_up_eq]
theorem upN {h h' : m_H} {k j : Nat} {v : Int} (E : h' = m_up h k j v) {a b : Nat} (q : ¬ (a = k ∧ b = j)) : h' a b = h a b := by rw [E, m_up_ne q]
theorem m_rr_of {M M' : m_M} (e : (Nat.ble ((m_rm M').frames + 1) (m_rm M).frames && Nat.ble (8 + (M'.2.2.2.1 + 11) + (m_rm M').locals) (m_rm M).locals) = true) : m_rr M M' := by
  rw [Bool.and_eq_true] at e
  exact ⟨Nat.le_of_ble_eq_true e.1, Nat.le_of_ble_eq_true e.2⟩
section ZL
variable {M M' : m_M} {ls : List (Option m_V)} {st rest : List m_V} {h h0 : m_H} {Q : m_W → Option m_V → m_H → Prop} {cs : List Nat} {ss : List (Nat × Nat)}
theorem z_retI (pc : Nat) {x : Int} {P : Int → m_H → Prop} (d : decode M.2.2.1 pc = .ok (.ireturn, 1)) (hr : M.2.2.2.2.1 = some .int) (q : P x h) : m_Z oF M pc ls [mI x] h (m_QI P) := z_iret pc d hr ⟨rfl, x, rfl, q⟩
theorem z_retZ (pc : Nat) {x : Int} {P : Int → m_H → Prop} (d : decode M.2.2.1 pc = .ok (.ireturn, 1)) (hr : M.2.2.2.2.1 = some .boolean) (hx : x = 0 ∨ x = 1) (q : P x h) : m_Z oF M pc ls [mI x] h (m_QI P) := z_zret pc d hr hx ⟨rfl, x, rfl, q⟩
theorem z_retJ (pc : Nat) {x : Int} {P : Int → m_H → Prop} (d : decode M.2.2.1 pc = .ok (.lreturn, 1)) (hr : M.2.2.2.2.1 = some .long) (q : P x h) : m_Z oF M pc ls [mJ x] h (m_QJ P) := z_lret pc d hr ⟨rfl, x, rfl, q⟩
theorem z_retV (pc : Nat) {P : m_H → Prop} (d : decode M.2.2.1 pc = .ok (.return_, 1)) (hr : M.2.2.2.2.1 = none) (q : P h) : m_Z oF M pc ls [] h (m_QV P) := z_vret pc d hr ⟨rfl, rfl, q⟩
theorem z_vI (pc : Nat) {index n k ci N : Nat} {as : List m_V} {P : Int → m_H → Prop} (d : decode M.2.2.1 pc = .ok (.invokevirtual index, 3)) (mt : m_mV M' n) (lk : Cond.methodLink M.1 index M'.2.1 ∈ m_G) (rr : m_rr M M') (hc : m_CI M' (mR k :: as) h P) (hk : oF[k]? = some (ci + 5, N)) (hcl : (vwCl[ci]?).map (fun q => q.1) = some M'.2.1.cls) (hst : as.reverse ++ mR k :: rest = st) (hn : as.length = n) (hrest : m_cs rest ≤ 8) (hz : (m_rm M').cells = 0 ∧ (m_rm M').slots = 0)
    (kk : ∀ (x : Int) (h' : m_H), P x h' → m_Z oF M (pc + 3) ls (mI x :: rest) h' Q) : m_Z oF M pc ls st h Q := z_callV pc d mt lk rr hc hk hcl hst hn hrest hz (fun r h' q => by obtain ⟨x, rfl, p⟩ := q; exact kk x h' p)
theorem z_vJ (pc : Nat) {index n k ci N : Nat} {as : List m_V} {P : Int → m_H → Prop} (d : decode M.2.2.1 pc = .ok (.invokevirtual index, 3)) (mt : m_mV M' n) (lk : Cond.methodLink M.1 index M'.2.1 ∈ m_G) (rr : m_rr M M') (hc : m_CJ M' (mR k :: as) h P) (hk : oF[k]? = some (ci + 5, N)) (hcl : (vwCl[ci]?).map (fun q => q.1) = some M'.2.1.cls) (hst : as.reverse ++ mR k :: rest = st) (hn : as.length = n) (hrest : m_cs rest ≤ 8) (hz : (m_rm M').cells = 0 ∧ (m_rm M').slots = 0)
    (kk : ∀ (x : Int) (h' : m_H), P x h' → m_Z oF M (pc + 3) ls (mJ x :: rest) h' Q) : m_Z oF M pc ls st h Q := z_callV pc d mt lk rr hc hk hcl hst hn hrest hz (fun r h' q => by obtain ⟨x, rfl, p⟩ := q; exact kk x h' p)
theorem z_vV (pc : Nat) {index n k ci N : Nat} {as : List m_V} {P : m_H → Prop} (d : decode M.2.2.1 pc = .ok (.invokevirtual index, 3)) (mt : m_mV M' n) (lk : Cond.methodLink M.1 index M'.2.1 ∈ m_G) (rr : m_rr M M') (hc : m_CV M' (mR k :: as) h P) (hk : oF[k]? = some (ci + 5, N)) (hcl : (vwCl[ci]?).map (fun q => q.1) = some M'.2.1.cls) (hst : as.reverse ++ mR k :: rest = st) (hn : as.length = n) (hrest : m_cs rest ≤ 8) (hz : (m_rm M').cells = 0 ∧ (m_rm M').slots = 0)
    (kk : ∀ (h' : m_H), P h' → m_Z oF M (pc + 3) ls rest h' Q) : m_Z oF M pc ls st h Q := z_callV pc d mt lk rr hc hk hcl hst hn hrest hz (fun r h' q => by obtain ⟨rfl, p⟩ := q; exact kk h' p)
theorem z_sI (pc : Nat) {index n : Nat} {as : List m_V} {P : Int → m_H → Prop} (d : decode M.2.2.1 pc = .ok (.invokestatic index, 3)) (mt : m_mS M' n) (lk : Cond.methodLink M.1 index M'.2.1 ∈ m_G) (rr : m_rr M M') (hc : m_CI M' (as) h P) (hst : as.reverse ++ rest = st) (hn : as.length = n) (hrest : m_cs rest ≤ 8) (hz : (m_rm M').cells = 0 ∧ (m_rm M').slots = 0)
    (kk : ∀ (x : Int) (h' : m_H), P x h' → m_Z oF M (pc + 3) ls (mI x :: rest) h' Q) : m_Z oF M pc ls st h Q := z_callS pc d mt lk rr hc hst hn hrest hz (fun r h' q => by obtain ⟨x, rfl, p⟩ := q; exact kk x h' p)
theorem z_sJ (pc : Nat) {index n : Nat} {as : List m_V} {P : Int → m_H → Prop} (d : decode M.2.2.1 pc = .ok (.invokestatic index, 3)) (mt : m_mS M' n) (lk : Cond.methodLink M.1 index M'.2.1 ∈ m_G) (rr : m_rr M M') (hc : m_CJ M' (as) h P) (hst : as.reverse ++ rest = st) (hn : as.length = n) (hrest : m_cs rest ≤ 8) (hz : (m_rm M').cells = 0 ∧ (m_rm M').slots = 0)
    (kk : ∀ (x : Int) (h' : m_H), P x h' → m_Z oF M (pc + 3) ls (mJ x :: rest) h' Q) : m_Z oF M pc ls st h Q := z_callS pc d mt lk rr hc hst hn hrest hz (fun r h' q => by obtain ⟨x, rfl, p⟩ := q; exact kk x h' p)
theorem z_sV (pc : Nat) {index n : Nat} {as : List m_V} {P : m_H → Prop} (d : decode M.2.2.1 pc = .ok (.invokestatic index, 3)) (mt : m_mS M' n) (lk : Cond.methodLink M.1 index M'.2.1 ∈ m_G) (rr : m_rr M M') (hc : m_CV M' (as) h P) (hst : as.reverse ++ rest = st) (hn : as.length = n) (hrest : m_cs rest ≤ 8) (hz : (m_rm M').cells = 0 ∧ (m_rm M').slots = 0)
    (kk : ∀ (h' : m_H), P h' → m_Z oF M (pc + 3) ls rest h' Q) : m_Z oF M pc ls st h Q := z_callS pc d mt lk rr hc hst hn hrest hz (fun r h' q => by obtain ⟨rfl, p⟩ := q; exact kk h' p)
theorem z_nI (pc : Nat) {index n : Nat} {as : List m_V} {host : String} {P : Int → m_H → Prop} (d : decode M.2.2.1 pc = .ok (.invokestatic index, 3)) (mt : m_mS M' n) (lk : Cond.methodLinkNest M.1 index M'.2.1 host ∈ m_N) (rr : m_rr M M') (hc : m_CI M' (as) h P) (hst : as.reverse ++ rest = st) (hn : as.length = n) (hrest : m_cs rest ≤ 8) (hz : (m_rm M').cells = 0 ∧ (m_rm M').slots = 0)
    (kk : ∀ (x : Int) (h' : m_H), P x h' → m_Z oF M (pc + 3) ls (mI x :: rest) h' Q) : m_Z oF M pc ls st h Q := z_callSN pc d mt lk rr hc hst hn hrest hz (fun r h' q => by obtain ⟨x, rfl, p⟩ := q; exact kk x h' p)
theorem z_nJ (pc : Nat) {index n : Nat} {as : List m_V} {host : String} {P : Int → m_H → Prop} (d : decode M.2.2.1 pc = .ok (.invokestatic index, 3)) (mt : m_mS M' n) (lk : Cond.methodLinkNest M.1 index M'.2.1 host ∈ m_N) (rr : m_rr M M') (hc : m_CJ M' (as) h P) (hst : as.reverse ++ rest = st) (hn : as.length = n) (hrest : m_cs rest ≤ 8) (hz : (m_rm M').cells = 0 ∧ (m_rm M').slots = 0)
    (kk : ∀ (x : Int) (h' : m_H), P x h' → m_Z oF M (pc + 3) ls (mJ x :: rest) h' Q) : m_Z oF M pc ls st h Q := z_callSN pc d mt lk rr hc hst hn hrest hz (fun r h' q => by obtain ⟨x, rfl, p⟩ := q; exact kk x h' p)
theorem z_nV (pc : Nat) {index n : Nat} {as : List m_V} {host : String} {P : m_H → Prop} (d : decode M.2.2.1 pc = .ok (.invokestatic index, 3)) (mt : m_mS M' n) (lk : Cond.methodLinkNest M.1 index M'.2.1 host ∈ m_N) (rr : m_rr M M') (hc : m_CV M' (as) h P) (hst : as.reverse ++ rest = st) (hn : as.length = n) (hrest : m_cs rest ≤ 8) (hz : (m_rm M').cells = 0 ∧ (m_rm M').slots = 0)
    (kk : ∀ (h' : m_H), P h' → m_Z oF M (pc + 3) ls rest h' Q) : m_Z oF M pc ls st h Q := z_callSN pc d mt lk rr hc hst hn hrest hz (fun r h' q => by obtain ⟨rfl, p⟩ := q; exact kk h' p)
theorem z_iaddN (pc : Nat) {x y : Int} (d : decode M.2.2.1 pc = .ok (.iadd, 1)) (h1 : -2147483648 ≤ x + y) (h2 : x + y ≤ 2147483647) (k : m_Z oF M (pc + 1) ls (mI (x + y) :: st) h Q) : m_Z oF M pc ls (mI y :: mI x :: st) h Q := z_iadd pc d (by rw [m_w_id h1 h2]; exact k)
theorem z_laddN (pc : Nat) {x y : Int} (d : decode M.2.2.1 pc = .ok (.ladd, 1)) (h1 : -9223372036854775808 ≤ x + y) (h2 : x + y ≤ 9223372036854775807) (k : m_Z oF M (pc + 1) ls (mJ (x + y) :: st) h Q) : m_Z oF M pc ls (mJ y :: mJ x :: st) h Q := z_ladd pc d (by rw [m_x_id h1 h2]; exact k)
theorem z_isubN (pc : Nat) {x y : Int} (d : decode M.2.2.1 pc = .ok (.isub, 1)) (h1 : -2147483648 ≤ x - y) (h2 : x - y ≤ 2147483647) (k : m_Z oF M (pc + 1) ls (mI (x - y) :: st) h Q) : m_Z oF M pc ls (mI y :: mI x :: st) h Q := z_isub pc d (by rw [m_w_id h1 h2]; exact k)
theorem z_lsubN (pc : Nat) {x y : Int} (d : decode M.2.2.1 pc = .ok (.lsub, 1)) (h1 : -9223372036854775808 ≤ x - y) (h2 : x - y ≤ 9223372036854775807) (k : m_Z oF M (pc + 1) ls (mJ (x - y) :: st) h Q) : m_Z oF M pc ls (mJ y :: mJ x :: st) h Q := z_lsub pc d (by rw [m_x_id h1 h2]; exact k)
theorem z_imulN (pc : Nat) {x y : Int} (d : decode M.2.2.1 pc = .ok (.imul, 1)) (h1 : -2147483648 ≤ x * y) (h2 : x * y ≤ 2147483647) (k : m_Z oF M (pc + 1) ls (mI (x * y) :: st) h Q) : m_Z oF M pc ls (mI y :: mI x :: st) h Q := z_imul pc d (by rw [m_w_id h1 h2]; exact k)
theorem z_lmulN (pc : Nat) {x y : Int} (d : decode M.2.2.1 pc = .ok (.lmul, 1)) (h1 : -9223372036854775808 ≤ x * y) (h2 : x * y ≤ 9223372036854775807) (k : m_Z oF M (pc + 1) ls (mJ (x * y) :: st) h Q) : m_Z oF M pc ls (mJ y :: mJ x :: st) h Q := z_lmul pc d (by rw [m_x_id h1 h2]; exact k)
theorem z_idivN (pc : Nat) {x y : Int} (d : decode M.2.2.1 pc = .ok (.idiv, 1)) (hx : 0 ≤ x) (hy : 0 < y) (k : m_Z oF M (pc + 1) ls (mI (x / y) :: st) h Q) : m_Z oF M pc ls (mI y :: mI x :: st) h Q := by
  refine z_ok (fun o _ _ => ?_)
  refine z_idiv pc d (by omega) ?_
  have h1 : 0 ≤ x / y := Int.ediv_nonneg hx (by omega)
  have h2 : x / y ≤ x := Int.ediv_le_self y hx
  have h3 : m_32 x := o.2.1
  unfold m_32 at h3
  rw [Int.tdiv_eq_ediv_of_nonneg hx, m_w_id (by omega) (by omega)]
  exact k
theorem z_iremN (pc : Nat) {x y : Int} (d : decode M.2.2.1 pc = .ok (.irem, 1)) (hx : 0 ≤ x) (hy : y ≠ 0) (k : m_Z oF M (pc + 1) ls (mI (x % y) :: st) h Q) : m_Z oF M pc ls (mI y :: mI x :: st) h Q := z_irem pc d hy (by rw [Int.tmod_eq_emod_of_nonneg hx]; exact k)
theorem z_ldivN (pc : Nat) {x y : Int} (d : decode M.2.2.1 pc = .ok (.ldiv, 1)) (hx : 0 ≤ x) (hy : 0 < y) (k : m_Z oF M (pc + 1) ls (mJ (x / y) :: st) h Q) : m_Z oF M pc ls (mJ y :: mJ x :: st) h Q := by
  refine z_ok (fun o _ _ => ?_)
  refine z_ldiv pc d (by omega) ?_
  have h1 : 0 ≤ x / y := Int.ediv_nonneg hx (by omega)
  have h2 : x / y ≤ x := Int.ediv_le_self y hx
  have h3 : m_64 x := o.2.1
  unfold m_64 at h3
  rw [Int.tdiv_eq_ediv_of_nonneg hx, m_x_id (by omega) (by omega)]
  exact k
theorem z_lremN (pc : Nat) {x y : Int} (d : decode M.2.2.1 pc = .ok (.lrem, 1)) (hx : 0 ≤ x) (hy : y ≠ 0) (k : m_Z oF M (pc + 1) ls (mJ (x % y) :: st) h Q) : m_Z oF M pc ls (mJ y :: mJ x :: st) h Q := z_lrem pc d hy (by rw [Int.tmod_eq_emod_of_nonneg hx]; exact k)
theorem z_inegN (pc : Nat) {x : Int} (d : decode M.2.2.1 pc = .ok (.ineg, 1)) (h1 : -2147483648 ≤ -x) (h2 : -x ≤ 2147483647) (k : m_Z oF M (pc + 1) ls (mI (-x) :: st) h Q) : m_Z oF M pc ls (mI x :: st) h Q := z_ineg pc d (by rw [m_w_id h1 h2]; exact k)
theorem z_l2iN (pc : Nat) {x : Int} (d : decode M.2.2.1 pc = .ok (.l2i, 1)) (h1 : -2147483648 ≤ x) (h2 : x ≤ 2147483647) (k : m_Z oF M (pc + 1) ls (mI x :: st) h Q) : m_Z oF M pc ls (mJ x :: st) h Q := z_l2i pc d (by rw [m_w_id h1 h2]; exact k)
theorem z_iincN (pc : Nat) {n : Nat} {i x : Int} {ls' : List (Option m_V)} (d : decode M.2.2.1 pc = .ok (.iinc n i, 3)) (hn : n < M.2.2.2.1) (hl : ls[n]? = some (some (mI x))) (hi : m_32 i) (h1 : -2147483648 ≤ x + i) (h2 : x + i ≤ 2147483647) (e : m_st1 ls n (mI (x + i)) = ls') (k : m_Z oF M (pc + 3) ls' st h Q) : m_Z oF M pc ls st h Q := z_iinc pc d hn hl hi (by rw [m_w_id h1 h2]; exact e) k
theorem z_topI {pc : Nat} {x : Int} (k : ∀ y : Int, x = y → m_Z oF M pc ls (mI y :: st) h Q) : m_Z oF M pc ls (mI x :: st) h Q := k x rfl
theorem z_topBI {pc : Nat} {x lo hi : Int} (hb : lo ≤ x ∧ x ≤ hi) (k : ∀ y : Int, x = y → lo ≤ y → y ≤ hi → m_Z oF M pc ls (mI y :: st) h Q) : m_Z oF M pc ls (mI x :: st) h Q := k x rfl hb.1 hb.2
theorem z_topJ {pc : Nat} {x : Int} (k : ∀ y : Int, x = y → m_Z oF M pc ls (mJ y :: st) h Q) : m_Z oF M pc ls (mJ x :: st) h Q := k x rfl
theorem z_topBJ {pc : Nat} {x lo hi : Int} (hb : lo ≤ x ∧ x ≤ hi) (k : ∀ y : Int, x = y → lo ≤ y → y ≤ hi → m_Z oF M pc ls (mJ y :: st) h Q) : m_Z oF M pc ls (mJ x :: st) h Q := k x rfl hb.1 hb.2
theorem z_topm {pc : Nat} {x : Int} (k : ∀ y : Int, x = y → m_32 y → m_Z oF M pc ls (mI y :: st) h Q) : m_Z oF M pc ls (mI x :: st) h Q := z_ok (fun o _ _ => k x rfl o.1)
theorem z_ialdG (pc : Nat) {k n : Nat} {i lo hi : Int} (d : decode M.2.2.1 pc = .ok (.iaload, 1)) (hk : oF[k]? = some (0, n)) (h0 : 0 ≤ i) (h1 : i < n) (hb : lo ≤ h k i.toNat ∧ h k i.toNat ≤ hi) (kk : ∀ x : Int, h k i.toNat = x → lo ≤ x → x ≤ hi → m_Z oF M (pc + 1) ls (mI x :: st) h Q) : m_Z oF M pc ls (mI i :: mR k :: st) h Q := z_iald pc d hk h0 h1 (kk _ rfl hb.1 hb.2)
theorem z_ialdV (pc : Nat) {k n : Nat} {i : Int} (d : decode M.2.2.1 pc = .ok (.iaload, 1)) (hk : oF[k]? = some (0, n)) (h0 : 0 ≤ i) (h1 : i < n) (kk : ∀ x : Int, h k i.toNat = x → m_Z oF M (pc + 1) ls (mI x :: st) h Q) : m_Z oF M pc ls (mI i :: mR k :: st) h Q := z_iald pc d hk h0 h1 (kk _ rfl)
theorem z_zaldG (pc : Nat) {k n : Nat} {i lo hi : Int} (d : decode M.2.2.1 pc = .ok (.baload, 1)) (hk : oF[k]? = some (2, n)) (h0 : 0 ≤ i) (h1 : i < n) (hb : lo ≤ h k i.toNat ∧ h k i.toNat ≤ hi) (kk : ∀ x : Int, h k i.toNat = x → lo ≤ x → x ≤ hi → m_Z oF M (pc + 1) ls (mI x :: st) h Q) : m_Z oF M pc ls (mI i :: mR k :: st) h Q := z_zald pc d hk h0 h1 (kk _ rfl hb.1 hb.2)
theorem z_zaldV (pc : Nat) {k n : Nat} {i : Int} (d : decode M.2.2.1 pc = .ok (.baload, 1)) (hk : oF[k]? = some (2, n)) (h0 : 0 ≤ i) (h1 : i < n) (kk : ∀ x : Int, h k i.toNat = x → m_Z oF M (pc + 1) ls (mI x :: st) h Q) : m_Z oF M pc ls (mI i :: mR k :: st) h Q := z_zald pc d hk h0 h1 (kk _ rfl)
theorem z_laldG (pc : Nat) {k n : Nat} {i lo hi : Int} (d : decode M.2.2.1 pc = .ok (.laload, 1)) (hk : oF[k]? = some (1, n)) (h0 : 0 ≤ i) (h1 : i < n) (hb : lo ≤ h k i.toNat ∧ h k i.toNat ≤ hi) (kk : ∀ x : Int, h k i.toNat = x → lo ≤ x → x ≤ hi → m_Z oF M (pc + 1) ls (mJ x :: st) h Q) : m_Z oF M pc ls (mI i :: mR k :: st) h Q := z_lald pc d hk h0 h1 (kk _ rfl hb.1 hb.2)
theorem z_laldV (pc : Nat) {k n : Nat} {i : Int} (d : decode M.2.2.1 pc = .ok (.laload, 1)) (hk : oF[k]? = some (1, n)) (h0 : 0 ≤ i) (h1 : i < n) (kk : ∀ x : Int, h k i.toNat = x → m_Z oF M (pc + 1) ls (mJ x :: st) h Q) : m_Z oF M pc ls (mI i :: mR k :: st) h Q := z_lald pc d hk h0 h1 (kk _ rfl)
theorem z_getIG (pc : Nat) {index ci N j k : Nat} {lo hi : Int} (d : decode M.2.2.1 pc = .ok (.getfield index, 3)) (f : m_fl M.1 index ci N j) (hk : oF[k]? = some (ci + 5, N)) (ht : m_tk (m_ty ci j) ≠ 1 ∧ m_tk (m_ty ci j) ≠ 3) (hb : lo ≤ h k j ∧ h k j ≤ hi) (kk : ∀ x : Int, h k j = x → lo ≤ x → x ≤ hi → m_Z oF M (pc + 3) ls (mI x :: st) h Q) : m_Z oF M pc ls (mR k :: st) h Q := z_getI pc d f hk ht (kk _ rfl hb.1 hb.2)
theorem z_getIV (pc : Nat) {index ci N j k : Nat} (d : decode M.2.2.1 pc = .ok (.getfield index, 3)) (f : m_fl M.1 index ci N j) (hk : oF[k]? = some (ci + 5, N)) (ht : m_tk (m_ty ci j) ≠ 1 ∧ m_tk (m_ty ci j) ≠ 3) (kk : ∀ x : Int, h k j = x → m_Z oF M (pc + 3) ls (mI x :: st) h Q) : m_Z oF M pc ls (mR k :: st) h Q := z_getI pc d f hk ht (kk _ rfl)
theorem z_getIE (pc : Nat) {index ci N j k : Nat} {x : Int} (d : decode M.2.2.1 pc = .ok (.getfield index, 3)) (f : m_fl M.1 index ci N j) (hk : oF[k]? = some (ci + 5, N)) (ht : m_tk (m_ty ci j) ≠ 1 ∧ m_tk (m_ty ci j) ≠ 3) (e : h k j = x) (kk : m_Z oF M (pc + 3) ls (mI x :: st) h Q) : m_Z oF M pc ls (mR k :: st) h Q := z_getI pc d f hk ht (by rw [e]; exact kk)
theorem z_getJG (pc : Nat) {index ci N j k : Nat} {lo hi : Int} (d : decode M.2.2.1 pc = .ok (.getfield index, 3)) (f : m_fl M.1 index ci N j) (hk : oF[k]? = some (ci + 5, N)) (ht : m_tk (m_ty ci j) = 1) (hb : lo ≤ h k j ∧ h k j ≤ hi) (kk : ∀ x : Int, h k j = x → lo ≤ x → x ≤ hi → m_Z oF M (pc + 3) ls (mJ x :: st) h Q) : m_Z oF M pc ls (mR k :: st) h Q := z_getJ pc d f hk ht (kk _ rfl hb.1 hb.2)
theorem z_getJV (pc : Nat) {index ci N j k : Nat} (d : decode M.2.2.1 pc = .ok (.getfield index, 3)) (f : m_fl M.1 index ci N j) (hk : oF[k]? = some (ci + 5, N)) (ht : m_tk (m_ty ci j) = 1) (kk : ∀ x : Int, h k j = x → m_Z oF M (pc + 3) ls (mJ x :: st) h Q) : m_Z oF M pc ls (mR k :: st) h Q := z_getJ pc d f hk ht (kk _ rfl)
theorem z_getJE (pc : Nat) {index ci N j k : Nat} {x : Int} (d : decode M.2.2.1 pc = .ok (.getfield index, 3)) (f : m_fl M.1 index ci N j) (hk : oF[k]? = some (ci + 5, N)) (ht : m_tk (m_ty ci j) = 1) (e : h k j = x) (kk : m_Z oF M (pc + 3) ls (mJ x :: st) h Q) : m_Z oF M pc ls (mR k :: st) h Q := z_getJ pc d f hk ht (by rw [e]; exact kk)
theorem z_iastH (pc : Nat) {k n : Nat} {i x : Int} (d : decode M.2.2.1 pc = .ok (.iastore, 1)) (hk : oF[k]? = some (0, n)) (h0' : 0 ≤ i) (h1 : i < n) (hG : GI (m_up h k i.toNat x)) (hR : FR cs ss h0 (m_up h k i.toNat x)) (kk : ∀ h' : m_H, h' = m_up h k i.toNat x → GI h' → FR cs ss h0 h' → m_Z oF M (pc + 1) ls st h' Q) : m_Z oF M pc ls (mI x :: mI i :: mR k :: st) h Q := z_iast pc d hk h0' h1 (kk _ rfl hG hR)
theorem z_lastH (pc : Nat) {k n : Nat} {i x : Int} (d : decode M.2.2.1 pc = .ok (.lastore, 1)) (hk : oF[k]? = some (1, n)) (h0' : 0 ≤ i) (h1 : i < n) (hG : GI (m_up h k i.toNat x)) (hR : FR cs ss h0 (m_up h k i.toNat x)) (kk : ∀ h' : m_H, h' = m_up h k i.toNat x → GI h' → FR cs ss h0 h' → m_Z oF M (pc + 1) ls st h' Q) : m_Z oF M pc ls (mJ x :: mI i :: mR k :: st) h Q := z_last pc d hk h0' h1 (kk _ rfl hG hR)
theorem z_zastH (pc : Nat) {k n : Nat} {i x : Int} (d : decode M.2.2.1 pc = .ok (.bastore, 1)) (hk : oF[k]? = some (2, n)) (h0' : 0 ≤ i) (h1 : i < n) (hx : x = 0 ∨ x = 1) (hG : GI (m_up h k i.toNat x)) (hR : FR cs ss h0 (m_up h k i.toNat x)) (kk : ∀ h' : m_H, h' = m_up h k i.toNat x → GI h' → FR cs ss h0 h' → m_Z oF M (pc + 1) ls st h' Q) : m_Z oF M pc ls (mI x :: mI i :: mR k :: st) h Q := z_zast pc d hk h0' h1 hx (kk _ rfl hG hR)
theorem z_putIH (pc : Nat) {index ci N j k : Nat} {x : Int} (d : decode M.2.2.1 pc = .ok (.putfield index, 3)) (f : m_fp M.1 index ci N j) (hk : oF[k]? = some (ci + 5, N)) (ht : m_ty ci j = .int) (hG : GI (m_up h k j x)) (hR : FR cs ss h0 (m_up h k j x)) (kk : ∀ h' : m_H, h' = m_up h k j x → GI h' → FR cs ss h0 h' → m_Z oF M (pc + 3) ls st h' Q) : m_Z oF M pc ls (mI x :: mR k :: st) h Q := z_putI pc d f hk ht (kk _ rfl hG hR)
theorem z_putZH (pc : Nat) {index ci N j k : Nat} {x : Int} (d : decode M.2.2.1 pc = .ok (.putfield index, 3)) (f : m_fp M.1 index ci N j) (hk : oF[k]? = some (ci + 5, N)) (ht : m_ty ci j = .boolean) (hx : x = 0 ∨ x = 1) (hG : GI (m_up h k j x)) (hR : FR cs ss h0 (m_up h k j x)) (kk : ∀ h' : m_H, h' = m_up h k j x → GI h' → FR cs ss h0 h' → m_Z oF M (pc + 3) ls st h' Q) : m_Z oF M pc ls (mI x :: mR k :: st) h Q := z_putZ pc d f hk ht hx (kk _ rfl hG hR)
theorem z_putJH (pc : Nat) {index ci N j k : Nat} {x : Int} (d : decode M.2.2.1 pc = .ok (.putfield index, 3)) (f : m_fp M.1 index ci N j) (hk : oF[k]? = some (ci + 5, N)) (ht : m_ty ci j = .long) (hG : GI (m_up h k j x)) (hR : FR cs ss h0 (m_up h k j x)) (kk : ∀ h' : m_H, h' = m_up h k j x → GI h' → FR cs ss h0 h' → m_Z oF M (pc + 3) ls st h' Q) : m_Z oF M pc ls (mJ x :: mR k :: st) h Q := z_putJ pc d f hk ht (kk _ rfl hG hR)
theorem z_if_eq_T (pc : Nat) {x off : Int} (d : decode M.2.2.1 pc = .ok (.ifCond .eq off, 3)) (tgt : Nat) (ht : (pc : Int) + off = (tgt : Int)) (hc : x = 0) (k : m_Z oF M tgt ls st h Q) : m_Z oF M pc ls (mI x :: st) h Q := z_if_eq pc d tgt ht (fun _ => k) (fun q => absurd hc (q))
theorem z_if_eq_F (pc : Nat) {x off : Int} (d : decode M.2.2.1 pc = .ok (.ifCond .eq off, 3)) (tgt : Nat) (ht : (pc : Int) + off = (tgt : Int)) (hc : ¬ x = 0) (k : m_Z oF M (pc + 3) ls st h Q) : m_Z oF M pc ls (mI x :: st) h Q := z_if_eq pc d tgt ht (fun q => absurd q hc) (fun _ => k)
theorem z_icmp_eq_T (pc : Nat) {x y off : Int} (d : decode M.2.2.1 pc = .ok (.if_icmp .eq off, 3)) (tgt : Nat) (ht : (pc : Int) + off = (tgt : Int)) (hc : x = y) (k : m_Z oF M tgt ls st h Q) : m_Z oF M pc ls (mI y :: mI x :: st) h Q := z_icmp_eq pc d tgt ht (fun _ => k) (fun q => absurd hc (q))
theorem z_icmp_eq_F (pc : Nat) {x y off : Int} (d : decode M.2.2.1 pc = .ok (.if_icmp .eq off, 3)) (tgt : Nat) (ht : (pc : Int) + off = (tgt : Int)) (hc : ¬ x = y) (k : m_Z oF M (pc + 3) ls st h Q) : m_Z oF M pc ls (mI y :: mI x :: st) h Q := z_icmp_eq pc d tgt ht (fun q => absurd q hc) (fun _ => k)
theorem z_if_ne_T (pc : Nat) {x off : Int} (d : decode M.2.2.1 pc = .ok (.ifCond .ne off, 3)) (tgt : Nat) (ht : (pc : Int) + off = (tgt : Int)) (hc : ¬ x = 0) (k : m_Z oF M tgt ls st h Q) : m_Z oF M pc ls (mI x :: st) h Q := z_if_ne pc d tgt ht (fun _ => k) (fun q => absurd hc (not_not_intro q))
theorem z_if_ne_F (pc : Nat) {x off : Int} (d : decode M.2.2.1 pc = .ok (.ifCond .ne off, 3)) (tgt : Nat) (ht : (pc : Int) + off = (tgt : Int)) (hc : x = 0) (k : m_Z oF M (pc + 3) ls st h Q) : m_Z oF M pc ls (mI x :: st) h Q := z_if_ne pc d tgt ht (fun q => absurd hc q) (fun _ => k)
theorem z_icmp_ne_T (pc : Nat) {x y off : Int} (d : decode M.2.2.1 pc = .ok (.if_icmp .ne off, 3)) (tgt : Nat) (ht : (pc : Int) + off = (tgt : Int)) (hc : ¬ x = y) (k : m_Z oF M tgt ls st h Q) : m_Z oF M pc ls (mI y :: mI x :: st) h Q := z_icmp_ne pc d tgt ht (fun _ => k) (fun q => absurd hc (not_not_intro q))
theorem z_icmp_ne_F (pc : Nat) {x y off : Int} (d : decode M.2.2.1 pc = .ok (.if_icmp .ne off, 3)) (tgt : Nat) (ht : (pc : Int) + off = (tgt : Int)) (hc : x = y) (k : m_Z oF M (pc + 3) ls st h Q) : m_Z oF M pc ls (mI y :: mI x :: st) h Q := z_icmp_ne pc d tgt ht (fun q => absurd hc q) (fun _ => k)
theorem z_if_lt_T (pc : Nat) {x off : Int} (d : decode M.2.2.1 pc = .ok (.ifCond .lt off, 3)) (tgt : Nat) (ht : (pc : Int) + off = (tgt : Int)) (hc : x < 0) (k : m_Z oF M tgt ls st h Q) : m_Z oF M pc ls (mI x :: st) h Q := z_if_lt pc d tgt ht (fun _ => k) (fun q => absurd hc (q))
theorem z_if_lt_F (pc : Nat) {x off : Int} (d : decode M.2.2.1 pc = .ok (.ifCond .lt off, 3)) (tgt : Nat) (ht : (pc : Int) + off = (tgt : Int)) (hc : ¬ x < 0) (k : m_Z oF M (pc + 3) ls st h Q) : m_Z oF M pc ls (mI x :: st) h Q := z_if_lt pc d tgt ht (fun q => absurd q hc) (fun _ => k)
theorem z_icmp_lt_T (pc : Nat) {x y off : Int} (d : decode M.2.2.1 pc = .ok (.if_icmp .lt off, 3)) (tgt : Nat) (ht : (pc : Int) + off = (tgt : Int)) (hc : x < y) (k : m_Z oF M tgt ls st h Q) : m_Z oF M pc ls (mI y :: mI x :: st) h Q := z_icmp_lt pc d tgt ht (fun _ => k) (fun q => absurd hc (q))
theorem z_icmp_lt_F (pc : Nat) {x y off : Int} (d : decode M.2.2.1 pc = .ok (.if_icmp .lt off, 3)) (tgt : Nat) (ht : (pc : Int) + off = (tgt : Int)) (hc : ¬ x < y) (k : m_Z oF M (pc + 3) ls st h Q) : m_Z oF M pc ls (mI y :: mI x :: st) h Q := z_icmp_lt pc d tgt ht (fun q => absurd q hc) (fun _ => k)
theorem z_if_ge_T (pc : Nat) {x off : Int} (d : decode M.2.2.1 pc = .ok (.ifCond .ge off, 3)) (tgt : Nat) (ht : (pc : Int) + off = (tgt : Int)) (hc : 0 ≤ x) (k : m_Z oF M tgt ls st h Q) : m_Z oF M pc ls (mI x :: st) h Q := z_if_ge pc d tgt ht (fun _ => k) (fun q => absurd hc (q))
theorem z_if_ge_F (pc : Nat) {x off : Int} (d : decode M.2.2.1 pc = .ok (.ifCond .ge off, 3)) (tgt : Nat) (ht : (pc : Int) + off = (tgt : Int)) (hc : ¬ 0 ≤ x) (k : m_Z oF M (pc + 3) ls st h Q) : m_Z oF M pc ls (mI x :: st) h Q := z_if_ge pc d tgt ht (fun q => absurd q hc) (fun _ => k)
theorem z_icmp_ge_T (pc : Nat) {x y off : Int} (d : decode M.2.2.1 pc = .ok (.if_icmp .ge off, 3)) (tgt : Nat) (ht : (pc : Int) + off = (tgt : Int)) (hc : y ≤ x) (k : m_Z oF M tgt ls st h Q) : m_Z oF M pc ls (mI y :: mI x :: st) h Q := z_icmp_ge pc d tgt ht (fun _ => k) (fun q => absurd hc (q))
theorem z_icmp_ge_F (pc : Nat) {x y off : Int} (d : decode M.2.2.1 pc = .ok (.if_icmp .ge off, 3)) (tgt : Nat) (ht : (pc : Int) + off = (tgt : Int)) (hc : ¬ y ≤ x) (k : m_Z oF M (pc + 3) ls st h Q) : m_Z oF M pc ls (mI y :: mI x :: st) h Q := z_icmp_ge pc d tgt ht (fun q => absurd q hc) (fun _ => k)
theorem z_if_gt_T (pc : Nat) {x off : Int} (d : decode M.2.2.1 pc = .ok (.ifCond .gt off, 3)) (tgt : Nat) (ht : (pc : Int) + off = (tgt : Int)) (hc : 0 < x) (k : m_Z oF M tgt ls st h Q) : m_Z oF M pc ls (mI x :: st) h Q := z_if_gt pc d tgt ht (fun _ => k) (fun q => absurd hc (q))
theorem z_if_gt_F (pc : Nat) {x off : Int} (d : decode M.2.2.1 pc = .ok (.ifCond .gt off, 3)) (tgt : Nat) (ht : (pc : Int) + off = (tgt : Int)) (hc : ¬ 0 < x) (k : m_Z oF M (pc + 3) ls st h Q) : m_Z oF M pc ls (mI x :: st) h Q := z_if_gt pc d tgt ht (fun q => absurd q hc) (fun _ => k)
theorem z_icmp_gt_T (pc : Nat) {x y off : Int} (d : decode M.2.2.1 pc = .ok (.if_icmp .gt off, 3)) (tgt : Nat) (ht : (pc : Int) + off = (tgt : Int)) (hc : y < x) (k : m_Z oF M tgt ls st h Q) : m_Z oF M pc ls (mI y :: mI x :: st) h Q := z_icmp_gt pc d tgt ht (fun _ => k) (fun q => absurd hc (q))
theorem z_icmp_gt_F (pc : Nat) {x y off : Int} (d : decode M.2.2.1 pc = .ok (.if_icmp .gt off, 3)) (tgt : Nat) (ht : (pc : Int) + off = (tgt : Int)) (hc : ¬ y < x) (k : m_Z oF M (pc + 3) ls st h Q) : m_Z oF M pc ls (mI y :: mI x :: st) h Q := z_icmp_gt pc d tgt ht (fun q => absurd q hc) (fun _ => k)
theorem z_if_le_T (pc : Nat) {x off : Int} (d : decode M.2.2.1 pc = .ok (.ifCond .le off, 3)) (tgt : Nat) (ht : (pc : Int) + off = (tgt : Int)) (hc : x ≤ 0) (k : m_Z oF M tgt ls st h Q) : m_Z oF M pc ls (mI x :: st) h Q := z_if_le pc d tgt ht (fun _ => k) (fun q => absurd hc (q))
theorem z_if_le_F (pc : Nat) {x off : Int} (d : decode M.2.2.1 pc = .ok (.ifCond .le off, 3)) (tgt : Nat) (ht : (pc : Int) + off = (tgt : Int)) (hc : ¬ x ≤ 0) (k : m_Z oF M (pc + 3) ls st h Q) : m_Z oF M pc ls (mI x :: st) h Q := z_if_le pc d tgt ht (fun q => absurd q hc) (fun _ => k)
theorem z_icmp_le_T (pc : Nat) {x y off : Int} (d : decode M.2.2.1 pc = .ok (.if_icmp .le off, 3)) (tgt : Nat) (ht : (pc : Int) + off = (tgt : Int)) (hc : x ≤ y) (k : m_Z oF M tgt ls st h Q) : m_Z oF M pc ls (mI y :: mI x :: st) h Q := z_icmp_le pc d tgt ht (fun _ => k) (fun q => absurd hc (q))
theorem z_icmp_le_F (pc : Nat) {x y off : Int} (d : decode M.2.2.1 pc = .ok (.if_icmp .le off, 3)) (tgt : Nat) (ht : (pc : Int) + off = (tgt : Int)) (hc : ¬ x ≤ y) (k : m_Z oF M (pc + 3) ls st h Q) : m_Z oF M pc ls (mI y :: mI x :: st) h Q := z_icmp_le pc d tgt ht (fun q => absurd q hc) (fun _ => k)
end ZL
theorem o_0 : oF[0]? = some (11 + 5, 17) := rfl
theorem o_1 : oF[1]? = some (4 + 5, 10) := rfl
theorem o_2 : oF[2]? = some (0, 32) := rfl
theorem o_3 : oF[3]? = some (0, 6) := rfl
theorem o_4 : oF[4]? = some (0, 24) := rfl
theorem o_5 : oF[5]? = some (0, 24) := rfl
theorem o_6 : oF[6]? = some (0, 24) := rfl
theorem o_7 : oF[7]? = some (0, 24) := rfl
theorem o_8 : oF[8]? = some (0, 16) := rfl
theorem o_9 : oF[9]? = some (4 + 5, 10) := rfl
theorem o_10 : oF[10]? = some (0, 32) := rfl
theorem o_11 : oF[11]? = some (0, 6) := rfl
theorem o_12 : oF[12]? = some (0, 24) := rfl
theorem o_13 : oF[13]? = some (0, 24) := rfl
theorem o_14 : oF[14]? = some (0, 24) := rfl
theorem o_15 : oF[15]? = some (0, 24) := rfl
theorem o_16 : oF[16]? = some (0, 16) := rfl
theorem o_17 : oF[17]? = some (4, 2) := rfl
theorem o_18 : oF[18]? = some (4 + 5, 10) := rfl
theorem o_19 : oF[19]? = some (0, 32) := rfl
theorem o_20 : oF[20]? = some (0, 6) := rfl
theorem o_21 : oF[21]? = some (0, 24) := rfl
theorem o_22 : oF[22]? = some (0, 24) := rfl
theorem o_23 : oF[23]? = some (0, 24) := rfl
theorem o_24 : oF[24]? = some (0, 24) := rfl
theorem o_25 : oF[25]? = some (0, 16) := rfl
theorem o_26 : oF[26]? = some (4 + 5, 10) := rfl
theorem o_27 : oF[27]? = some (0, 32) := rfl
theorem o_28 : oF[28]? = some (0, 6) := rfl
theorem o_29 : oF[29]? = some (0, 24) := rfl
theorem o_30 : oF[30]? = some (0, 24) := rfl
theorem o_31 : oF[31]? = some (0, 24) := rfl
theorem o_32 : oF[32]? = some (0, 24) := rfl
theorem o_33 : oF[33]? = some (0, 16) := rfl
theorem o_34 : oF[34]? = some (2, 2) := rfl
theorem o_35 : oF[35]? = some (8 + 5, 2) := rfl
theorem o_36 : oF[36]? = some (0, 400) := rfl
theorem o_37 : oF[37]? = some (1 + 5, 4) := rfl
theorem o_38 : oF[38]? = some (9 + 5, 6) := rfl
theorem o_39 : oF[39]? = some (0, 48) := rfl
theorem o_40 : oF[40]? = some (2, 48) := rfl
theorem o_41 : oF[41]? = some (0, 48) := rfl
theorem o_42 : oF[42]? = some (3, 16) := rfl
theorem o_43 : oF[43]? = some (2 + 5, 3) := rfl
theorem o_44 : oF[44]? = some (2 + 5, 3) := rfl
theorem o_45 : oF[45]? = some (2 + 5, 3) := rfl
theorem o_46 : oF[46]? = some (2 + 5, 3) := rfl
theorem o_47 : oF[47]? = some (2 + 5, 3) := rfl
theorem o_48 : oF[48]? = some (2 + 5, 3) := rfl
theorem o_49 : oF[49]? = some (2 + 5, 3) := rfl
theorem o_50 : oF[50]? = some (2 + 5, 3) := rfl
theorem o_51 : oF[51]? = some (2 + 5, 3) := rfl
theorem o_52 : oF[52]? = some (2 + 5, 3) := rfl
theorem o_53 : oF[53]? = some (2 + 5, 3) := rfl
theorem o_54 : oF[54]? = some (2 + 5, 3) := rfl
theorem o_55 : oF[55]? = some (2 + 5, 3) := rfl
theorem o_56 : oF[56]? = some (2 + 5, 3) := rfl
theorem o_57 : oF[57]? = some (2 + 5, 3) := rfl
theorem o_58 : oF[58]? = some (2 + 5, 3) := rfl
theorem o_59 : oF[59]? = some (3, 16) := rfl
theorem o_60 : oF[60]? = some (2 + 5, 3) := rfl
theorem o_61 : oF[61]? = some (2 + 5, 3) := rfl
theorem o_62 : oF[62]? = some (2 + 5, 3) := rfl
theorem o_63 : oF[63]? = some (2 + 5, 3) := rfl
theorem o_64 : oF[64]? = some (2 + 5, 3) := rfl
theorem o_65 : oF[65]? = some (2 + 5, 3) := rfl
theorem o_66 : oF[66]? = some (2 + 5, 3) := rfl
theorem o_67 : oF[67]? = some (2 + 5, 3) := rfl
theorem o_68 : oF[68]? = some (2 + 5, 3) := rfl
theorem o_69 : oF[69]? = some (2 + 5, 3) := rfl
theorem o_70 : oF[70]? = some (2 + 5, 3) := rfl
theorem o_71 : oF[71]? = some (2 + 5, 3) := rfl
theorem o_72 : oF[72]? = some (2 + 5, 3) := rfl
theorem o_73 : oF[73]? = some (2 + 5, 3) := rfl
theorem o_74 : oF[74]? = some (2 + 5, 3) := rfl
theorem o_75 : oF[75]? = some (2 + 5, 3) := rfl
theorem o_76 : oF[76]? = some (3, 16) := rfl
theorem o_77 : oF[77]? = some (2 + 5, 3) := rfl
theorem o_78 : oF[78]? = some (2 + 5, 3) := rfl
theorem o_79 : oF[79]? = some (2 + 5, 3) := rfl
theorem o_80 : oF[80]? = some (2 + 5, 3) := rfl
theorem o_81 : oF[81]? = some (2 + 5, 3) := rfl
theorem o_82 : oF[82]? = some (2 + 5, 3) := rfl
theorem o_83 : oF[83]? = some (2 + 5, 3) := rfl
theorem o_84 : oF[84]? = some (2 + 5, 3) := rfl
theorem o_85 : oF[85]? = some (2 + 5, 3) := rfl
theorem o_86 : oF[86]? = some (2 + 5, 3) := rfl
theorem o_87 : oF[87]? = some (2 + 5, 3) := rfl
theorem o_88 : oF[88]? = some (2 + 5, 3) := rfl
theorem o_89 : oF[89]? = some (2 + 5, 3) := rfl
theorem o_90 : oF[90]? = some (2 + 5, 3) := rfl
theorem o_91 : oF[91]? = some (2 + 5, 3) := rfl
theorem o_92 : oF[92]? = some (2 + 5, 3) := rfl
theorem o_93 : oF[93]? = some (7 + 5, 2) := rfl
theorem o_94 : oF[94]? = some (2 + 5, 3) := rfl
theorem o_95 : oF[95]? = some (2 + 5, 3) := rfl
theorem o_96 : oF[96]? = some (10 + 5, 5) := rfl
theorem o_97 : oF[97]? = some (1, 3) := rfl
theorem o_98 : oF[98]? = some (1, 3) := rfl
theorem o_99 : oF[99]? = some (0 + 5, 1) := rfl
theorem o_100 : oF[100]? = some (0, 16) := rfl
theorem o_101 : oF[101]? = some (3 + 5, 4) := rfl
theorem o_102 : oF[102]? = some (6 + 5, 5) := rfl
theorem o_103 : oF[103]? = some (0, 3) := rfl
theorem o_104 : oF[104]? = some (0, 12) := rfl
theorem o_105 : oF[105]? = some (5 + 5, 4) := rfl
theorem o_106 : oF[106]? = some (0, 32) := rfl
theorem o_107 : oF[107]? = some (0, 5) := rfl
theorem o_108 : oF[108]? = some (12 + 5, 63) := rfl
theorem o_109 : oF[109]? = some (0, 7) := rfl
theorem o_110 : oF[110]? = some (0, 200) := rfl
theorem o_111 : oF[111]? = some (0, 400) := rfl
theorem o_112 : oF[112]? = some (2, 2) := rfl
theorem o_113 : oF[113]? = some (0, 400) := rfl
theorem o_114 : oF[114]? = some (0, 1000) := rfl
theorem o_115 : oF[115]? = some (1, 10) := rfl
theorem o_116 : oF[116]? = some (1, 10) := rfl
theorem o_117 : oF[117]? = some (0, 60) := rfl
theorem o_118 : oF[118]? = some (0, 60) := rfl
theorem o_119 : oF[119]? = some (0, 60) := rfl
theorem o_120 : oF[120]? = some (0, 60) := rfl
theorem o_121 : oF[121]? = some (2, 60) := rfl
theorem o_122 : oF[122]? = some (0, 32) := rfl
theorem o_123 : oF[123]? = some (0, 6) := rfl
theorem o_124 : oF[124]? = some (1, 80) := rfl
theorem o_125 : oF[125]? = some (1, 80) := rfl
theorem o_126 : oF[126]? = some (2, 16) := rfl
theorem o_127 : oF[127]? = some (2, 16) := rfl
theorem o_128 : oF[128]? = some (1, 80) := rfl
theorem o_129 : oF[129]? = some (1, 80) := rfl
theorem o_130 : oF[130]? = some (2, 16) := rfl
theorem o_131 : oF[131]? = some (2, 16) := rfl
theorem o_132 : oF[132]? = some (1, 5) := rfl
theorem o_133 : oF[133]? = some (1, 5) := rfl
theorem o_134 : oF[134]? = some (2, 256) := rfl
theorem o_135 : oF[135]? = some (1, 10) := rfl
theorem o_136 : oF[136]? = some (1, 10) := rfl
theorem o_137 : oF[137]? = some (1, 5) := rfl
theorem o_138 : oF[138]? = some (1, 20) := rfl
theorem o_139 : oF[139]? = some (1, 10) := rfl
theorem o_140 : oF[140]? = some (1, 10) := rfl
theorem o_141 : oF[141]? = some (1, 10) := rfl
theorem o_142 : oF[142]? = some (1, 10) := rfl
theorem o_143 : oF[143]? = some (1, 3) := rfl
theorem o_144 : oF[144]? = some (1, 3) := rfl
theorem o_145 : oF[145]? = some (0, 16) := rfl
theorem o_146 : oF[146]? = some (0, 3) := rfl
theorem o_147 : oF[147]? = some (0, 32) := rfl
theorem m_cmp_lt {x y : Int} : m_cmp x y < 0 ↔ x < y := by unfold m_cmp; split <;> (try split) <;> omega
theorem m_cmp_ge {x y : Int} : 0 ≤ m_cmp x y ↔ y ≤ x := by unfold m_cmp; split <;> (try split) <;> omega
theorem m_cmp_gt {x y : Int} : 0 < m_cmp x y ↔ y < x := by unfold m_cmp; split <;> (try split) <;> omega
theorem m_cmp_le {x y : Int} : m_cmp x y ≤ 0 ↔ x ≤ y := by unfold m_cmp; split <;> (try split) <;> omega
theorem m_cmp_eq {x y : Int} : m_cmp x y = 0 ↔ x = y := by unfold m_cmp; split <;> (try split) <;> omega
theorem ediv_bd {x y hi : Int} (hx : 0 ≤ x) (hy : 0 < y) (hh : x ≤ hi) : 0 ≤ x / y ∧ x / y ≤ hi := ⟨Int.ediv_nonneg hx (by omega), Int.le_trans (Int.ediv_le_self y hx) hh⟩
def m_mask : List Bool → List (Option m_V) → List (Option m_V)
  | b :: bs, v :: vs => (if b then v else none) :: m_mask bs vs
  | _, _ => []
theorem m_mask_at : ∀ (mask : List Bool) (ls : List (Option m_V)) (i : Nat) (v : m_V), (m_mask mask ls)[i]? = some (some v) → ls[i]? = some (some v)
  | [], ls, i, v, h => by simp [m_mask] at h
  | b :: bs, [], i, v, h => by simp [m_mask] at h
  | b :: bs, a :: as, 0, v, h => by
    cases b
    · simp [m_mask] at h
    · simpa [m_mask] using h
  | b :: bs, a :: as, i + 1, v, h => by
    simp only [m_mask, List.getElem?_cons_succ] at h ⊢
    exact m_mask_at bs as i v h
theorem z_mask {M : m_M} {pc : Nat} {ls ls' : List (Option m_V)} {st : List m_V} {h : m_H} {Q : m_W → Option m_V → m_H → Prop} (mask : List Bool) (e : m_mask mask ls = ls') (k : m_Z oF M pc ls' st h Q) : m_Z oF M pc ls st h Q := by
  subst e
  exact z_sub (fun i v q => m_mask_at mask ls i v q) k
theorem m_and_k (x : Int) {c : Int} (k : Nat) (hm : (Int32.ofInt c).toBitVec.toNat = 2 ^ k - 1) (hk : k ≤ 30) : 0 ≤ m_and x c ∧ m_and x c ≤ (2 : Int) ^ k - 1 := by
  obtain ⟨j, hj, e⟩ := pk_andE (Int32.ofInt x) k hm
  have h1 : (2 : Nat) ^ k ≤ 2 ^ 30 := Nat.pow_le_pow_right (by decide) hk
  unfold m_and
  rw [e, nI_toInt (by omega)]
  have h2 : ((2 : Nat) ^ k : Nat) = ((2 : Int) ^ k) := by simp
  omega
theorem m_and_1 (x : Int) : 0 ≤ m_and x 1 ∧ m_and x 1 ≤ 1 := m_and_k x 1 (by decide) (by decide)
theorem m_and_3 (x : Int) : 0 ≤ m_and x 3 ∧ m_and x 3 ≤ 3 := m_and_k x 2 (by decide) (by decide)
theorem m_and_63 (x : Int) : 0 ≤ m_and x 63 ∧ m_and x 63 ≤ 63 := m_and_k x 6 (by decide) (by decide)
theorem m_and_255 (x : Int) : 0 ≤ m_and x 255 ∧ m_and x 255 ≤ 255 := m_and_k x 8 (by decide) (by decide)
theorem m_ushr_24 (x : Int) : 0 ≤ m_ushr x 24 ∧ m_ushr x 24 ≤ 255 := by
  have h1 := pk_ushr (Int32.ofInt x) (Int32.ofInt 24) 24 (by decide)
  unfold m_ushr
  generalize ((Int32.ofInt x).toUInt32 >>> ((Int32.ofInt 24).toUInt32 &&& Int32.toUInt32 31)).toInt32 = z at h1 ⊢
  have h2 : (Int32.ofInt x).toBitVec.toNat < 2 ^ 32 := BitVec.isLt _
  have h3 : z.toBitVec.toNat < 256 := by rw [h1]; omega
  have h4 : z.toInt = (z.toBitVec.toNat : Int) := by
    rw [← Int32.toInt_toBitVec, BitVec.toInt_eq_toNat_of_lt (by omega)]
  omega
section ZE
variable {M : m_M} {ls : List (Option m_V)} {st : List m_V} {h : m_H} {Q : m_W → Option m_V → m_H → Prop}
theorem z_ialdE (pc : Nat) {k n : Nat} {i x : Int} (d : decode M.2.2.1 pc = .ok (.iaload, 1)) (hk : oF[k]? = some (0, n)) (h0 : 0 ≤ i) (h1 : i < n) (e : h k i.toNat = x) (kk : m_Z oF M (pc + 1) ls (mI x :: st) h Q) : m_Z oF M pc ls (mI i :: mR k :: st) h Q := z_iald pc d hk h0 h1 (by rw [e]; exact kk)
theorem z_zaldE (pc : Nat) {k n : Nat} {i x : Int} (d : decode M.2.2.1 pc = .ok (.baload, 1)) (hk : oF[k]? = some (2, n)) (h0 : 0 ≤ i) (h1 : i < n) (e : h k i.toNat = x) (kk : m_Z oF M (pc + 1) ls (mI x :: st) h Q) : m_Z oF M pc ls (mI i :: mR k :: st) h Q := z_zald pc d hk h0 h1 (by rw [e]; exact kk)
theorem z_laldE (pc : Nat) {k n : Nat} {i x : Int} (d : decode M.2.2.1 pc = .ok (.laload, 1)) (hk : oF[k]? = some (1, n)) (h0 : 0 ≤ i) (h1 : i < n) (e : h k i.toNat = x) (kk : m_Z oF M (pc + 1) ls (mJ x :: st) h Q) : m_Z oF M pc ls (mI i :: mR k :: st) h Q := z_lald pc d hk h0 h1 (by rw [e]; exact kk)
end ZE
theorem gw_w {h : m_H} (G : GI h) {i : Int} (h1 : 10 ≤ i) (h2 : i ≤ 41) : (-1 : Int) ≤ h 110 i.toNat ∧ h 110 i.toNat ≤ 3 := by
  have h3 := g_110 G (j := i.toNat) (by omega)
  have e1 : r_lo i.toNat = -1 := by unfold r_lo; rw [if_neg (by omega), if_neg (by omega), if_pos (by omega)]
  have e2 : r_hi i.toNat = 3 := by unfold r_hi; rw [if_neg (by omega), if_neg (by omega), if_neg (by omega), if_pos (by omega)]
  rw [e1, e2] at h3; exact h3
theorem uw_w {h : m_H} (G : GI h) {i v : Int} (h1 : 10 ≤ i) (h2 : i ≤ 41) (h3 : (-1 : Int) ≤ v) (h4 : v ≤ 3) : GI (m_up h 110 i.toNat v) := by
  have e1 : r_lo i.toNat = -1 := by unfold r_lo; rw [if_neg (by omega), if_neg (by omega), if_pos (by omega)]
  have e2 : r_hi i.toNat = 3 := by unfold r_hi; rw [if_neg (by omega), if_neg (by omega), if_neg (by omega), if_pos (by omega)]
  exact u_110 G (by rw [e1]; exact h3) (by rw [e2]; exact h4)
theorem gw_c {h : m_H} (G : GI h) {i : Int} (h1 : 42 ≤ i) (h2 : i ≤ 47) : (-1 : Int) ≤ h 110 i.toNat ∧ h 110 i.toNat ≤ 31 := by
  have h3 := g_110 G (j := i.toNat) (by omega)
  have e1 : r_lo i.toNat = -1 := by unfold r_lo; rw [if_neg (by omega), if_neg (by omega), if_pos (by omega)]
  have e2 : r_hi i.toNat = 31 := by unfold r_hi; rw [if_neg (by omega), if_neg (by omega), if_neg (by omega), if_neg (by omega), if_pos (by omega)]
  rw [e1, e2] at h3; exact h3
theorem uw_c {h : m_H} (G : GI h) {i v : Int} (h1 : 42 ≤ i) (h2 : i ≤ 47) (h3 : (-1 : Int) ≤ v) (h4 : v ≤ 31) : GI (m_up h 110 i.toNat v) := by
  have e1 : r_lo i.toNat = -1 := by unfold r_lo; rw [if_neg (by omega), if_neg (by omega), if_pos (by omega)]
  have e2 : r_hi i.toNat = 31 := by unfold r_hi; rw [if_neg (by omega), if_neg (by omega), if_neg (by omega), if_neg (by omega), if_pos (by omega)]
  exact u_110 G (by rw [e1]; exact h3) (by rw [e2]; exact h4)
theorem gw_s {h : m_H} (G : GI h) {i : Int} (h1 : 48 ≤ i) (h2 : i ≤ 59) : (0 : Int) ≤ h 110 i.toNat ∧ h 110 i.toNat ≤ 3 := by
  have h3 := g_110 G (j := i.toNat) (by omega)
  have e1 : r_lo i.toNat = 0 := by unfold r_lo; rw [if_neg (by omega), if_neg (by omega), if_neg (by omega), if_pos (by omega)]
  have e2 : r_hi i.toNat = 3 := by unfold r_hi; rw [if_neg (by omega), if_neg (by omega), if_neg (by omega), if_neg (by omega), if_neg (by omega), if_pos (by omega)]
  rw [e1, e2] at h3; exact h3
theorem uw_s {h : m_H} (G : GI h) {i v : Int} (h1 : 48 ≤ i) (h2 : i ≤ 59) (h3 : (0 : Int) ≤ v) (h4 : v ≤ 3) : GI (m_up h 110 i.toNat v) := by
  have e1 : r_lo i.toNat = 0 := by unfold r_lo; rw [if_neg (by omega), if_neg (by omega), if_neg (by omega), if_pos (by omega)]
  have e2 : r_hi i.toNat = 3 := by unfold r_hi; rw [if_neg (by omega), if_neg (by omega), if_neg (by omega), if_neg (by omega), if_neg (by omega), if_pos (by omega)]
  exact u_110 G (by rw [e1]; exact h3) (by rw [e2]; exact h4)
theorem gw_l {h : m_H} (G : GI h) {i : Int} (h1 : 60 ≤ i) (h2 : i ≤ 75) : (1 : Int) ≤ h 110 i.toNat ∧ h 110 i.toNat ≤ 9999 := by
  have h3 := g_110 G (j := i.toNat) (by omega)
  have e1 : r_lo i.toNat = 1 := by unfold r_lo; rw [if_neg (by omega), if_neg (by omega), if_neg (by omega), if_neg (by omega), if_pos (by omega)]
  have e2 : r_hi i.toNat = 9999 := by unfold r_hi; rw [if_neg (by omega), if_neg (by omega), if_neg (by omega), if_neg (by omega), if_neg (by omega), if_neg (by omega), if_pos (by omega)]
  rw [e1, e2] at h3; exact h3
theorem uw_l {h : m_H} (G : GI h) {i v : Int} (h1 : 60 ≤ i) (h2 : i ≤ 75) (h3 : (1 : Int) ≤ v) (h4 : v ≤ 9999) : GI (m_up h 110 i.toNat v) := by
  have e1 : r_lo i.toNat = 1 := by unfold r_lo; rw [if_neg (by omega), if_neg (by omega), if_neg (by omega), if_neg (by omega), if_pos (by omega)]
  have e2 : r_hi i.toNat = 9999 := by unfold r_hi; rw [if_neg (by omega), if_neg (by omega), if_neg (by omega), if_neg (by omega), if_neg (by omega), if_neg (by omega), if_pos (by omega)]
  exact u_110 G (by rw [e1]; exact h3) (by rw [e2]; exact h4)
theorem gw_0 {h : m_H} (G : GI h) : (0 : Int) ≤ h 110 (0 : Int).toNat ∧ h 110 (0 : Int).toNat ≤ 24 := g_110 G (j := 0) (by decide)
theorem uw_0 {h : m_H} (G : GI h) {v : Int} (h3 : (0 : Int) ≤ v) (h4 : v ≤ 24) : GI (m_up h 110 (0 : Int).toNat v) := u_110 G (j := 0) h3 h4
theorem gw_1 {h : m_H} (G : GI h) : (0 : Int) ≤ h 110 (1 : Int).toNat ∧ h 110 (1 : Int).toNat ≤ 6 := g_110 G (j := 1) (by decide)
theorem uw_1 {h : m_H} (G : GI h) {v : Int} (h3 : (0 : Int) ≤ v) (h4 : v ≤ 6) : GI (m_up h 110 (1 : Int).toNat v) := u_110 G (j := 1) h3 h4
theorem gw_e0 {h : m_H} (G : GI h) {i e : Int} (hi : i = 80 + 5 * e + 0) (h1 : 0 ≤ e) (h2 : e ≤ 23) : (0 : Int) ≤ h 110 i.toNat ∧ h 110 i.toNat ≤ 5 := by
  have h3 := g_110 G (j := i.toNat) (by omega)
  have e1 : r_lo i.toNat = 0 := by unfold r_lo; rw [if_neg (by omega), if_neg (by omega), if_neg (by omega), if_neg (by omega), if_neg (by omega), if_neg (by omega)]
  have e2 : r_hi i.toNat = 5 := by unfold r_hi; rw [if_neg (by omega), if_neg (by omega), if_neg (by omega), if_neg (by omega), if_neg (by omega), if_neg (by omega), if_neg (by omega), if_neg (by omega), if_pos (by omega)]
  rw [e1, e2] at h3; exact h3
theorem uw_e0 {h : m_H} (G : GI h) {i e v : Int} (hi : i = 80 + 5 * e + 0) (h1 : 0 ≤ e) (h2 : e ≤ 23) (h3 : (0 : Int) ≤ v) (h4 : v ≤ 5) : GI (m_up h 110 i.toNat v) := by
  have e1 : r_lo i.toNat = 0 := by unfold r_lo; rw [if_neg (by omega), if_neg (by omega), if_neg (by omega), if_neg (by omega), if_neg (by omega), if_neg (by omega)]
  have e2 : r_hi i.toNat = 5 := by unfold r_hi; rw [if_neg (by omega), if_neg (by omega), if_neg (by omega), if_neg (by omega), if_neg (by omega), if_neg (by omega), if_neg (by omega), if_neg (by omega), if_pos (by omega)]
  exact u_110 G (by rw [e1]; exact h3) (by rw [e2]; exact h4)
theorem gw_e1 {h : m_H} (G : GI h) {i e : Int} (hi : i = 80 + 5 * e + 1) (h1 : 0 ≤ e) (h2 : e ≤ 23) : (0 : Int) ≤ h 110 i.toNat ∧ h 110 i.toNat ≤ 31 := by
  have h3 := g_110 G (j := i.toNat) (by omega)
  have e1 : r_lo i.toNat = 0 := by unfold r_lo; rw [if_neg (by omega), if_neg (by omega), if_neg (by omega), if_neg (by omega), if_neg (by omega), if_neg (by omega)]
  have e2 : r_hi i.toNat = 31 := by unfold r_hi; rw [if_neg (by omega), if_neg (by omega), if_neg (by omega), if_neg (by omega), if_neg (by omega), if_neg (by omega), if_neg (by omega), if_neg (by omega), if_neg (by omega), if_pos (by omega)]
  rw [e1, e2] at h3; exact h3
theorem uw_e1 {h : m_H} (G : GI h) {i e v : Int} (hi : i = 80 + 5 * e + 1) (h1 : 0 ≤ e) (h2 : e ≤ 23) (h3 : (0 : Int) ≤ v) (h4 : v ≤ 31) : GI (m_up h 110 i.toNat v) := by
  have e1 : r_lo i.toNat = 0 := by unfold r_lo; rw [if_neg (by omega), if_neg (by omega), if_neg (by omega), if_neg (by omega), if_neg (by omega), if_neg (by omega)]
  have e2 : r_hi i.toNat = 31 := by unfold r_hi; rw [if_neg (by omega), if_neg (by omega), if_neg (by omega), if_neg (by omega), if_neg (by omega), if_neg (by omega), if_neg (by omega), if_neg (by omega), if_neg (by omega), if_pos (by omega)]
  exact u_110 G (by rw [e1]; exact h3) (by rw [e2]; exact h4)
theorem gw_e2 {h : m_H} (G : GI h) {i e : Int} (hi : i = 80 + 5 * e + 2) (h1 : 0 ≤ e) (h2 : e ≤ 23) : (0 : Int) ≤ h 110 i.toNat ∧ h 110 i.toNat ≤ 99 := by
  have h3 := g_110 G (j := i.toNat) (by omega)
  have e1 : r_lo i.toNat = 0 := by unfold r_lo; rw [if_neg (by omega), if_neg (by omega), if_neg (by omega), if_neg (by omega), if_neg (by omega), if_neg (by omega)]
  have e2 : r_hi i.toNat = 99 := by unfold r_hi; rw [if_neg (by omega), if_neg (by omega), if_neg (by omega), if_neg (by omega), if_neg (by omega), if_neg (by omega), if_neg (by omega), if_neg (by omega), if_neg (by omega), if_neg (by omega), if_pos (by omega)]
  rw [e1, e2] at h3; exact h3
theorem uw_e2 {h : m_H} (G : GI h) {i e v : Int} (hi : i = 80 + 5 * e + 2) (h1 : 0 ≤ e) (h2 : e ≤ 23) (h3 : (0 : Int) ≤ v) (h4 : v ≤ 99) : GI (m_up h 110 i.toNat v) := by
  have e1 : r_lo i.toNat = 0 := by unfold r_lo; rw [if_neg (by omega), if_neg (by omega), if_neg (by omega), if_neg (by omega), if_neg (by omega), if_neg (by omega)]
  have e2 : r_hi i.toNat = 99 := by unfold r_hi; rw [if_neg (by omega), if_neg (by omega), if_neg (by omega), if_neg (by omega), if_neg (by omega), if_neg (by omega), if_neg (by omega), if_neg (by omega), if_neg (by omega), if_neg (by omega), if_pos (by omega)]
  exact u_110 G (by rw [e1]; exact h3) (by rw [e2]; exact h4)
theorem gw_e3 {h : m_H} (G : GI h) {i e : Int} (hi : i = 80 + 5 * e + 3) (h1 : 0 ≤ e) (h2 : e ≤ 23) : (0 : Int) ≤ h 110 i.toNat ∧ h 110 i.toNat ≤ 2 := by
  have h3 := g_110 G (j := i.toNat) (by omega)
  have e1 : r_lo i.toNat = 0 := by unfold r_lo; rw [if_neg (by omega), if_neg (by omega), if_neg (by omega), if_neg (by omega), if_neg (by omega), if_neg (by omega)]
  have e2 : r_hi i.toNat = 2 := by unfold r_hi; rw [if_neg (by omega), if_neg (by omega), if_neg (by omega), if_neg (by omega), if_neg (by omega), if_neg (by omega), if_neg (by omega), if_neg (by omega), if_neg (by omega), if_neg (by omega), if_neg (by omega), if_pos (by omega)]
  rw [e1, e2] at h3; exact h3
theorem uw_e3 {h : m_H} (G : GI h) {i e v : Int} (hi : i = 80 + 5 * e + 3) (h1 : 0 ≤ e) (h2 : e ≤ 23) (h3 : (0 : Int) ≤ v) (h4 : v ≤ 2) : GI (m_up h 110 i.toNat v) := by
  have e1 : r_lo i.toNat = 0 := by unfold r_lo; rw [if_neg (by omega), if_neg (by omega), if_neg (by omega), if_neg (by omega), if_neg (by omega), if_neg (by omega)]
  have e2 : r_hi i.toNat = 2 := by unfold r_hi; rw [if_neg (by omega), if_neg (by omega), if_neg (by omega), if_neg (by omega), if_neg (by omega), if_neg (by omega), if_neg (by omega), if_neg (by omega), if_neg (by omega), if_neg (by omega), if_neg (by omega), if_pos (by omega)]
  exact u_110 G (by rw [e1]; exact h3) (by rw [e2]; exact h4)
theorem gw_e4 {h : m_H} (G : GI h) {i e : Int} (hi : i = 80 + 5 * e + 4) (h1 : 0 ≤ e) (h2 : e ≤ 23) : (0 : Int) ≤ h 110 i.toNat ∧ h 110 i.toNat ≤ 1 := by
  have h3 := g_110 G (j := i.toNat) (by omega)
  have e1 : r_lo i.toNat = 0 := by unfold r_lo; rw [if_neg (by omega), if_neg (by omega), if_neg (by omega), if_neg (by omega), if_neg (by omega), if_neg (by omega)]
  have e2 : r_hi i.toNat = 1 := by unfold r_hi; rw [if_neg (by omega), if_neg (by omega), if_neg (by omega), if_neg (by omega), if_neg (by omega), if_neg (by omega), if_neg (by omega), if_neg (by omega), if_neg (by omega), if_neg (by omega), if_neg (by omega), if_neg (by omega)]
  rw [e1, e2] at h3; exact h3
theorem uw_e4 {h : m_H} (G : GI h) {i e v : Int} (hi : i = 80 + 5 * e + 4) (h1 : 0 ≤ e) (h2 : e ≤ 23) (h3 : (0 : Int) ≤ v) (h4 : v ≤ 1) : GI (m_up h 110 i.toNat v) := by
  have e1 : r_lo i.toNat = 0 := by unfold r_lo; rw [if_neg (by omega), if_neg (by omega), if_neg (by omega), if_neg (by omega), if_neg (by omega), if_neg (by omega)]
  have e2 : r_hi i.toNat = 1 := by unfold r_hi; rw [if_neg (by omega), if_neg (by omega), if_neg (by omega), if_neg (by omega), if_neg (by omega), if_neg (by omega), if_neg (by omega), if_neg (by omega), if_neg (by omega), if_neg (by omega), if_neg (by omega), if_neg (by omega)]
  exact u_110 G (by rw [e1]; exact h3) (by rw [e2]; exact h4)
theorem gw_e {h : m_H} (G : GI h) {i : Int} (h1 : 80 ≤ i) (h2 : i ≤ 199) : (0 : Int) ≤ h 110 i.toNat ∧ h 110 i.toNat ≤ 99 := by
  have h3 := g_110 G (j := i.toNat) (by omega)
  have e1 : r_lo i.toNat = 0 := by unfold r_lo; rw [if_neg (by omega), if_neg (by omega), if_neg (by omega), if_neg (by omega), if_neg (by omega), if_neg (by omega)]
  have e2 : r_hi i.toNat ≤ 99 := by unfold r_hi; repeat' split <;> omega
  omega
theorem rb_w {i v : Int} (h1 : 10 ≤ i) (h2 : i ≤ 41) (h3 : (-1 : Int) ≤ v) (h4 : v ≤ 3) : r_lo i.toNat ≤ v ∧ v ≤ r_hi i.toNat := by
  have e1 : r_lo i.toNat = -1 := by unfold r_lo; rw [if_neg (by omega), if_neg (by omega), if_pos (by omega)]
  have e2 : r_hi i.toNat = 3 := by unfold r_hi; rw [if_neg (by omega), if_neg (by omega), if_neg (by omega), if_pos (by omega)]
  omega
theorem rb_c {i v : Int} (h1 : 42 ≤ i) (h2 : i ≤ 47) (h3 : (-1 : Int) ≤ v) (h4 : v ≤ 31) : r_lo i.toNat ≤ v ∧ v ≤ r_hi i.toNat := by
  have e1 : r_lo i.toNat = -1 := by unfold r_lo; rw [if_neg (by omega), if_neg (by omega), if_pos (by omega)]
  have e2 : r_hi i.toNat = 31 := by unfold r_hi; rw [if_neg (by omega), if_neg (by omega), if_neg (by omega), if_neg (by omega), if_pos (by omega)]
  omega
theorem rb_l {i v : Int} (h1 : 60 ≤ i) (h2 : i ≤ 75) (h3 : (1 : Int) ≤ v) (h4 : v ≤ 9999) : r_lo i.toNat ≤ v ∧ v ≤ r_hi i.toNat := by
  have e1 : r_lo i.toNat = 1 := by unfold r_lo; rw [if_neg (by omega), if_neg (by omega), if_neg (by omega), if_neg (by omega), if_pos (by omega)]
  have e2 : r_hi i.toNat = 9999 := by unfold r_hi; rw [if_neg (by omega), if_neg (by omega), if_neg (by omega), if_neg (by omega), if_neg (by omega), if_neg (by omega), if_pos (by omega)]
  omega
theorem rb_e4 {i e v : Int} (hi : i = 80 + 5 * e + 4) (h1 : 0 ≤ e) (h2 : e ≤ 23) (h3 : (0 : Int) ≤ v) (h4 : v ≤ 1) : r_lo i.toNat ≤ v ∧ v ≤ r_hi i.toNat := by
  have e1 : r_lo i.toNat = 0 := by unfold r_lo; rw [if_neg (by omega), if_neg (by omega), if_neg (by omega), if_neg (by omega), if_neg (by omega), if_neg (by omega)]
  have e2 : r_hi i.toNat = 1 := by unfold r_hi; rw [if_neg (by omega), if_neg (by omega), if_neg (by omega), if_neg (by omega), if_neg (by omega), if_neg (by omega), if_neg (by omega), if_neg (by omega), if_neg (by omega), if_neg (by omega), if_neg (by omega), if_neg (by omega)]
  omega
theorem le_e {a x c : Int} (e : a = x) (h : x ≤ c) : a ≤ c := by omega
theorem ux_111 {h : m_H} (G : GI h) {j : Nat} {v : Int} (hv : r_lo (j % 200) ≤ v ∧ v ≤ r_hi (j % 200)) : GI (m_up h 111 j v) := by
  refine ⟨fun a p ha b hb => ?_, fun a ha z i hi => ?_⟩
  · by_cases hab : a = 111 ∧ b = j
    · obtain ⟨rfl, rfl⟩ := hab
      cases (rfl : g_bt[111]? = some (400, g_p111)).symm.trans ha
      trivial
    · rw [m_up_ne hab]; exact G.1 a p ha b hb
  · rw [m_up_ne1 (by decide)] at z
    by_cases hj : 200 * a + i = j
    · rw [hj, m_up_eq]
      have : j % 200 = i := by omega
      rw [this] at hv
      exact hv
    · rw [m_up_ne (fun q => hj q.2)]
      exact G.2 a ha z i hi
theorem ux_112 {h : m_H} (G : GI h) {j : Nat} {v : Int} (h1 : 0 ≤ v) (h2 : v ≤ 1) (hv : ∀ i, i < 200 → r_lo i ≤ h 111 (200 * j + i) ∧ h 111 (200 * j + i) ≤ r_hi i) : GI (m_up h 112 j v) := by
  refine ⟨fun a p ha b hb => ?_, fun a ha z i hi => ?_⟩
  · by_cases hab : a = 112 ∧ b = j
    · obtain ⟨rfl, rfl⟩ := hab
      cases (rfl : g_bt[112]? = some (2, g_p112)).symm.trans ha
      rw [m_up_eq]; exact ⟨h1, h2⟩
    · rw [m_up_ne hab]; exact G.1 a p ha b hb
  · rw [m_up_ne1 (by decide)]
    by_cases hj : a = j
    · subst hj; exact hv i hi
    · rw [m_up_ne (fun q => hj q.2)] at z
      exact G.2 a ha z i hi
theorem im_step {h h' : m_H} {a l x : Int} (ha : 0 ≤ a) (h1 : 0 ≤ l) (h2 : l ≤ 199) (E : h' = m_up h 111 (200 * a + l).toNat x) (hx : r_lo l.toNat ≤ x ∧ x ≤ r_hi l.toNat) (I : ∀ j : Nat, (j : Int) < l → r_lo j ≤ h 111 (200 * a.toNat + j) ∧ h 111 (200 * a.toNat + j) ≤ r_hi j) : ∀ j : Nat, (j : Int) < l + 1 → r_lo j ≤ h' 111 (200 * a.toNat + j) ∧ h' 111 (200 * a.toNat + j) ≤ r_hi j := by
  intro j hj
  by_cases hjl : (j : Int) = l
  · have e1 : 200 * a.toNat + j = (200 * a + l).toNat := by omega
    have e2 : l.toNat = j := by omega
    rw [e1, E, m_up_eq]
    rw [e2] at hx
    exact hx
  · rw [E, m_up_ne (fun q => by have := q.2; omega)]
    exact I j (by omega)
theorem bk_b {h : m_H} (G : GI h) {a l : Int} (h1 : 0 ≤ a) (h2 : a ≤ 1) (h3 : 0 ≤ l) (h4 : l ≤ 199) (k : h 112 a.toNat ≠ 0) : r_lo l.toNat ≤ h 111 (200 * a + l).toNat ∧ h 111 (200 * a + l).toNat ≤ r_hi l.toNat := by
  have h5 := G.2 a.toNat (by omega) k l.toNat (by omega)
  have e1 : (200 * a + l).toNat = 200 * a.toNat + l.toNat := by omega
  rw [e1]; exact h5
theorem eq_ad {a b t c : Int} (f : a = b + c) (e : b = t) : a = t + c := by omega
theorem z_iincW {M : m_M} {ls : List (Option m_V)} {st : List m_V} {h : m_H} {Q : m_W → Option m_V → m_H → Prop} (pc : Nat) {n : Nat} {i x : Int} (d : decode M.2.2.1 pc = .ok (.iinc n i, 3)) (hn : n < M.2.2.2.1) (hl : ls[n]? = some (some (mI x))) (hi : m_32 i) (k : ∀ y : Int, m_32 y → m_Z oF M (pc + 3) (m_st1 ls n (mI y)) st h Q) : m_Z oF M pc ls st h Q := z_iinc pc d hn hl hi rfl (k _ (m_w_ok _))
theorem z_ls {M : m_M} {pc : Nat} {ls ls' : List (Option m_V)} {st : List m_V} {h : m_H} {Q : m_W → Option m_V → m_H → Prop} (e : ls = ls') (k : m_Z oF M pc ls' st h Q) : m_Z oF M pc ls st h Q := by subst e; exact k
theorem mm_ini : Cond.initialized "java/lang/Math" ∈ m_G := m_inG 101 (by decide +kernel) rfl
theorem mm_maxI_s : Cond.static Lib.Math.max.name ∈ m_G := m_inG 238 (by decide +kernel) rfl
theorem mm_maxI_c : Cond.code Lib.Math.max.name Lib.Math.max.code 2 (some .int) ∈ m_G := m_inG 239 (by decide +kernel) rfl
theorem ml_X11_447 : Cond.methodLink RX11 447 Lib.Math.max.name ∈ m_G := m_inG 237 (by decide +kernel) rfl
theorem ml_X9_112 : Cond.methodLink RX9 112 Lib.Math.max.name ∈ m_G := m_inG 763 (by decide +kernel) rfl
theorem ml_X7_78 : Cond.methodLink RX7 78 Lib.Math.max.name ∈ m_G := m_inG 980 (by decide +kernel) rfl
theorem ml_X0_48 : Cond.methodLink RX0 48 Lib.Math.max.name ∈ m_G := m_inG 1020 (by decide +kernel) rfl
theorem mm_minI_s : Cond.static Lib.Math.min.name ∈ m_G := m_inG 675 (by decide +kernel) rfl
theorem mm_minI_c : Cond.code Lib.Math.min.name Lib.Math.min.code 2 (some .int) ∈ m_G := m_inG 676 (by decide +kernel) rfl
theorem ml_X1_143 : Cond.methodLink RX1 143 Lib.Math.min.name ∈ m_G := m_inG 674 (by decide +kernel) rfl
theorem ml_X0_42 : Cond.methodLink RX0 42 Lib.Math.min.name ∈ m_G := m_inG 1019 (by decide +kernel) rfl
theorem ml_X3_52 : Cond.methodLink RX3 52 Lib.Math.min.name ∈ m_G := m_inG 1066 (by decide +kernel) rfl
theorem mm_maxJ_s : Cond.static Lib.MathLoose.max_long.x ∈ m_G := m_inG 957 (by decide +kernel) rfl
theorem mm_maxJ_c : Cond.code Lib.MathLoose.max_long.x Lib.MathLoose.max_long.code 4 (some .long) ∈ m_G := m_inG 958 (by decide +kernel) rfl
theorem ml_X7_54 : Cond.methodLink RX7 54 Lib.MathLoose.max_long.x ∈ m_G := m_inG 956 (by decide +kernel) rfl
theorem mm_minJ_s : Cond.static Lib.MathLoose.min_long.x ∈ m_G := m_inG 850 (by decide +kernel) rfl
theorem mm_minJ_c : Cond.code Lib.MathLoose.min_long.x Lib.MathLoose.min_long.code 4 (some .long) ∈ m_G := m_inG 851 (by decide +kernel) rfl
theorem ml_X11_438 : Cond.methodLink RX11 438 Lib.MathLoose.min_long.x ∈ m_G := m_inG 849 (by decide +kernel) rfl
theorem ml_X7_59 : Cond.methodLink RX7 59 Lib.MathLoose.min_long.x ∈ m_G := m_inG 959 (by decide +kernel) rfl
theorem ac_n : Cond.native arraycopyName ∈ m_G := m_inG 593 (by decide +kernel) rfl
theorem ac_s : Cond.static arraycopyName ∈ m_G := m_inG 592 (by decide +kernel) rfl
theorem ac_i : Cond.initialized "java/lang/System" ∈ m_G := m_inG 111 (by decide +kernel) rfl
theorem ml_X4_39 : Cond.methodLink RX4 39 arraycopyName ∈ m_G := m_inG 591 (by decide +kernel) rfl
section ZM
variable {M : m_M} {ls : List (Option m_V)} {rest : List m_V} {h : m_H} {Q : m_W → Option m_V → m_H → Prop}
theorem m_csE (E : m_E) (rest : List m_V) : ((rest.map (m_v E)).map fun v => v.category).sum = m_cs rest := by
  rw [List.map_map]
  have e1 : ((fun v : Value => v.category) ∘ m_v E) = fun v => if m_isL v then 2 else 1 := by funext v; exact m_cat E v
  rw [e1]; rfl
theorem z_maxI (pc : Nat) {index : Nat} {x y : Int} (d : decode M.2.2.1 pc = .ok (.invokestatic index, 3)) (lk : Cond.methodLink M.1 index Lib.Math.max.name ∈ m_G) (hf : 1 ≤ (m_rm M).frames) (hl : m_cs rest + 13 ≤ (m_rm M).locals) (k : m_Z oF M (pc + 3) ls (mI (if x < y then y else x) :: rest) h Q) : m_Z oF M pc ls (mI y :: mI x :: rest) h Q := by
  intro E p l e s m args below meth c QQ H locs lsR C Rt Rl L o b
  have hts := C.2.2.2.2.1
  refine va_mmax C.1 C.2.1 (by rw [L.1]; exact C.2.2.1) C.2.2.2.1 (hts _ lk) (hts _ mm_maxI_s) (hts _ mm_ini) (hts _ mm_maxI_c) hf (by rw [m_csE]; exact hl) b.2.1 b.2.2 d ?_
  have e1 : (if Int32.ofInt x < Int32.ofInt y then Int32.ofInt y else Int32.ofInt x) = Int32.ofInt (if x < y then y else x) := by
    have hxy := m_lt32 (x := x) (y := y) o.2.1 o.1
    have hyx := m_lt32 (x := y) (y := x) o.1 o.2.1
    by_cases q : x < y
    · have q2 : ¬ y < x := by omega
      simp [q, q2, hxy, hyx]
    · by_cases q2 : y < x
      · simp [q, q2, hxy, hyx]
      · have : x = y := by omega
        subst this; simp
  rw [e1]
  exact k E p l e s m args below meth c QQ H locs lsR C Rt Rl L ⟨by show m_32 _; have h1 : m_32 x := o.2.1; have h2 : m_32 y := o.1; split <;> assumption, o.2.2⟩ b
theorem z_minI (pc : Nat) {index : Nat} {x y : Int} (d : decode M.2.2.1 pc = .ok (.invokestatic index, 3)) (lk : Cond.methodLink M.1 index Lib.Math.min.name ∈ m_G) (hf : 1 ≤ (m_rm M).frames) (hl : m_cs rest + 13 ≤ (m_rm M).locals) (k : m_Z oF M (pc + 3) ls (mI (if y < x then y else x) :: rest) h Q) : m_Z oF M pc ls (mI y :: mI x :: rest) h Q := by
  intro E p l e s m args below meth c QQ H locs lsR C Rt Rl L o b
  have hts := C.2.2.2.2.1
  refine va_mmin C.1 C.2.1 (by rw [L.1]; exact C.2.2.1) C.2.2.2.1 (hts _ lk) (hts _ mm_minI_s) (hts _ mm_ini) (hts _ mm_minI_c) hf (by rw [m_csE]; exact hl) b.2.1 b.2.2 d ?_
  have e1 : (if Int32.ofInt y < Int32.ofInt x then Int32.ofInt y else Int32.ofInt x) = Int32.ofInt (if y < x then y else x) := by
    have hxy := m_lt32 (x := x) (y := y) o.2.1 o.1
    have hyx := m_lt32 (x := y) (y := x) o.1 o.2.1
    by_cases q : x < y
    · have q2 : ¬ y < x := by omega
      simp [q, q2, hxy, hyx]
    · by_cases q2 : y < x
      · simp [q, q2, hxy, hyx]
      · have : x = y := by omega
        subst this; simp
  rw [e1]
  exact k E p l e s m args below meth c QQ H locs lsR C Rt Rl L ⟨by show m_32 _; have h1 : m_32 x := o.2.1; have h2 : m_32 y := o.1; split <;> assumption, o.2.2⟩ b
theorem z_maxJ (pc : Nat) {index : Nat} {x y : Int} (d : decode M.2.2.1 pc = .ok (.invokestatic index, 3)) (lk : Cond.methodLink M.1 index Lib.MathLoose.max_long.x ∈ m_G) (hf : 1 ≤ (m_rm M).frames) (hl : m_cs rest + 15 ≤ (m_rm M).locals) (k : m_Z oF M (pc + 3) ls (mJ (if y < x then x else y) :: rest) h Q) : m_Z oF M pc ls (mJ y :: mJ x :: rest) h Q := by
  intro E p l e s m args below meth c QQ H locs lsR C Rt Rl L o b
  have hts := C.2.2.2.2.1
  refine va_mmax_long C.1 C.2.1 (by rw [L.1]; exact C.2.2.1) C.2.2.2.1 (hts _ lk) (hts _ mm_maxJ_s) (hts _ mm_ini) (hts _ mm_maxJ_c) hf (by rw [m_csE]; exact hl) b.2.1 b.2.2 d ?_
  have e1 : (if Int64.ofInt y < Int64.ofInt x then Int64.ofInt x else Int64.ofInt y) = Int64.ofInt (if y < x then x else y) := by
    have hxy := m_lt64 (x := x) (y := y) o.2.1 o.1
    have hyx := m_lt64 (x := y) (y := x) o.1 o.2.1
    by_cases q : x < y
    · have q2 : ¬ y < x := by omega
      simp [q, q2, hxy, hyx]
    · by_cases q2 : y < x
      · simp [q, q2, hxy, hyx]
      · have : x = y := by omega
        subst this; simp
  rw [e1]
  exact k E p l e s m args below meth c QQ H locs lsR C Rt Rl L ⟨by show m_64 _; have h1 : m_64 x := o.2.1; have h2 : m_64 y := o.1; split <;> assumption, o.2.2⟩ b
theorem z_minJ (pc : Nat) {index : Nat} {x y : Int} (d : decode M.2.2.1 pc = .ok (.invokestatic index, 3)) (lk : Cond.methodLink M.1 index Lib.MathLoose.min_long.x ∈ m_G) (hf : 1 ≤ (m_rm M).frames) (hl : m_cs rest + 15 ≤ (m_rm M).locals) (k : m_Z oF M (pc + 3) ls (mJ (if y < x then y else x) :: rest) h Q) : m_Z oF M pc ls (mJ y :: mJ x :: rest) h Q := by
  intro E p l e s m args below meth c QQ H locs lsR C Rt Rl L o b
  have hts := C.2.2.2.2.1
  refine va_mmin_long C.1 C.2.1 (by rw [L.1]; exact C.2.2.1) C.2.2.2.1 (hts _ lk) (hts _ mm_minJ_s) (hts _ mm_ini) (hts _ mm_minJ_c) hf (by rw [m_csE]; exact hl) b.2.1 b.2.2 d ?_
  have e1 : (if Int64.ofInt y < Int64.ofInt x then Int64.ofInt y else Int64.ofInt x) = Int64.ofInt (if y < x then y else x) := by
    have hxy := m_lt64 (x := x) (y := y) o.2.1 o.1
    have hyx := m_lt64 (x := y) (y := x) o.1 o.2.1
    by_cases q : x < y
    · have q2 : ¬ y < x := by omega
      simp [q, q2, hxy, hyx]
    · by_cases q2 : y < x
      · simp [q, q2, hxy, hyx]
      · have : x = y := by omega
        subst this; simp
  rw [e1]
  exact k E p l e s m args below meth c QQ H locs lsR C Rt Rl L ⟨by show m_64 _; have h1 : m_64 x := o.2.1; have h2 : m_64 y := o.1; split <;> assumption, o.2.2⟩ b
end ZM
def m_cp (h : m_H) (k0 k1 n : Nat) : m_H := fun a b => if a = k1 ∧ b < n then h k0 b else h a b
theorem m_cp_row {h : m_H} {k0 k1 n a : Nat} (q : a ≠ k1) : m_cp h k0 k1 n a = h a := by funext b; simp [m_cp, q]
theorem z_copy {M : m_M} {ls : List (Option m_V)} {rest : List m_V} {h : m_H} {Q : m_W → Option m_V → m_H → Prop} (pc : Nat) {index k0 k1 n : Nat} (d : decode M.2.2.1 pc = .ok (.invokestatic index, 3)) (lk : Cond.methodLink M.1 index arraycopyName ∈ m_G) (hk0 : oF[k0]? = some (0, n)) (hk1 : oF[k1]? = some (0, n)) (hn : n ≤ 1000) (hf : 1 ≤ (m_rm M).frames) (hl : m_cs rest + (nativeFrameWords "java/lang/System" "arraycopy" 5 + 11) ≤ (m_rm M).locals)
    (k : m_Z oF M (pc + 3) ls rest (m_cp h k0 k1 n) Q) : m_Z oF M pc ls (mI n :: mI 0 :: mR k1 :: mI 0 :: mR k0 :: rest) h Q := by
  intro E p l e s m args below meth c QQ H locs lsR C Rt Rl L o b
  have hts := C.2.2.2.2.1
  have ht := (C.2.2.2.2.2.1.2 0 _ rfl).1
  have hc0 : H[E.1.1 + k0]? = some (arrV (E.2.1 0) n (fun j => .int (Int32.ofInt (h k0 j)))) := Rl.2.1 k0 _ (m_wl_at hk0)
  have hc1 : H[E.1.1 + k1]? = some (arrV (E.2.1 0) n (fun j => .int (Int32.ofInt (h k1 j)))) := Rl.2.1 k1 _ (m_wl_at hk1)
  obtain ⟨-, kk0, hkc0, cm0, hkk0⟩ := ht n (fun j => .int (Int32.ofInt (h k0 j)))
  obtain ⟨-, kk1, hkc1, cm1, hkk1⟩ := ht n (fun j => .int (Int32.ofInt (h k1 j)))
  have en : (Int32.ofInt (n : Int)).toInt = (n : Int) := m_i32 o.1
  have ec : (Int32.ofInt (n : Int)).toNatClampNeg = n := by rw [m_cn o.1]; omega
  have h3 : ¬ Int32.ofInt (n : Int) < 0 := by
    rw [show (0 : Int32) = Int32.ofInt 0 from rfl, m_lt32 o.1 m_320]; omega
  have h1 : ¬ Int32.ofInt 0 < 0 := by decide
  have h4 : (Int32.ofInt 0).toNatClampNeg + (Int32.ofInt (n : Int)).toNatClampNeg ≤ n := by rw [ec]; show 0 + n ≤ n; omega
  intro T hT X
  obtain ⟨vm', X', step⟩ := X.arraycopy C.1 C.2.2.2.1 (hts _ lk) (hts _ ac_n) (hts _ ac_s) (hts _ ac_i) (src := E.1.1 + k0) (dst := E.1.1 + k1) (cs := vp_cell (E.2.1 0) (n, .inl (fun j => Int32.ofInt (h k0 j)))) (cd := vp_cell (E.2.1 0) (n, .inl (fun j => Int32.ofInt (h k1 j)))) (srcPos := Int32.ofInt 0) (destPos := Int32.ofInt 0) (n := Int32.ofInt (n : Int)) (by rw [hT]; exact hc0) (by rw [hT]; exact hc1)
    (fun _ h => by cases h) (fun _ h => by cases h) (fun h => by cases h) (fun h => by cases h) hkc0 hkc1 hkk0 hkk1 (by simp [refKind]) h1 h1 h3
    (by rw [en]; show ¬ _ > ((arrV (E.2.1 0) n (fun j => .int (Int32.ofInt (h k0 j)))).slots.size : Int); rw [arrV_size]; simp)
    (by rw [en]; show ¬ _ > ((arrV (E.2.1 0) n (fun j => .int (Int32.ofInt (h k1 j)))).slots.size : Int); rw [arrV_size]; simp)
    (fun vm₁ _ i hi => by
      rw [ec] at hi
      have e2 : (vp_cell (E.2.1 0) (n, .inl (fun j => Int32.ofInt (h k0 j)))).slots.getD ((Int32.ofInt 0).toNatClampNeg + i) .null = .int (Int32.ofInt (h k0 i)) := by
        show (arrV (E.2.1 0) n (fun j => .int (Int32.ofInt (h k0 j)))).slots.getD _ _ = _
        rw [show (Int32.ofInt 0).toNatClampNeg = 0 from rfl, Nat.zero_add, Array.getD_eq_getD_getElem?, arrV_read _ _ hi]
        rfl
      refine ⟨?_, ?_⟩
      · rw [e2]; rfl
      · rw [e2]; exact trivial)
    (g := F0 m pc lsR ((mI n :: mI 0 :: mR k1 :: mI 0 :: mR k0 :: rest).map (m_v E))) rfl (by rw [C.2.2.1]; exact L.1) (rest := rest.map (m_v E)) rfl (by rw [C.2.1]; exact d) hf (by show 2 * 0 + _ + _ ≤ _; rw [m_csE]; omega)
  have e1 : copied (vp_cell (E.2.1 0) (n, .inl (fun j => Int32.ofInt (h k0 j)))) (vp_cell (E.2.1 0) (n, .inl (fun j => Int32.ofInt (h k1 j)))) (Int32.ofInt 0) (Int32.ofInt 0) (Int32.ofInt (n : Int)) = vp_cell (E.2.1 0) (n, .inl (va_cpy (fun j => Int32.ofInt (h k0 j)) (fun j => Int32.ofInt (h k1 j)) (Int32.ofInt 0).toNatClampNeg (Int32.ofInt 0).toNatClampNeg (Int32.ofInt (n : Int)).toNatClampNeg)) := va_copied (fun z => .int z) (E.2.1 0) (E.2.1 0) (fun j => Int32.ofInt (h k0 j)) (fun j => Int32.ofInt (h k1 j)) h4
  have e3 : va_cpy (fun j => Int32.ofInt (h k0 j)) (fun j => Int32.ofInt (h k1 j)) (Int32.ofInt 0).toNatClampNeg (Int32.ofInt 0).toNatClampNeg (Int32.ofInt (n : Int)).toNatClampNeg = fun j => Int32.ofInt (m_cp h k0 k1 n k1 j) := by
    rw [ec]
    funext j
    show (if 0 ≤ j ∧ j < 0 + n then Int32.ofInt (h k0 (0 + (j - 0))) else _) = _
    by_cases hj : j < n
    · simp [m_cp, hj]
    · simp [m_cp, hj]
  rw [e1, e3] at X' step
  have hlt : E.1.1 + k1 < H.size := (Array.getElem?_eq_some_iff.mp hc1).1
  have oq : ∀ q : Nat, q ≠ E.1.1 + k1 → (H.setIfInBounds (E.1.1 + k1) (vp_cell (E.2.1 0) (n, .inl (fun j => Int32.ofInt (m_cp h k0 k1 n k1 j)))))[q]? = H[q]? := fun q hq => by simp [Array.getElem?_setIfInBounds, Ne.symm hq]
  have hw : (m_wl E oF h).set k1 (E.1.1 + k1, m_el E (0, n) (m_cp h k0 k1 n k1)) = m_wl E oF (m_cp h k0 k1 n) := by
    apply List.ext_getElem?
    intro i
    by_cases hi : i = k1
    · subst hi
      rw [m_wl_at hk1]
      have hl2 : i < (m_wl E oF h).length := by simp [m_wl]; exact (List.getElem?_eq_some_iff.mp hk1).1
      rw [List.getElem?_set_self hl2]
    · rw [List.getElem?_set_ne (Ne.symm hi)]
      simp only [m_wl, List.getElem?_mapIdx, m_cp_row hi]
  have hR : ∀ Ls : List Loc, (∀ q ∈ Ls, q.base = E.1.1 + k1) → m_Rel E oF (m_cp h k0 k1 n) s (H.setIfInBounds (E.1.1 + k1) (vp_cell (E.2.1 0) (n, .inl (fun j => Int32.ofInt (m_cp h k0 k1 n k1 j))))) (locs ++ Ls) := by
    intro Ls hLs
    refine ⟨by simp; exact Rl.1, ?_, ?_, ?_⟩
    · rw [← hw]
      exact Rl.2.1.set (m_wl_D E oF h) (m_wl_at hk1) (show (H.setIfInBounds (E.1.1 + k1) _)[E.1.1 + k1]? = some _ by simp [Array.getElem?_setIfInBounds, hlt]) oq
    · refine ⟨by simp; exact Rl.2.2.1.1, fun q g1 g2 => ?_, fun q hq => ?_⟩
      · rw [oq q (fun e => g2 (by rw [e]; exact Nat.le_add_right _ _))]
        exact Rl.2.2.1.2.1 q g1 g2
      · rcases List.mem_append.mp hq with g | g
        · exact Rl.2.2.1.2.2 q g
        · rw [hLs q g]; exact Nat.le_add_right _ _
    · intro a q ha j
      unfold m_cp
      by_cases hab : a = k1 ∧ j < n
      · rw [if_pos hab]
        obtain ⟨rfl, -⟩ := hab
        cases hk1.symm.trans ha
        exact Rl.2.2.2 k0 _ hk0 j
      · rw [if_neg hab]; exact Rl.2.2.2 a q ha j
  obtain ⟨t, a1, b1⟩ := k E p l e s m args below meth c QQ _ _ lsR C Rt (hR _ (fun q hq => by obtain ⟨z, -, hz⟩ := List.mem_map.mp hq; rw [← hz])) L o.2.2.2.2.2 b ((T.setVm vm').setCell (E.1.1 + k1) (vp_cell (E.2.1 0) (n, .inl (fun j => Int32.ofInt (m_cp h k0 k1 n k1 j))))) (by rw [← hT]; rfl) X'
  exact ⟨t, step t a1, b1⟩
theorem GI.cp {h : m_H} {k0 k1 n : Nat} {P : Nat → Int → Prop} (G : GI h) (hk0 : g_bt[k0]? = some (n, P)) (hk1 : ∃ P1, g_bt[k1]? = some (n, P1) ∧ ∀ j x, P j x → P1 j x) (hne : k1 ≠ 111 ∧ k1 ≠ 112) : GI (m_cp h k0 k1 n) := by
  obtain ⟨P1, hk1, hP⟩ := hk1
  refine ⟨fun a p ha b hb => ?_, fun a ha z i hi => ?_⟩
  · unfold m_cp
    by_cases hab : a = k1 ∧ b < n
    · rw [if_pos hab]
      obtain ⟨rfl, hbn⟩ := hab
      cases hk1.symm.trans ha
      exact hP b _ (G.1 k0 _ hk0 b hbn)
    · rw [if_neg hab]; exact G.1 a p ha b hb
  · rw [m_cp_row (Ne.symm hne.2)] at z
    rw [m_cp_row (Ne.symm hne.1)]
    exact G.2 a ha z i hi
theorem FR.cp {cs : List Nat} {ss : List (Nat × Nat)} {h h' : m_H} {k0 k1 n : Nat} (R : FR cs ss h h') (hF : ∀ j, fr cs ss k1 j = true) : FR cs ss h (m_cp h' k0 k1 n) := by
  intro a b q
  rw [show m_cp h' k0 k1 n a b = h' a b from congrFun (m_cp_row (fun z => by subst z; rw [hF b] at q; cases q)) b]
  exact R a b q
theorem z_copyH {M : m_M} {ls : List (Option m_V)} {rest : List m_V} {h h0 : m_H} {Q : m_W → Option m_V → m_H → Prop} {cs : List Nat} {ss : List (Nat × Nat)} (pc : Nat) {index k0 k1 n : Nat} {x : Int} (d : decode M.2.2.1 pc = .ok (.invokestatic index, 3)) (lk : Cond.methodLink M.1 index arraycopyName ∈ m_G) (hk0 : oF[k0]? = some (0, n)) (hk1 : oF[k1]? = some (0, n)) (hx : x = (n : Int)) (hn : n ≤ 1000) (hf : 1 ≤ (m_rm M).frames) (hl : m_cs rest + (nativeFrameWords "java/lang/System" "arraycopy" 5 + 11) ≤ (m_rm M).locals)
    (hG : GI (m_cp h k0 k1 n)) (hR : FR cs ss h0 (m_cp h k0 k1 n)) (k : ∀ h' : m_H, h' = m_cp h k0 k1 n → GI h' → FR cs ss h0 h' → m_Z oF M (pc + 3) ls rest h' Q) : m_Z oF M pc ls (mI x :: mI 0 :: mR k1 :: mI 0 :: mR k0 :: rest) h Q := by
  subst hx
  exact z_copy pc d lk hk0 hk1 hn hf hl (k _ rfl hG hR)
theorem isB_42 {i : Int} (h1 : 0 ≤ i) (h2 : i ≤ 15) : isB (43 + i.toNat) := by
  have h3 : ∀ k, k < 16 → isBb (43 + k) = true := by decide
  exact h3 _ (by omega)
theorem isB_59 {i : Int} (h1 : 0 ≤ i) (h2 : i ≤ 15) : isB (60 + i.toNat) := by
  have h3 : ∀ k, k < 16 → isBb (60 + k) = true := by decide
  exact h3 _ (by omega)
theorem isB_76 {i : Int} (h1 : 0 ≤ i) (h2 : i ≤ 15) : isB (77 + i.toNat) := by
  have h3 : ∀ k, k < 16 → isBb (77 + k) = true := by decide
  exact h3 _ (by omega)
theorem isL_17 {i : Int} (h1 : 0 ≤ i) (h2 : i ≤ 1) : isL (18 + 8 * i.toNat) := by
  unfold isL; omega
theorem btL_1 {L : Nat} (hL : isL L) : ∃ P, g_bt[L + 1]? = some (32, P) ∧ ∀ j x, P j x ↔ (-1 : Int) ≤ x ∧ x ≤ 3 := by rcases hL with rfl | rfl | rfl | rfl <;> exact ⟨_, rfl, fun _ _ => Iff.rfl⟩
theorem cpL_1 {h : m_H} {L K : Nat} (hL : isL L) (hK : isL K) (G : GI h) : GI (m_cp h (K + 1) (L + 1) 32) := by
  obtain ⟨P, e1, q1⟩ := btL_1 hK
  obtain ⟨P1, e2, q2⟩ := btL_1 hL
  exact G.cp e1 ⟨P1, e2, fun j x z => (q2 j x).mpr ((q1 j x).mp z)⟩ (by unfold isL at hL; omega)
theorem btL_2 {L : Nat} (hL : isL L) : ∃ P, g_bt[L + 2]? = some (6, P) ∧ ∀ j x, P j x ↔ (-1 : Int) ≤ x ∧ x ≤ 31 := by rcases hL with rfl | rfl | rfl | rfl <;> exact ⟨_, rfl, fun _ _ => Iff.rfl⟩
theorem cpL_2 {h : m_H} {L K : Nat} (hL : isL L) (hK : isL K) (G : GI h) : GI (m_cp h (K + 2) (L + 2) 6) := by
  obtain ⟨P, e1, q1⟩ := btL_2 hK
  obtain ⟨P1, e2, q2⟩ := btL_2 hL
  exact G.cp e1 ⟨P1, e2, fun j x z => (q2 j x).mpr ((q1 j x).mp z)⟩ (by unfold isL at hL; omega)
theorem btL_3 {L : Nat} (hL : isL L) : ∃ P, g_bt[L + 3]? = some (24, P) ∧ ∀ j x, P j x ↔ (0 : Int) ≤ x ∧ x ≤ 5 := by rcases hL with rfl | rfl | rfl | rfl <;> exact ⟨_, rfl, fun _ _ => Iff.rfl⟩
theorem cpL_3 {h : m_H} {L K : Nat} (hL : isL L) (hK : isL K) (G : GI h) : GI (m_cp h (K + 3) (L + 3) 24) := by
  obtain ⟨P, e1, q1⟩ := btL_3 hK
  obtain ⟨P1, e2, q2⟩ := btL_3 hL
  exact G.cp e1 ⟨P1, e2, fun j x z => (q2 j x).mpr ((q1 j x).mp z)⟩ (by unfold isL at hL; omega)
theorem btL_4 {L : Nat} (hL : isL L) : ∃ P, g_bt[L + 4]? = some (24, P) ∧ ∀ j x, P j x ↔ (0 : Int) ≤ x ∧ x ≤ 31 := by rcases hL with rfl | rfl | rfl | rfl <;> exact ⟨_, rfl, fun _ _ => Iff.rfl⟩
theorem cpL_4 {h : m_H} {L K : Nat} (hL : isL L) (hK : isL K) (G : GI h) : GI (m_cp h (K + 4) (L + 4) 24) := by
  obtain ⟨P, e1, q1⟩ := btL_4 hK
  obtain ⟨P1, e2, q2⟩ := btL_4 hL
  exact G.cp e1 ⟨P1, e2, fun j x z => (q2 j x).mpr ((q1 j x).mp z)⟩ (by unfold isL at hL; omega)
theorem btL_5 {L : Nat} (hL : isL L) : ∃ P, g_bt[L + 5]? = some (24, P) ∧ ∀ j x, P j x ↔ (0 : Int) ≤ x ∧ x ≤ 99 := by rcases hL with rfl | rfl | rfl | rfl <;> exact ⟨_, rfl, fun _ _ => Iff.rfl⟩
theorem cpL_5 {h : m_H} {L K : Nat} (hL : isL L) (hK : isL K) (G : GI h) : GI (m_cp h (K + 5) (L + 5) 24) := by
  obtain ⟨P, e1, q1⟩ := btL_5 hK
  obtain ⟨P1, e2, q2⟩ := btL_5 hL
  exact G.cp e1 ⟨P1, e2, fun j x z => (q2 j x).mpr ((q1 j x).mp z)⟩ (by unfold isL at hL; omega)
theorem btL_6 {L : Nat} (hL : isL L) : ∃ P, g_bt[L + 6]? = some (24, P) ∧ ∀ j x, P j x ↔ (0 : Int) ≤ x ∧ x ≤ 2 := by rcases hL with rfl | rfl | rfl | rfl <;> exact ⟨_, rfl, fun _ _ => Iff.rfl⟩
theorem cpL_6 {h : m_H} {L K : Nat} (hL : isL L) (hK : isL K) (G : GI h) : GI (m_cp h (K + 6) (L + 6) 24) := by
  obtain ⟨P, e1, q1⟩ := btL_6 hK
  obtain ⟨P1, e2, q2⟩ := btL_6 hL
  exact G.cp e1 ⟨P1, e2, fun j x z => (q2 j x).mpr ((q1 j x).mp z)⟩ (by unfold isL at hL; omega)
theorem btL_7 {L : Nat} (hL : isL L) : ∃ P, g_bt[L + 7]? = some (16, P) ∧ ∀ j x, P j x ↔ (1 : Int) ≤ x ∧ x ≤ 9999 := by rcases hL with rfl | rfl | rfl | rfl <;> exact ⟨_, rfl, fun _ _ => Iff.rfl⟩
theorem cpL_7 {h : m_H} {L K : Nat} (hL : isL L) (hK : isL K) (G : GI h) : GI (m_cp h (K + 7) (L + 7) 16) := by
  obtain ⟨P, e1, q1⟩ := btL_7 hK
  obtain ⟨P1, e2, q2⟩ := btL_7 hL
  exact G.cp e1 ⟨P1, e2, fun j x z => (q2 j x).mpr ((q1 j x).mp z)⟩ (by unfold isL at hL; omega)
theorem t_J0_length_8abf5 : m_mV M_J0_length_8abf5 0 := ⟨⟨m_inG 615 (by decide +kernel) rfl, m_inG 616 (by decide +kernel) rfl⟩, ⟨m_inG 112 (by decide +kernel) rfl, m_inG 617 (by decide +kernel) rfl⟩, ⟨by decide +kernel, by decide +kernel, by decide +kernel⟩⟩
theorem t_J0_coder_7d493 : m_mV M_J0_coder_7d493 0 := ⟨⟨m_inG 619 (by decide +kernel) rfl, m_inG 620 (by decide +kernel) rfl⟩, ⟨m_inG 112 (by decide +kernel) rfl, m_inG 621 (by decide +kernel) rfl⟩, ⟨by decide +kernel, by decide +kernel, by decide +kernel⟩⟩
theorem t_J0_charAt_5068e : m_mV M_J0_charAt_5068e 1 := ⟨⟨m_inG 625 (by decide +kernel) rfl, m_inG 626 (by decide +kernel) rfl⟩, ⟨m_inG 112 (by decide +kernel) rfl, m_inG 627 (by decide +kernel) rfl⟩, ⟨by decide +kernel, by decide +kernel, by decide +kernel⟩⟩
theorem t_J0_isLatin1_aae02 : m_mV M_J0_isLatin1_aae02 0 := ⟨⟨m_inG 629 (by decide +kernel) rfl, m_inG 630 (by decide +kernel) rfl⟩, ⟨m_inG 112 (by decide +kernel) rfl, m_inG 631 (by decide +kernel) rfl⟩, ⟨by decide +kernel, by decide +kernel, by decide +kernel⟩⟩
theorem t_J1_charAt_3b067 : m_mS M_J1_charAt_3b067 2 := ⟨m_inG 633 (by decide +kernel) rfl, ⟨m_inG 113 (by decide +kernel) rfl, m_inG 634 (by decide +kernel) rfl⟩, ⟨by decide +kernel, by decide +kernel, by decide +kernel⟩⟩
theorem t_J0_checkIndex_df160 : m_mS M_J0_checkIndex_df160 2 := ⟨m_inG 636 (by decide +kernel) rfl, ⟨m_inG 112 (by decide +kernel) rfl, m_inG 637 (by decide +kernel) rfl⟩, ⟨by decide +kernel, by decide +kernel, by decide +kernel⟩⟩
theorem t_J3_checkIndex_8e157 : m_mS M_J3_checkIndex_8e157 3 := ⟨m_inG 641 (by decide +kernel) rfl, ⟨m_inG 114 (by decide +kernel) rfl, m_inG 642 (by decide +kernel) rfl⟩, ⟨by decide +kernel, by decide +kernel, by decide +kernel⟩⟩
theorem l_J0_335 : Cond.methodLink RJ0 335 yJ0_coder_7d493 ∈ m_G := m_inG 618 (by decide +kernel) rfl
theorem l_J0_492 : Cond.methodLink RJ0 492 yJ0_isLatin1_aae02 ∈ m_G := m_inG 628 (by decide +kernel) rfl
theorem l_J0_495 : Cond.methodLink RJ0 495 yJ1_charAt_3b067 ∈ m_G := m_inG 632 (by decide +kernel) rfl
theorem l_J1_9 : Cond.methodLink RJ1 9 yJ0_checkIndex_df160 ∈ m_G := m_inG 635 (by decide +kernel) rfl
theorem l_J0_1059 : Cond.methodLink RJ0 1059 yJ3_checkIndex_8e157 ∈ m_G := m_inG 640 (by decide +kernel) rfl
theorem wS_38 : Cond.fieldLink RJ0 38 "java/lang/String" "COMPACT_STRINGS" "Z" ∈ m_G := m_inG 622 (by decide +kernel) rfl
theorem wS_1053 : Cond.fieldLink RJ0 1053 "jdk/internal/util/Preconditions" "SIOOBE_FORMATTER" "Ljava/util/function/BiFunction;" ∈ m_G := m_inG 638 (by decide +kernel) rfl
theorem wS_9 : Cond.fieldLink RJ0 9 "java/lang/String" "value" "[B" ∈ m_G := m_inG 1861 (by decide +kernel) rfl
theorem wS_15 : Cond.fieldLink RJ0 15 "java/lang/String" "coder" "B" ∈ m_G := m_inG 1862 (by decide +kernel) rfl
section ZT
variable {M M' : m_M} {ls : List (Option m_V)} {st rest : List m_V} {h : m_H} {Q : m_W → Option m_V → m_H → Prop}
theorem z_vIO (pc : Nat) {index n i : Nat} {as : List m_V} {P : Int → m_H → Prop} (d : decode M.2.2.1 pc = .ok (.invokevirtual index, 3)) (mt : m_mV M' n) (lk : Cond.methodLink M.1 index M'.2.1 ∈ m_G) (rr : m_rr M M') (hc : m_CI M' (mO i :: as) h P) (hi : i < 16) (hcl : M'.2.1.cls = "java/lang/String") (hst : as.reverse ++ mO i :: rest = st) (hn : as.length = n) (hrest : m_cs rest ≤ 8) (h0 : (m_rm M').cells = 0 ∧ (m_rm M').slots = 0)
    (kk : ∀ (x : Int) (h' : m_H), P x h' → m_Z oF M (pc + 3) ls (mI x :: rest) h' Q) : m_Z oF M pc ls st h Q := by
  subst hst
  intro E p l e s m args below meth c QQ H locs lsR C Rt Rl L o b
  obtain ⟨o1, o2⟩ := m_oks_app o
  have hM := hc l E Rl.2.2.2 ⟨trivial, m_oks_rev o1⟩
  rw [List.map_cons, m_vO (by omega)] at hM
  have hts := C.2.2.2.2.1
  have hrecv := vk_recv C.2.2.2.2.2.2.2.1.1 hi Rl.2.2.1
  rw [← hcl] at hrecv
  have hcw : CallW (m_rm M) s args M.1 M'.2.1.cls index M'.2.1 M'.2.2.1 M'.2.2.2.1 M'.2.2.2.2.1 (m_ws M') (m_rm M') (m_rm M').cells (m_rm M').slots n :=
    ⟨callB_of n hts (m_good mt.2.1.2) rfl rfl rfl (hts _ mt.2.1.1) (hts _ lk) mt.2.2 rr, hts _ mt.1.1, hts _ mt.1.2⟩
  have hrun := va_runV (g := F0 m pc lsR ((as.reverse ++ mO i :: rest).map (m_v E))) (As := as.map (m_v E)) (rest := rest.map (m_v E)) (b := E.1.2 i) (below := below) (locs := locs) (meth := meth) (e := e) ⟨C.1, C.2.1, C.2.2.1, C.2.2.2.1, hts⟩ hM hcw ⟨m_blind, hrecv, fun U hU hW => ⟨rfl, m_pre_at C Rl U hU hW⟩⟩ rfl (by rw [List.length_map]; exact hn) L.1 (by show List.map (m_v E) _ = _; rw [List.map_append, List.map_cons, m_vO (by omega), List.map_reverse]) (m_roomW hrest) d (cells := oF.length - m_k0 M) (slots := m_sz oF - m_s0 M) (by rw [h0.1, h0.2]; exact b.2)
  refine m_after hrun Rl.2.2.1 (fun r h' H1 locs1 hq hr R1 => ?_)
  rw [h0.1, h0.2, m_toL]
  obtain ⟨x, rfl, px⟩ := hq
  exact kk x h' px E p l e s m args below meth c QQ H1 locs1 lsR C Rt R1 L (m_okT hr o2.2) b
theorem z_retN (pc : Nat) {x : Int} {ty : FieldType} {P : Int → m_H → Prop} (d : decode M.2.2.1 pc = .ok (.ireturn, 1)) (hr : M.2.2.2.2.1 = some ty) (hn : narrow ty (.int (Int32.ofInt x)) = .int (Int32.ofInt x)) (q : P x h) : m_Z oF M pc ls [mI x] h (m_QI P) := z_nret pc d hr hn ⟨rfl, x, rfl, q⟩
theorem z_i2c (pc : Nat) (d : decode M.2.2.1 pc = .ok (.i2c, 1)) {x : Int} (h0 : 0 ≤ x) (h1 : x < 65536) (k : m_Z oF M (pc + 1) ls (mI x :: st) h Q) : m_Z oF M pc ls (mI x :: st) h Q := by
  intro E p l e s m args below meth c QQ H locs lsR C Rt Rl L o b
  refine lv_i2c C.1 C.2.1 d (v := Int32.ofInt x) ?_ ?_
  · rw [lg_i2c_nf]; exact lg_i2c_small (by rw [m_i32 o.1]; exact h0) (by rw [m_i32 o.1]; exact h1)
  · exact k E p l e s m args below meth c QQ H locs lsR C Rt Rl L o b
end ZT
def sch (i : Nat) (a : Int) : Int := ((m_sb.getD i []).getD a.toNat 0).toInt
theorem sch_ok {i : Nat} {a : Int} (hi : i < 16) (h0 : 0 ≤ a) (h1 : a < 6) : (0 ≤ sch i a ∧ sch i a ≤ 127) ∧ m_and (sch i a) 255 = sch i a := by
  have : ∀ (i : Fin 16) (j : Fin 6), (0 ≤ sch i.1 (j.1 : Nat) ∧ sch i.1 (j.1 : Nat) ≤ 127) ∧ m_and (sch i.1 (j.1 : Nat)) 255 = sch i.1 (j.1 : Nat) := by decide +kernel
  have q := this ⟨i, hi⟩ ⟨a.toNat, by omega⟩
  have e : ((a.toNat : Nat) : Int) = a := by omega
  simp only [e] at q
  exact q
theorem nar_c {x : Int} (h0 : 0 ≤ x) (h1 : x ≤ 127) : narrow .char (.int (Int32.ofInt x)) = .int (Int32.ofInt x) := by
  have : ∀ j : Fin 128, narrow .char (.int (Int32.ofInt ((j.1 : Nat) : Int))) = .int (Int32.ofInt ((j.1 : Nat) : Int)) := by decide +kernel
  have q := this ⟨x.toNat, by omega⟩
  have e : ((x.toNat : Nat) : Int) = x := by omega
  simp only [e] at q
  exact q
def slen (i : Nat) : Int := (m_sl.getD i 0 : Nat)
theorem slen_b (i : Nat) : 0 ≤ slen i ∧ slen i ≤ 6 := by have := m_sl_le i; unfold slen; omega
theorem c_J0_coder_7d493 (h0 : m_H) (i : Nat) (hi : i < 16) : m_CI M_J0_coder_7d493 [mO i] h0 (fun x h' => h0 = h' ∧ x = 0) := by
  refine m_CI_of ⟨by decide, rfl, by simp [m_arg, m_isL, M_J0_coder_7d493], ⟨rfl, rfl⟩, rfl, rfl⟩ (ls := [some (mO i)]) rfl ?_
  refine z_gstC (M := M_J0_coder_7d493) 0 dJ0_coder_7d493_0 wS_38 ?_
  refine z_if_eq_F (M := M_J0_coder_7d493) 3 dJ0_coder_7d493_3 13 rfl (by omega) ?_
  refine z_aload_nO (M := M_J0_coder_7d493) 6 dJ0_coder_7d493_6 rfl ?_
  refine z_coder (M := M_J0_coder_7d493) 7 dJ0_coder_7d493_7 wS_15 hi ?_
  refine z_goto (M := M_J0_coder_7d493) 10 dJ0_coder_7d493_10 14 rfl ?_
  exact z_retN (M := M_J0_coder_7d493) 14 dJ0_coder_7d493_14 rfl rfl ⟨rfl, rfl⟩
theorem c_J0_isLatin1_aae02 (h0 : m_H) (i : Nat) (hi : i < 16) : m_CI M_J0_isLatin1_aae02 [mO i] h0 (fun x h' => h0 = h' ∧ x = 1) := by
  refine m_CI_of ⟨by decide, rfl, by simp [m_arg, m_isL, M_J0_isLatin1_aae02], ⟨rfl, rfl⟩, rfl, rfl⟩ (ls := [some (mO i)]) rfl ?_
  refine z_gstC (M := M_J0_isLatin1_aae02) 0 dJ0_isLatin1_aae02_0 wS_38 ?_
  refine z_if_eq_F (M := M_J0_isLatin1_aae02) 3 dJ0_isLatin1_aae02_3 17 rfl (by omega) ?_
  refine z_aload_nO (M := M_J0_isLatin1_aae02) 6 dJ0_isLatin1_aae02_6 rfl ?_
  refine z_coder (M := M_J0_isLatin1_aae02) 7 dJ0_isLatin1_aae02_7 wS_15 hi ?_
  refine z_if_ne_F (M := M_J0_isLatin1_aae02) 10 dJ0_isLatin1_aae02_10 17 rfl (by omega) ?_
  refine z_iconst (M := M_J0_isLatin1_aae02) 13 dJ0_isLatin1_aae02_13 ?_
  refine z_goto (M := M_J0_isLatin1_aae02) 14 dJ0_isLatin1_aae02_14 18 rfl ?_
  exact z_retZ (M := M_J0_isLatin1_aae02) 18 dJ0_isLatin1_aae02_18 rfl (by omega) ⟨rfl, rfl⟩
theorem c_J0_length_8abf5 (h0 : m_H) (i : Nat) (hi : i < 16) : m_CI M_J0_length_8abf5 [mO i] h0 (fun x h' => h0 = h' ∧ x = slen i) := by
  refine m_CI_of ⟨by decide, rfl, by simp [m_arg, m_isL, M_J0_length_8abf5], ⟨rfl, rfl⟩, rfl, rfl⟩ (ls := [some (mO i)]) rfl ?_
  refine z_aload_nO (M := M_J0_length_8abf5) 0 dJ0_length_8abf5_0 rfl ?_
  refine z_value (M := M_J0_length_8abf5) 1 dJ0_length_8abf5_1 wS_9 hi ?_
  refine z_alenO (M := M_J0_length_8abf5) 4 dJ0_length_8abf5_4 hi ?_
  refine z_aload_nO (M := M_J0_length_8abf5) 5 dJ0_length_8abf5_5 rfl ?_
  refine z_vIO (M := M_J0_length_8abf5) 6 dJ0_length_8abf5_6 t_J0_coder_7d493 l_J0_335 (m_rr_of rfl) (as := []) (rest := [mI (m_sl.getD i 0 : Nat)]) (c_J0_coder_7d493 h0 i hi) hi rfl rfl rfl (Nat.le_of_ble_eq_true rfl) ⟨rfl, rfl⟩ (fun x h' q => ?_)
  obtain ⟨rfl, rfl⟩ := q
  refine z_ishr (M := M_J0_length_8abf5) 9 dJ0_length_8abf5_9 ?_
  have hb := m_sl_le i
  have e0 : m_shr ((m_sl.getD i 0 : Nat) : Int) 0 = slen i := by
    have : ∀ j : Fin 7, m_shr ((j.1 : Nat) : Int) 0 = ((j.1 : Nat) : Int) := by decide
    exact this ⟨m_sl.getD i 0, by omega⟩
  exact z_retI (M := M_J0_length_8abf5) 10 dJ0_length_8abf5_10 rfl ⟨rfl, e0⟩
theorem c_J3_checkIndex_8e157 (h0 : m_H) (a n : Int) (h1 : 0 ≤ a) (h2 : a < n) : m_CI M_J3_checkIndex_8e157 [mI a, mI n, mO 40] h0 (fun x h' => h0 = h' ∧ x = a) := by
  refine m_CI_of ⟨by decide, rfl, by simp [m_arg, m_isL, M_J3_checkIndex_8e157], ⟨rfl, rfl⟩, rfl, rfl⟩ (ls := [some (mI a), some (mI n), some (mO 40)]) rfl ?_
  refine z_iload_n (M := M_J3_checkIndex_8e157) 0 dJ3_checkIndex_8e157_0 rfl ?_
  refine z_if_lt_F (M := M_J3_checkIndex_8e157) 1 dJ3_checkIndex_8e157_1 9 rfl (by omega) ?_
  refine z_iload_n (M := M_J3_checkIndex_8e157) 4 dJ3_checkIndex_8e157_4 rfl ?_
  refine z_iload_n (M := M_J3_checkIndex_8e157) 5 dJ3_checkIndex_8e157_5 rfl ?_
  refine z_icmp_lt_T (M := M_J3_checkIndex_8e157) 6 dJ3_checkIndex_8e157_6 16 rfl (by omega) ?_
  refine z_iload_n (M := M_J3_checkIndex_8e157) 16 dJ3_checkIndex_8e157_16 rfl ?_
  exact z_retI (M := M_J3_checkIndex_8e157) 17 dJ3_checkIndex_8e157_17 rfl ⟨rfl, rfl⟩
theorem c_J0_checkIndex_df160 (h0 : m_H) (a n : Int) (h1 : 0 ≤ a) (h2 : a < n) : m_CV M_J0_checkIndex_df160 [mI a, mI n] h0 (fun h' => h0 = h') := by
  refine m_CV_of ⟨by decide, rfl, by simp [m_arg, m_isL, M_J0_checkIndex_df160], ⟨rfl, rfl⟩, rfl, rfl⟩ (ls := [some (mI a), some (mI n)]) rfl ?_
  refine z_iload_n (M := M_J0_checkIndex_df160) 0 dJ0_checkIndex_df160_0 rfl ?_
  refine z_iload_n (M := M_J0_checkIndex_df160) 1 dJ0_checkIndex_df160_1 rfl ?_
  refine z_gstF (M := M_J0_checkIndex_df160) 2 dJ0_checkIndex_df160_2 wS_1053 ?_
  refine z_sI (M := M_J0_checkIndex_df160) 5 dJ0_checkIndex_df160_5 t_J3_checkIndex_8e157 l_J0_1059 (m_rr_of rfl) (rest := []) (c_J3_checkIndex_8e157 h0 a n h1 h2) rfl rfl (Nat.le_of_ble_eq_true rfl) ⟨rfl, rfl⟩ (fun x h' q => ?_)
  obtain ⟨rfl, rfl⟩ := q
  refine z_pop (M := M_J0_checkIndex_df160) 8 dJ0_checkIndex_df160_8 rfl ?_
  exact z_retV (M := M_J0_checkIndex_df160) 9 dJ0_checkIndex_df160_9 rfl rfl
theorem c_J1_charAt_3b067 (h0 : m_H) (i : Nat) (a : Int) (hi : i < 16) (h1 : 0 ≤ a) (h2 : a < slen i) : m_CI M_J1_charAt_3b067 [mO (20 + i), mI a] h0 (fun x h' => h0 = h' ∧ x = sch i a) := by
  have hb := slen_b i
  have hs := sch_ok hi h1 (by omega)
  refine m_CI_of ⟨by decide, rfl, by simp [m_arg, m_isL, M_J1_charAt_3b067], ⟨rfl, rfl⟩, rfl, rfl⟩ (ls := [some (mO (20 + i)), some (mI a)]) rfl ?_
  refine z_iload_n (M := M_J1_charAt_3b067) 0 dJ1_charAt_3b067_0 rfl ?_
  refine z_aload_nO (M := M_J1_charAt_3b067) 1 dJ1_charAt_3b067_1 rfl ?_
  refine z_alenO (M := M_J1_charAt_3b067) 2 dJ1_charAt_3b067_2 hi ?_
  refine z_sV (M := M_J1_charAt_3b067) 3 dJ1_charAt_3b067_3 t_J0_checkIndex_df160 l_J1_9 (m_rr_of rfl) (rest := []) (c_J0_checkIndex_df160 h0 a (m_sl.getD i 0 : Nat) h1 h2) rfl rfl (Nat.le_of_ble_eq_true rfl) ⟨rfl, rfl⟩ (fun h' q => ?_)
  obtain rfl := q
  refine z_aload_nO (M := M_J1_charAt_3b067) 6 dJ1_charAt_3b067_6 rfl ?_
  refine z_iload_n (M := M_J1_charAt_3b067) 7 dJ1_charAt_3b067_7 rfl ?_
  refine z_baldO (M := M_J1_charAt_3b067) 8 dJ1_charAt_3b067_8 hi h1 h2 ?_
  refine z_sipush (M := M_J1_charAt_3b067) 9 dJ1_charAt_3b067_9 ?_
  refine z_iand (M := M_J1_charAt_3b067) 12 dJ1_charAt_3b067_12 ?_
  have e0 : m_and ((m_sb.getD i []).getD a.toNat 0).toInt 255 = sch i a := hs.2
  rw [e0]
  refine z_i2c (M := M_J1_charAt_3b067) 13 dJ1_charAt_3b067_13 hs.1.1 (by omega) ?_
  exact z_retN (M := M_J1_charAt_3b067) 14 dJ1_charAt_3b067_14 rfl (nar_c hs.1.1 hs.1.2) ⟨rfl, rfl⟩
theorem c_J0_charAt_5068e (h0 : m_H) (i : Nat) (a : Int) (hi : i < 16) (h1 : 0 ≤ a) (h2 : a < slen i) : m_CI M_J0_charAt_5068e [mO i, mI a] h0 (fun x h' => h0 = h' ∧ x = sch i a) := by
  have hb := slen_b i
  have hs := sch_ok hi h1 (by omega)
  refine m_CI_of ⟨by decide, rfl, by simp [m_arg, m_isL, M_J0_charAt_5068e], ⟨rfl, rfl⟩, rfl, rfl⟩ (ls := [some (mO i), some (mI a)]) rfl ?_
  refine z_aload_nO (M := M_J0_charAt_5068e) 0 dJ0_charAt_5068e_0 rfl ?_
  refine z_vIO (M := M_J0_charAt_5068e) 1 dJ0_charAt_5068e_1 t_J0_isLatin1_aae02 l_J0_492 (m_rr_of rfl) (as := []) (rest := []) (c_J0_isLatin1_aae02 h0 i hi) hi rfl rfl rfl (Nat.le_of_ble_eq_true rfl) ⟨rfl, rfl⟩ (fun x h' q => ?_)
  obtain ⟨rfl, rfl⟩ := q
  refine z_if_eq_F (M := M_J0_charAt_5068e) 4 dJ0_charAt_5068e_4 16 rfl (by omega) ?_
  refine z_aload_nO (M := M_J0_charAt_5068e) 7 dJ0_charAt_5068e_7 rfl ?_
  refine z_value (M := M_J0_charAt_5068e) 8 dJ0_charAt_5068e_8 wS_9 hi ?_
  refine z_iload_n (M := M_J0_charAt_5068e) 11 dJ0_charAt_5068e_11 rfl ?_
  refine z_sI (M := M_J0_charAt_5068e) 12 dJ0_charAt_5068e_12 t_J1_charAt_3b067 l_J0_495 (m_rr_of rfl) (rest := []) (c_J1_charAt_3b067 h0 i a hi h1 h2) rfl rfl (Nat.le_of_ble_eq_true rfl) ⟨rfl, rfl⟩ (fun x h' q => ?_)
  obtain ⟨rfl, rfl⟩ := q
  exact z_retN (M := M_J0_charAt_5068e) 15 dJ0_charAt_5068e_15 rfl (nar_c hs.1.1 hs.1.2) ⟨rfl, rfl⟩
