set_option maxRecDepth 20000 in
theorem jk_t1 {w : Cond} (i : Nat) (h1 : tables_1_1[i]? = some w) (hg : goodWord w = true) : w ∈ jk_gt := by
  have h := List.mem_of_getElem? h1
  exact List.mem_filter.mpr ⟨List.mem_append_right _ (show w ∈ tables_1_1 ++ (tables_1_2 ++ (tables_1_3 ++ (tables_1_4 ++ (tables_1_5 ++ (tables_1_6 ++ (tables_1_7)))))) from List.mem_append_left _ h), hg⟩
set_option maxRecDepth 20000 in
theorem jk_n1 {w : Cond} (i : Nat) (h1 : tables_1_1[i]? = some w) (hg : jk_isN w = true) : w ∈ jk_ns := by
  have h := List.mem_of_getElem? h1
  exact List.mem_filter.mpr ⟨List.mem_append_right _ (show w ∈ tables_1_1 ++ (tables_1_2 ++ (tables_1_3 ++ (tables_1_4 ++ (tables_1_5 ++ (tables_1_6 ++ (tables_1_7)))))) from List.mem_append_left _ h), hg⟩
set_option maxRecDepth 20000 in
theorem jk_t2 {w : Cond} (i : Nat) (h1 : tables_1_2[i]? = some w) (hg : goodWord w = true) : w ∈ jk_gt := by
  have h := List.mem_of_getElem? h1
  exact List.mem_filter.mpr ⟨List.mem_append_right _ (show w ∈ tables_1_1 ++ (tables_1_2 ++ (tables_1_3 ++ (tables_1_4 ++ (tables_1_5 ++ (tables_1_6 ++ (tables_1_7)))))) from List.mem_append_right _ (List.mem_append_left _ h)), hg⟩
set_option maxRecDepth 20000 in
theorem jk_n2 {w : Cond} (i : Nat) (h1 : tables_1_2[i]? = some w) (hg : jk_isN w = true) : w ∈ jk_ns := by
  have h := List.mem_of_getElem? h1
  exact List.mem_filter.mpr ⟨List.mem_append_right _ (show w ∈ tables_1_1 ++ (tables_1_2 ++ (tables_1_3 ++ (tables_1_4 ++ (tables_1_5 ++ (tables_1_6 ++ (tables_1_7)))))) from List.mem_append_right _ (List.mem_append_left _ h)), hg⟩
set_option maxRecDepth 20000 in
theorem jk_t3 {w : Cond} (i : Nat) (h1 : tables_1_3[i]? = some w) (hg : goodWord w = true) : w ∈ jk_gt := by
  have h := List.mem_of_getElem? h1
  exact List.mem_filter.mpr ⟨List.mem_append_right _ (show w ∈ tables_1_1 ++ (tables_1_2 ++ (tables_1_3 ++ (tables_1_4 ++ (tables_1_5 ++ (tables_1_6 ++ (tables_1_7)))))) from List.mem_append_right _ (List.mem_append_right _ (List.mem_append_left _ h))), hg⟩
set_option maxRecDepth 20000 in
theorem jk_n3 {w : Cond} (i : Nat) (h1 : tables_1_3[i]? = some w) (hg : jk_isN w = true) : w ∈ jk_ns := by
  have h := List.mem_of_getElem? h1
  exact List.mem_filter.mpr ⟨List.mem_append_right _ (show w ∈ tables_1_1 ++ (tables_1_2 ++ (tables_1_3 ++ (tables_1_4 ++ (tables_1_5 ++ (tables_1_6 ++ (tables_1_7)))))) from List.mem_append_right _ (List.mem_append_right _ (List.mem_append_left _ h))), hg⟩
set_option maxRecDepth 20000 in
theorem jk_t4 {w : Cond} (i : Nat) (h1 : tables_1_4[i]? = some w) (hg : goodWord w = true) : w ∈ jk_gt := by
  have h := List.mem_of_getElem? h1
  exact List.mem_filter.mpr ⟨List.mem_append_right _ (show w ∈ tables_1_1 ++ (tables_1_2 ++ (tables_1_3 ++ (tables_1_4 ++ (tables_1_5 ++ (tables_1_6 ++ (tables_1_7)))))) from List.mem_append_right _ (List.mem_append_right _ (List.mem_append_right _ (List.mem_append_left _ h)))), hg⟩
set_option maxRecDepth 20000 in
theorem jk_n4 {w : Cond} (i : Nat) (h1 : tables_1_4[i]? = some w) (hg : jk_isN w = true) : w ∈ jk_ns := by
  have h := List.mem_of_getElem? h1
  exact List.mem_filter.mpr ⟨List.mem_append_right _ (show w ∈ tables_1_1 ++ (tables_1_2 ++ (tables_1_3 ++ (tables_1_4 ++ (tables_1_5 ++ (tables_1_6 ++ (tables_1_7)))))) from List.mem_append_right _ (List.mem_append_right _ (List.mem_append_right _ (List.mem_append_left _ h)))), hg⟩
set_option maxRecDepth 20000 in
theorem jk_t5 {w : Cond} (i : Nat) (h1 : tables_1_5[i]? = some w) (hg : goodWord w = true) : w ∈ jk_gt := by
  have h := List.mem_of_getElem? h1
  exact List.mem_filter.mpr ⟨List.mem_append_right _ (show w ∈ tables_1_1 ++ (tables_1_2 ++ (tables_1_3 ++ (tables_1_4 ++ (tables_1_5 ++ (tables_1_6 ++ (tables_1_7)))))) from List.mem_append_right _ (List.mem_append_right _ (List.mem_append_right _ (List.mem_append_right _ (List.mem_append_left _ h))))), hg⟩
set_option maxRecDepth 20000 in
theorem jk_n5 {w : Cond} (i : Nat) (h1 : tables_1_5[i]? = some w) (hg : jk_isN w = true) : w ∈ jk_ns := by
  have h := List.mem_of_getElem? h1
  exact List.mem_filter.mpr ⟨List.mem_append_right _ (show w ∈ tables_1_1 ++ (tables_1_2 ++ (tables_1_3 ++ (tables_1_4 ++ (tables_1_5 ++ (tables_1_6 ++ (tables_1_7)))))) from List.mem_append_right _ (List.mem_append_right _ (List.mem_append_right _ (List.mem_append_right _ (List.mem_append_left _ h))))), hg⟩
set_option maxRecDepth 20000 in
theorem jk_t6 {w : Cond} (i : Nat) (h1 : tables_1_6[i]? = some w) (hg : goodWord w = true) : w ∈ jk_gt := by
  have h := List.mem_of_getElem? h1
  exact List.mem_filter.mpr ⟨List.mem_append_right _ (show w ∈ tables_1_1 ++ (tables_1_2 ++ (tables_1_3 ++ (tables_1_4 ++ (tables_1_5 ++ (tables_1_6 ++ (tables_1_7)))))) from List.mem_append_right _ (List.mem_append_right _ (List.mem_append_right _ (List.mem_append_right _ (List.mem_append_right _ (List.mem_append_left _ h)))))), hg⟩
set_option maxRecDepth 20000 in
theorem jk_n6 {w : Cond} (i : Nat) (h1 : tables_1_6[i]? = some w) (hg : jk_isN w = true) : w ∈ jk_ns := by
  have h := List.mem_of_getElem? h1
  exact List.mem_filter.mpr ⟨List.mem_append_right _ (show w ∈ tables_1_1 ++ (tables_1_2 ++ (tables_1_3 ++ (tables_1_4 ++ (tables_1_5 ++ (tables_1_6 ++ (tables_1_7)))))) from List.mem_append_right _ (List.mem_append_right _ (List.mem_append_right _ (List.mem_append_right _ (List.mem_append_right _ (List.mem_append_left _ h)))))), hg⟩
set_option maxRecDepth 20000 in
theorem jk_t7 {w : Cond} (i : Nat) (h1 : tables_1_7[i]? = some w) (hg : goodWord w = true) : w ∈ jk_gt := by
  have h := List.mem_of_getElem? h1
  exact List.mem_filter.mpr ⟨List.mem_append_right _ (show w ∈ tables_1_1 ++ (tables_1_2 ++ (tables_1_3 ++ (tables_1_4 ++ (tables_1_5 ++ (tables_1_6 ++ (tables_1_7)))))) from List.mem_append_right _ (List.mem_append_right _ (List.mem_append_right _ (List.mem_append_right _ (List.mem_append_right _ (List.mem_append_right _ (h))))))), hg⟩
set_option maxRecDepth 20000 in
theorem jk_n7 {w : Cond} (i : Nat) (h1 : tables_1_7[i]? = some w) (hg : jk_isN w = true) : w ∈ jk_ns := by
  have h := List.mem_of_getElem? h1
  exact List.mem_filter.mpr ⟨List.mem_append_right _ (show w ∈ tables_1_1 ++ (tables_1_2 ++ (tables_1_3 ++ (tables_1_4 ++ (tables_1_5 ++ (tables_1_6 ++ (tables_1_7)))))) from List.mem_append_right _ (List.mem_append_right _ (List.mem_append_right _ (List.mem_append_right _ (List.mem_append_right _ (List.mem_append_right _ (h))))))), hg⟩
set_option maxRecDepth 20000 in
theorem jk_ts {w : Cond} (i : Nat) (h1 : (k2_sels lw_privs)[i]? = some w) (hg : goodWord w = true) : w ∈ jk_gt := List.mem_filter.mpr ⟨List.mem_append_left _ (List.mem_of_getElem? h1), hg⟩
abbrev Fr_X10_init : jk_F := (RX10, cX10_init, 2, none, true)
abbrev Fr_X2_init : jk_F := (RX2, cX2_init, 2, none, true)
abbrev Fr_X9_init : jk_F := (RX9, cX9_init, 1, none, true)
abbrev Fr_X1_init : jk_F := (RX1, cX1_init, 1, none, true)
abbrev Fr_X0_init : jk_F := (RX0, cX0_init, 2, none, true)
abbrev Fr_X3_init : jk_F := (RX3, cX3_init, 3, none, true)
abbrev Fr_X7_init : jk_F := (RX7, cX7_init, 3, none, true)
abbrev Fr_X6_init : jk_F := (RX6, cX6_init, 2, none, true)
abbrev Fr_X5_init : jk_F := (RX5, cX5_init, 2, none, true)
abbrev Fr_X8_init : jk_F := (RX8, cX8_init, 1, none, true)
abbrev Fr_X4_init : jk_F := (RX4, cX4_init, 1, none, true)
abbrev Fr_X10_row : jk_F := (RX10, cX10_row, 5, some .int, false)
abbrev Fr_X10_shelfAt : jk_F := (RX10, cX10_shelfAt, 2, some (.object "TwoBarsByTheWindow$Shelf"), false)
abbrev Fr_X10_refuse : jk_F := (RX10, cX10_refuse, 3, some .int, false)
abbrev Fr_X8_layRow : jk_F := (RX8, cX8_layRow, 3, none, false)
abbrev Fr_X8_clear : jk_F := (RX8, cX8_clear, 1, none, false)
abbrev Fr_J9_min_7cf53 : jk_F := (RJ9, cJ9_min_7cf53, 2, some .int, false)
abbrev Fr_J9_max_7cf53 : jk_F := (RJ9, cJ9_max_7cf53, 2, some .int, false)
abbrev Fr_J7_fill_d0a16 : jk_F := (RJ7, cJ7_fill_d0a16, 5, none, false)
abbrev Fr_X10_set : jk_F := (RX10, cX10_set, 7, some .int, false)
abbrev Fr_X10_rowRefusal : jk_F := (RX10, cX10_rowRefusal, 1, some .int, false)
abbrev Fr_X8_isRow : jk_F := (RX8, cX8_isRow, 1, some .boolean, false)
abbrev Fr_X8_has : jk_F := (RX8, cX8_has, 2, some .boolean, false)
abbrev Fr_X8_write : jk_F := (RX8, cX8_write, 4, none, false)
abbrev Fr_X8_cut : jk_F := (RX8, cX8_cut, 3, some .long, false)
abbrev Fr_X10_copy : jk_F := (RX10, cX10_copy, 9, some .int, false)
abbrev Fr_X10_copyRefusal : jk_F := (RX10, cX10_copyRefusal, 4, some .int, false)
abbrev Fr_X8_hasRun : jk_F := (RX8, cX8_hasRun, 3, some .boolean, false)
abbrev Fr_X8_takeRun : jk_F := (RX8, cX8_takeRun, 5, none, false)
abbrev Fr_X10_element : jk_F := (RX10, cX10_element, 4, some .long, false)
abbrev Fr_X8_read : jk_F := (RX8, cX8_read, 2, some .long, false)
abbrev Fr_X10_show : jk_F := (RX10, cX10_show, 4, some .int, false)
abbrev Fr_X2_thingAt : jk_F := (RX2, cX2_thingAt, 2, some (.object "TwoBarsByTheWindow$Thing"), false)
abbrev Fr_X8_point : jk_F := (RX8, cX8_point, 2, none, false)
abbrev Fr_X10_holds : jk_F := (RX10, cX10_holds, 3, some .int, false)
abbrev Fr_X10_says : jk_F := (RX10, cX10_says, 5, some .int, false)
abbrev Fr_X2_may : jk_F := (RX2, cX2_may, 3, some .boolean, false)
abbrev Fr_X2_isCell : jk_F := (RX2, cX2_isCell, 2, some .boolean, false)
abbrev Fr_X9_isOne : jk_F := (RX9, cX9_isOne, 4, some .boolean, false)
abbrev Fr_X10_kindAbove : jk_F := (RX10, cX10_kindAbove, 1, some .int, false)
abbrev Fr_X9_humsFar : jk_F := (RX9, cX9_humsFar, 4, some .int, false)
abbrev Fr_X9_swallows : jk_F := (RX9, cX9_swallows, 1, some .int, false)
abbrev Fr_X10_side : jk_F := (RX10, cX10_side, 3, some .int, false)
abbrev Fr_X10_thing : jk_F := (RX10, cX10_thing, 4, some .int, false)
abbrev Fr_X2_addThing : jk_F := (RX2, cX2_addThing, 6, some .int, false)
abbrev Fr_X10_neighbour : jk_F := (RX10, cX10_neighbour, 3, some .int, false)
abbrev Fr_X2_addNeighbour : jk_F := (RX2, cX2_addNeighbour, 4, some .int, false)
abbrev Fr_X10_device : jk_F := (RX10, cX10_device, 4, some .int, false)
abbrev Fr_X2_addDevice : jk_F := (RX2, cX2_addDevice, 6, some .int, false)
abbrev Fr_X2_deviceAt : jk_F := (RX2, cX2_deviceAt, 2, some (.object "TwoBarsByTheWindow$Device"), false)
abbrev Fr_X10_box : jk_F := (RX10, cX10_box, 5, some .int, false)
abbrev Fr_X2_placeOf : jk_F := (RX2, cX2_placeOf, 2, some .int, false)
abbrev Fr_X2_place : jk_F := (RX2, cX2_place, 3, none, false)
abbrev Fr_X10_ask : jk_F := (RX10, cX10_ask, 4, some .int, false)
abbrev Fr_X10_shut : jk_F := (RX10, cX10_shut, 5, some .int, false)
abbrev Fr_X10_move : jk_F := (RX10, cX10_move, 5, some .int, false)
abbrev Fr_X10_thingOf : jk_F := (RX10, cX10_thingOf, 4, some .int, false)
abbrev Fr_X10_deviceOf : jk_F := (RX10, cX10_deviceOf, 4, some .int, false)
abbrev Fr_X0_lay : jk_F := (RX0, cX0_lay, 1, none, false)
abbrev Fr_X0_layLoss : jk_F := (RX0, cX0_layLoss, 3, none, false)
abbrev Fr_J7_fill_53178 : jk_F := (RJ7, cJ7_fill_53178, 4, none, false)
abbrev Fr_X10_isPlace : jk_F := (RX10, cX10_isPlace, 1, some .boolean, false)
abbrev Fr_X0_layHum : jk_F := (RX0, cX0_layHum, 1, none, false)
abbrev Fr_X2_dinOn : jk_F := (RX2, cX2_dinOn, 4, some .int, false)
abbrev Fr_X2_noiseAt : jk_F := (RX2, cX2_noiseAt, 2, some .int, false)
abbrev Fr_X2_channelAt : jk_F := (RX2, cX2_channelAt, 2, some .int, false)
abbrev Fr_X10_noiseOver : jk_F := (RX10, cX10_noiseOver, 2, some .int, false)
abbrev Fr_J9_abs_0f7a4 : jk_F := (RJ9, cJ9_abs_0f7a4, 1, some .int, false)
abbrev Fr_X0_paceOf : jk_F := (RX0, cX0_paceOf, 3, some .int, false)
abbrev Fr_X0_barsOf : jk_F := (RX0, cX0_barsOf, 3, some .int, false)
abbrev Fr_X0_strengthFrom : jk_F := (RX0, cX0_strengthFrom, 3, some .int, false)
abbrev Fr_X10_stepsFar : jk_F := (RX10, cX10_stepsFar, 2, some .int, false)
abbrev Fr_X0_wayLoss : jk_F := (RX0, cX0_wayLoss, 7, some .int, false)
abbrev Fr_X0_along : jk_F := (RX0, cX0_along, 4, some .int, false)
abbrev Fr_X0_humAt : jk_F := (RX0, cX0_humAt, 5, some .int, false)
abbrev Fr_X10_barsBy : jk_F := (RX10, cX10_barsBy, 1, some .int, false)
abbrev Fr_X10_house : jk_F := (RX10, cX10_house, 5, some .int, false)
abbrev Fr_X2_become : jk_F := (RX2, cX2_become, 4, none, false)
abbrev Fr_X9_become : jk_F := (RX9, cX9_become, 2, none, false)
abbrev Fr_X1_become : jk_F := (RX1, cX1_become, 2, none, false)
abbrev Fr_X5_readAll : jk_F := (RX5, cX5_readAll, 3, some .int, false)
abbrev Fr_X5_readItem : jk_F := (RX5, cX5_readItem, 5, some .boolean, false)
abbrev Fr_X5_readWord : jk_F := (RX5, cX5_readWord, 5, some .int, false)
abbrev Fr_X5_lettersOf : jk_F := (RX5, cX5_lettersOf, 1, some (.object "java/lang/String"), false)
abbrev Fr_J0_length_8abf5 : jk_F := (RJ0, cJ0_length_8abf5, 1, some .int, false)
abbrev Fr_J0_coder_7d493 : jk_F := (RJ0, cJ0_coder_7d493, 1, some .byte, false)
abbrev Fr_J0_charAt_5068e : jk_F := (RJ0, cJ0_charAt_5068e, 2, some .char, false)
abbrev Fr_J0_isLatin1_aae02 : jk_F := (RJ0, cJ0_isLatin1_aae02, 1, some .boolean, false)
abbrev Fr_J1_charAt_3b067 : jk_F := (RJ1, cJ1_charAt_3b067, 2, some .char, false)
abbrev Fr_J0_checkIndex_df160 : jk_F := (RJ0, cJ0_checkIndex_df160, 2, none, false)
abbrev Fr_J3_checkIndex_8e157 : jk_F := (RJ3, cJ3_checkIndex_8e157, 3, some .int, false)
abbrev Fr_J2_charAt_3b067 : jk_F := (RJ2, cJ2_charAt_3b067, 2, some .char, false)
abbrev Fr_J2_checkIndex_2214a : jk_F := (RJ2, cJ2_checkIndex_2214a, 2, none, false)
abbrev Fr_J2_length_9d52b : jk_F := (RJ2, cJ2_length_9d52b, 1, some .int, false)
abbrev Fr_J2_getChar_3b067 : jk_F := (RJ2, cJ2_getChar_3b067, 2, some .char, false)
abbrev Fr_X5_isAt : jk_F := (RX5, cX5_isAt, 3, some .boolean, false)
abbrev Fr_X8_tells : jk_F := (RX8, cX8_tells, 2, some .int, false)
abbrev Fr_X5_hasRoom : jk_F := (RX5, cX5_hasRoom, 2, some .boolean, false)
abbrev Fr_X5_sortOf : jk_F := (RX5, cX5_sortOf, 3, some .int, false)
abbrev Fr_X5_readNumber : jk_F := (RX5, cX5_readNumber, 6, some .boolean, false)
abbrev Fr_X5_isHere : jk_F := (RX5, cX5_isHere, 2, some .boolean, false)
abbrev Fr_X5_digitHere : jk_F := (RX5, cX5_digitHere, 2, some .int, false)
abbrev Fr_X5_apply : jk_F := (RX5, cX5_apply, 6, none, false)
abbrev Fr_X10_fault : jk_F := (RX10, cX10_fault, 1, some .int, false)
abbrev Fr_X10_bars : jk_F := (RX10, cX10_bars, 4, some .int, false)
abbrev Fr_X10_way : jk_F := (RX10, cX10_way, 4, some .int, false)
abbrev Fr_X10_hum : jk_F := (RX10, cX10_hum, 3, some .int, false)
abbrev Fr_X10_filled : jk_F := (RX10, cX10_filled, 2, some .int, false)
abbrev Fr_X0_filledNow : jk_F := (RX0, cX0_filledNow, 4, some .int, false)
abbrev Fr_X0_servedNow : jk_F := (RX0, cX0_servedNow, 1, some .int, false)
abbrev Fr_X0_reachFrom : jk_F := (RX0, cX0_reachFrom, 4, none, false)
abbrev Fr_X0_servedBy : jk_F := (RX0, cX0_servedBy, 8, some .int, false)
abbrev Fr_X0_reachOf : jk_F := (RX0, cX0_reachOf, 3, some .int, false)
abbrev Fr_X10_put : jk_F := (RX10, cX10_put, 2, some .int, false)
abbrev Fr_X3_begin : jk_F := (RX3, cX3_begin, 1, none, false)
abbrev Fr_X2_wholeWorth : jk_F := (RX2, cX2_wholeWorth, 4, some .int, false)
abbrev Fr_X3_bestPair : jk_F := (RX3, cX3_bestPair, 6, some .int, false)
abbrev Fr_X3_reachFromAll : jk_F := (RX3, cX3_reachFromAll, 2, none, false)
abbrev Fr_X3_bestPlace : jk_F := (RX3, cX3_bestPlace, 6, some .int, false)
abbrev Fr_X10_channel : jk_F := (RX10, cX10_channel, 3, some .int, false)
abbrev Fr_X10_rests : jk_F := (RX10, cX10_rests, 2, some .int, false)
abbrev Fr_X6_begin : jk_F := (RX6, cX6_begin, 2, none, false)
abbrev Fr_X6_goOnce : jk_F := (RX6, cX6_goOnce, 4, some .boolean, false)
abbrev Fr_X6_quietestFor : jk_F := (RX6, cX6_quietestFor, 6, some .int, false)
abbrev Fr_X6_madeOn : jk_F := (RX6, cX6_madeOn, 5, some .int, false)
abbrev Fr_X6_channelAt : jk_F := (RX6, cX6_channelAt, 2, some .int, false)
abbrev Fr_X10_goesTo : jk_F := (RX10, cX10_goesTo, 4, some .int, false)
abbrev Fr_X10_moved : jk_F := (RX10, cX10_moved, 1, some .int, false)
abbrev Fr_X3_bestAway : jk_F := (RX3, cX3_bestAway, 7, some .int, false)
abbrev Fr_X10_doors : jk_F := (RX10, cX10_doors, 1, some .int, false)
abbrev Fr_X3_bestDoors : jk_F := (RX3, cX3_bestDoors, 7, some .int, false)
abbrev Fr_X3_findDoors : jk_F := (RX3, cX3_findDoors, 4, some .int, false)
abbrev Fr_X10_count : jk_F := (RX10, cX10_count, 4, some .int, false)
abbrev Fr_X0_betterBars : jk_F := (RX0, cX0_betterBars, 2, some .int, false)
abbrev Fr_X10_fits : jk_F := (RX10, cX10_fits, 7, some .int, false)
abbrev Fr_X10_pairsRefusal : jk_F := (RX10, cX10_pairsRefusal, 5, some .int, false)
abbrev Fr_X10_toldRefusal : jk_F := (RX10, cX10_toldRefusal, 4, some .int, false)
abbrev Fr_X7_look : jk_F := (RX7, cX7_look, 4, none, false)
abbrev Fr_X7_agrees : jk_F := (RX7, cX7_agrees, 6, some .boolean, false)
abbrev Fr_X7_fitting : jk_F := (RX7, cX7_fitting, 2, some .int, false)
abbrev Fr_X10_next : jk_F := (RX10, cX10_next, 5, some .int, false)
abbrev Fr_X7_bestMeasure : jk_F := (RX7, cX7_bestMeasure, 5, some .int, false)
abbrev Fr_X7_worstLeft : jk_F := (RX7, cX7_worstLeft, 5, some .int, false)
abbrev Fr_X10_near : jk_F := (RX10, cX10_near, 6, some .int, false)
abbrev Fr_X10_minute : jk_F := (RX10, cX10_minute, 1, some .int, false)
abbrev Fr_X3_bestMinute : jk_F := (RX3, cX3_bestMinute, 6, some .int, false)
abbrev Fr_X10_blame : jk_F := (RX10, cX10_blame, 6, some .int, false)
abbrev Fr_X10_judge : jk_F := (RX10, cX10_judge, 5, some .int, false)
abbrev Fr_X10_firstWrong : jk_F := (RX10, cX10_firstWrong, 5, some .int, false)
abbrev Fr_X10_hops : jk_F := (RX10, cX10_hops, 6, some .int, false)
abbrev Fr_X10_calmest : jk_F := (RX10, cX10_calmest, 7, some .int, false)
abbrev Fr_X10_hopsOf : jk_F := (RX10, cX10_hopsOf, 8, some .int, false)
abbrev Fr_X0_clingsThen : jk_F := (RX0, cX0_clingsThen, 6, some .int, false)
abbrev Fr_X10_evening : jk_F := (RX10, cX10_evening, 4, some .int, false)
abbrev Fr_X10_passMinute : jk_F := (RX10, cX10_passMinute, 4, none, false)
abbrev Fr_X10_weeks : jk_F := (RX10, cX10_weeks, 4, some .int, false)
abbrev Fr_X10_chance : jk_F := (RX10, cX10_chance, 5, none, false)
abbrev Fr_X2_draw : jk_F := (RX2, cX2_draw, 2, some .int, false)
abbrev Fr_X2_tune : jk_F := (RX2, cX2_tune, 3, none, false)
abbrev Fr_X10_seed : jk_F := (RX10, cX10_seed, 3, some .int, false)
abbrev Fr_X10_act : jk_F := (RX10, cX10_act, 5, some .int, false)
abbrev Fr_X4_clear : jk_F := (RX4, cX4_clear, 1, none, false)
abbrev Fr_X4_cast : jk_F := (RX4, cX4_cast, 3, none, false)
abbrev Fr_X10_run : jk_F := (RX10, cX10_run, 10, some .int, false)
abbrev Fr_X4_kindWithBody : jk_F := (RX4, cX4_kindWithBody, 4, some .int, false)
abbrev Fr_X4_bodyOf : jk_F := (RX4, cX4_bodyOf, 3, some .int, false)
abbrev Fr_X4_note : jk_F := (RX4, cX4_note, 2, none, false)
abbrev Fr_X10_trace : jk_F := (RX10, cX10_trace, 2, some .int, false)
abbrev Fr_X4_bodyAt : jk_F := (RX4, cX4_bodyAt, 2, some .int, false)
abbrev Fr_X10_image : jk_F := (RX10, cX10_image, 1, some .int, false)
abbrev Fr_X10_restore : jk_F := (RX10, cX10_restore, 3, some .int, false)
abbrev Fr_X10_status : jk_F := (RX10, cX10_status, 3, some .int, false)
abbrev Fr_X11_init : jk_F := (RX11, cX11_init, 1, none, true)
abbrev Fr_X11_row : jk_F := (RX11, cX11_row, 5, some .int, false)
abbrev Fr_X11_isShelf : jk_F := (RX11, cX11_isShelf, 2, some .boolean, false)
abbrev Fr_X11_no : jk_F := (RX11, cX11_no, 2, some .int, false)
abbrev Fr_X11_set : jk_F := (RX11, cX11_set, 5, some .int, false)
abbrev Fr_X11_copy : jk_F := (RX11, cX11_copy, 7, some .int, false)
abbrev Fr_X11_element : jk_F := (RX11, cX11_element, 3, some .long, false)
abbrev Fr_X11_show : jk_F := (RX11, cX11_show, 3, some .int, false)
abbrev Fr_X11_isThing : jk_F := (RX11, cX11_isThing, 2, some .boolean, false)
abbrev Fr_X11_holds : jk_F := (RX11, cX11_holds, 2, some .int, false)
abbrev Fr_X11_says : jk_F := (RX11, cX11_says, 6, some .int, false)
abbrev Fr_X11_hums : jk_F := (RX11, cX11_hums, 4, some .int, false)
abbrev Fr_X11_far : jk_F := (RX11, cX11_far, 3, some .int, false)
abbrev Fr_X11_apart : jk_F := (RX11, cX11_apart, 3, some .int, false)
abbrev Fr_X11_loss : jk_F := (RX11, cX11_loss, 3, some .int, false)
abbrev Fr_X11_side : jk_F := (RX11, cX11_side, 3, some .int, false)
abbrev Fr_X11_isFrom : jk_F := (RX11, cX11_isFrom, 4, some .boolean, false)
abbrev Fr_X11_thing : jk_F := (RX11, cX11_thing, 4, some .int, false)
abbrev Fr_X11_isCell : jk_F := (RX11, cX11_isCell, 2, some .boolean, false)
abbrev Fr_X11_addsThing : jk_F := (RX11, cX11_addsThing, 4, some .int, false)
abbrev Fr_X11_neighbour : jk_F := (RX11, cX11_neighbour, 3, some .int, false)
abbrev Fr_X11_addsNeighbour : jk_F := (RX11, cX11_addsNeighbour, 3, some .int, false)
abbrev Fr_X11_device : jk_F := (RX11, cX11_device, 4, some .int, false)
abbrev Fr_X11_addsDevice : jk_F := (RX11, cX11_addsDevice, 4, some .int, false)
abbrev Fr_X11_box : jk_F := (RX11, cX11_box, 4, some .int, false)
abbrev Fr_X11_noTen : jk_F := (RX11, cX11_noTen, 2, some .int, false)
abbrev Fr_X11_ask : jk_F := (RX11, cX11_ask, 4, some .int, false)
abbrev Fr_X11_isAsked : jk_F := (RX11, cX11_isAsked, 3, some .boolean, false)
abbrev Fr_X11_tells : jk_F := (RX11, cX11_tells, 3, none, false)
abbrev Fr_X11_shut : jk_F := (RX11, cX11_shut, 4, some .int, false)
abbrev Fr_X11_move : jk_F := (RX11, cX11_move, 4, some .int, false)
abbrev Fr_X11_thingOf : jk_F := (RX11, cX11_thingOf, 3, some .int, false)
abbrev Fr_X11_deviceOf : jk_F := (RX11, cX11_deviceOf, 3, some .int, false)
abbrev Fr_X11_looks : jk_F := (RX11, cX11_looks, 4, none, false)
abbrev Fr_X11_dinOf : jk_F := (RX11, cX11_dinOf, 5, some .int, false)
abbrev Fr_X11_pace : jk_F := (RX11, cX11_pace, 5, some .int, false)
abbrev Fr_X11_barsAt : jk_F := (RX11, cX11_barsAt, 4, some .int, false)
abbrev Fr_X11_strength : jk_F := (RX11, cX11_strength, 4, some .int, false)
abbrev Fr_X11_wayLoss : jk_F := (RX11, cX11_wayLoss, 10, some .int, false)
abbrev Fr_X11_best : jk_F := (RX11, cX11_best, 4, some .int, false)
abbrev Fr_X11_house : jk_F := (RX11, cX11_house, 5, some .int, false)
abbrev Fr_X11_wanted : jk_F := (RX11, cX11_wanted, 2, some .int, false)
abbrev Fr_X11_all : jk_F := (RX11, cX11_all, 4, none, false)
abbrev Fr_X11_carries : jk_F := (RX11, cX11_carries, 7, some .int, false)
abbrev Fr_X11_item : jk_F := (RX11, cX11_item, 4, some .boolean, false)
abbrev Fr_X11_stands : jk_F := (RX11, cX11_stands, 4, some .boolean, false)
abbrev Fr_X11_wrong : jk_F := (RX11, cX11_wrong, 2, some .boolean, false)
abbrev Fr_X11_word : jk_F := (RX11, cX11_word, 6, some .int, false)
abbrev Fr_X11_reads : jk_F := (RX11, cX11_reads, 2, some .boolean, false)
abbrev Fr_X11_isDigit : jk_F := (RX11, cX11_isDigit, 1, some .boolean, false)
abbrev Fr_X11_isSo : jk_F := (RX11, cX11_isSo, 3, some .boolean, false)
abbrev Fr_X11_fault : jk_F := (RX11, cX11_fault, 1, some .int, false)
abbrev Fr_X11_bars : jk_F := (RX11, cX11_bars, 4, some .int, false)
abbrev Fr_X11_way : jk_F := (RX11, cX11_way, 4, some .int, false)
abbrev Fr_X11_hum : jk_F := (RX11, cX11_hum, 3, some .int, false)
abbrev Fr_X11_filled : jk_F := (RX11, cX11_filled, 2, some .int, false)
abbrev Fr_X11_filledNow : jk_F := (RX11, cX11_filledNow, 3, some .int, false)
abbrev Fr_X11_served : jk_F := (RX11, cX11_served, 3, some .int, false)
abbrev Fr_X11_put : jk_F := (RX11, cX11_put, 2, some .int, false)
abbrev Fr_X11_bestTwo : jk_F := (RX11, cX11_bestTwo, 7, some .int, false)
abbrev Fr_X11_bestPlace : jk_F := (RX11, cX11_bestPlace, 8, some .int, false)
abbrev Fr_X11_channel : jk_F := (RX11, cX11_channel, 6, some .int, false)
abbrev Fr_X11_rests : jk_F := (RX11, cX11_rests, 1, some .int, false)
abbrev Fr_X11_goes : jk_F := (RX11, cX11_goes, 3, some .int, false)
abbrev Fr_X11_doesRound : jk_F := (RX11, cX11_doesRound, 6, some .boolean, false)
abbrev Fr_X11_madeAt : jk_F := (RX11, cX11_madeAt, 5, some .int, false)
abbrev Fr_X11_goesTo : jk_F := (RX11, cX11_goesTo, 3, some .int, false)
abbrev Fr_X11_moved : jk_F := (RX11, cX11_moved, 5, some .int, false)
abbrev Fr_X11_doors : jk_F := (RX11, cX11_doors, 6, some .int, false)
abbrev Fr_X11_count : jk_F := (RX11, cX11_count, 5, some .int, false)
abbrev Fr_X11_better : jk_F := (RX11, cX11_better, 4, some .int, false)
abbrev Fr_X11_fits : jk_F := (RX11, cX11_fits, 5, some .int, false)
abbrev Fr_X11_barsOfFits : jk_F := (RX11, cX11_barsOfFits, 5, some .int, false)
abbrev Fr_X11_intAt : jk_F := (RX11, cX11_intAt, 3, some .int, false)
abbrev Fr_X11_findsFits : jk_F := (RX11, cX11_findsFits, 8, none, false)
abbrev Fr_X11_next : jk_F := (RX11, cX11_next, 10, some .int, false)
abbrev Fr_X11_worstAt : jk_F := (RX11, cX11_worstAt, 5, some .int, false)
abbrev Fr_X11_near : jk_F := (RX11, cX11_near, 7, some .int, false)
abbrev Fr_X11_minute : jk_F := (RX11, cX11_minute, 6, some .int, false)
abbrev Fr_X11_blame : jk_F := (RX11, cX11_blame, 4, some .int, false)
abbrev Fr_X11_judge : jk_F := (RX11, cX11_judge, 4, some .int, false)
abbrev Fr_X11_wrongIn : jk_F := (RX11, cX11_wrongIn, 4, some .int, false)
abbrev Fr_X11_hops : jk_F := (RX11, cX11_hops, 7, some .int, false)
abbrev Fr_X11_hopsBy : jk_F := (RX11, cX11_hopsBy, 7, some .int, false)
abbrev Fr_X11_letsGo : jk_F := (RX11, cX11_letsGo, 4, some .boolean, false)
abbrev Fr_X11_evening : jk_F := (RX11, cX11_evening, 5, some .int, false)
abbrev Fr_X11_passes : jk_F := (RX11, cX11_passes, 3, some .int, false)
abbrev Fr_X11_weeks : jk_F := (RX11, cX11_weeks, 7, some .int, false)
abbrev Fr_X11_draw : jk_F := (RX11, cX11_draw, 2, some .int, false)
abbrev Fr_X11_seed : jk_F := (RX11, cX11_seed, 3, some .int, false)
abbrev Fr_X11_act : jk_F := (RX11, cX11_act, 4, some .int, false)
abbrev Fr_X11_standing : jk_F := (RX11, cX11_standing, 5, some .int, false)
abbrev Fr_X11_body : jk_F := (RX11, cX11_body, 2, none, false)
abbrev Fr_X11_taking : jk_F := (RX11, cX11_taking, 7, some .int, false)
abbrev Fr_X11_humsTo : jk_F := (RX11, cX11_humsTo, 5, some .int, false)
abbrev Fr_X11_trace : jk_F := (RX11, cX11_trace, 2, some .int, false)
abbrev Fr_X11_image : jk_F := (RX11, cX11_image, 1, some .int, false)
abbrev Fr_X11_restore : jk_F := (RX11, cX11_restore, 2, some .int, false)
abbrev Fr_X11_status : jk_F := (RX11, cX11_status, 2, some .int, false)
set_option maxRecDepth 20000 in
theorem ly_0_0 : u_lay RX0 TX0 0 ∈ jk_gt := jk_t1 189 rfl rfl
set_option maxRecDepth 20000 in
theorem ly_0_1 : u_lay RX0 TX0 1 ∈ jk_gt := jk_t1 191 rfl rfl
set_option maxRecDepth 20000 in
theorem ly_0_2 : u_lay RX0 TX0 2 ∈ jk_gt := jk_t1 193 rfl rfl
set_option maxRecDepth 20000 in
theorem ly_0_3 : u_lay RX0 TX0 3 ∈ jk_gt := jk_t1 195 rfl rfl
set_option maxRecDepth 20000 in
theorem ly_0_4 : u_lay RX0 TX0 4 ∈ jk_gt := jk_t1 197 rfl rfl
set_option maxRecDepth 20000 in
theorem ly_0_5 : u_lay RX0 TX0 5 ∈ jk_gt := jk_t1 199 rfl rfl
set_option maxRecDepth 20000 in
theorem ly_0_6 : u_lay RX0 TX0 6 ∈ jk_gt := jk_t1 201 rfl rfl
set_option maxRecDepth 20000 in
theorem lyy_0 : ∀ w ∈ u_ws RX0 TX0 7, w ∈ jk_gt := by
  show ∀ w ∈ [u_lay RX0 TX0 0, u_lay RX0 TX0 1, u_lay RX0 TX0 2, u_lay RX0 TX0 3, u_lay RX0 TX0 4, u_lay RX0 TX0 5, u_lay RX0 TX0 6], w ∈ jk_gt
  exact List.forall_mem_cons.mpr ⟨ly_0_0, List.forall_mem_cons.mpr ⟨ly_0_1, List.forall_mem_cons.mpr ⟨ly_0_2, List.forall_mem_cons.mpr ⟨ly_0_3, List.forall_mem_cons.mpr ⟨ly_0_4, List.forall_mem_cons.mpr ⟨ly_0_5, List.forall_mem_cons.mpr ⟨ly_0_6, fun _ h => absurd h List.not_mem_nil⟩⟩⟩⟩⟩⟩⟩
set_option maxRecDepth 20000 in
theorem cf_0 : jk_cf 0 RX0 TX0 7 := ⟨rfl, rfl, lyy_0, tyX0_ok, nmX0⟩
set_option maxRecDepth 20000 in
theorem ly_1_0 : u_lay RX1 TX1 0 ∈ jk_gt := jk_t1 93 rfl rfl
set_option maxRecDepth 20000 in
theorem ly_1_1 : u_lay RX1 TX1 1 ∈ jk_gt := jk_t1 95 rfl rfl
set_option maxRecDepth 20000 in
theorem ly_1_2 : u_lay RX1 TX1 2 ∈ jk_gt := jk_t1 97 rfl rfl
set_option maxRecDepth 20000 in
theorem ly_1_3 : u_lay RX1 TX1 3 ∈ jk_gt := jk_t1 99 rfl rfl
set_option maxRecDepth 20000 in
theorem lyy_1 : ∀ w ∈ u_ws RX1 TX1 4, w ∈ jk_gt := by
  show ∀ w ∈ [u_lay RX1 TX1 0, u_lay RX1 TX1 1, u_lay RX1 TX1 2, u_lay RX1 TX1 3], w ∈ jk_gt
  exact List.forall_mem_cons.mpr ⟨ly_1_0, List.forall_mem_cons.mpr ⟨ly_1_1, List.forall_mem_cons.mpr ⟨ly_1_2, List.forall_mem_cons.mpr ⟨ly_1_3, fun _ h => absurd h List.not_mem_nil⟩⟩⟩⟩
set_option maxRecDepth 20000 in
theorem cf_1 : jk_cf 1 RX1 TX1 4 := ⟨rfl, rfl, lyy_1, tyX1_ok, nmX1⟩
set_option maxRecDepth 20000 in
theorem ly_2_0 : u_lay RX2 TX2 0 ∈ jk_gt := jk_t1 146 rfl rfl
set_option maxRecDepth 20000 in
theorem ly_2_1 : u_lay RX2 TX2 1 ∈ jk_gt := jk_t1 148 rfl rfl
set_option maxRecDepth 20000 in
theorem ly_2_2 : u_lay RX2 TX2 2 ∈ jk_gt := jk_t1 150 rfl rfl
set_option maxRecDepth 20000 in
theorem ly_2_3 : u_lay RX2 TX2 3 ∈ jk_gt := jk_t1 152 rfl rfl
set_option maxRecDepth 20000 in
theorem ly_2_4 : u_lay RX2 TX2 4 ∈ jk_gt := jk_t1 154 rfl rfl
set_option maxRecDepth 20000 in
theorem ly_2_5 : u_lay RX2 TX2 5 ∈ jk_gt := jk_t1 156 rfl rfl
set_option maxRecDepth 20000 in
theorem ly_2_6 : u_lay RX2 TX2 6 ∈ jk_gt := jk_t1 158 rfl rfl
set_option maxRecDepth 20000 in
theorem ly_2_7 : u_lay RX2 TX2 7 ∈ jk_gt := jk_t1 160 rfl rfl
set_option maxRecDepth 20000 in
theorem ly_2_8 : u_lay RX2 TX2 8 ∈ jk_gt := jk_t1 162 rfl rfl
set_option maxRecDepth 20000 in
theorem ly_2_9 : u_lay RX2 TX2 9 ∈ jk_gt := jk_t1 164 rfl rfl
set_option maxRecDepth 20000 in
theorem ly_2_10 : u_lay RX2 TX2 10 ∈ jk_gt := jk_t1 166 rfl rfl
set_option maxRecDepth 20000 in
theorem ly_2_11 : u_lay RX2 TX2 11 ∈ jk_gt := jk_t1 168 rfl rfl
set_option maxRecDepth 20000 in
theorem ly_2_12 : u_lay RX2 TX2 12 ∈ jk_gt := jk_t1 170 rfl rfl
set_option maxRecDepth 20000 in
theorem ly_2_13 : u_lay RX2 TX2 13 ∈ jk_gt := jk_t1 172 rfl rfl
set_option maxRecDepth 20000 in
theorem lyy_2 : ∀ w ∈ u_ws RX2 TX2 14, w ∈ jk_gt := by
  show ∀ w ∈ [u_lay RX2 TX2 0, u_lay RX2 TX2 1, u_lay RX2 TX2 2, u_lay RX2 TX2 3, u_lay RX2 TX2 4, u_lay RX2 TX2 5, u_lay RX2 TX2 6, u_lay RX2 TX2 7, u_lay RX2 TX2 8, u_lay RX2 TX2 9, u_lay RX2 TX2 10, u_lay RX2 TX2 11, u_lay RX2 TX2 12, u_lay RX2 TX2 13], w ∈ jk_gt
  exact List.forall_mem_cons.mpr ⟨ly_2_0, List.forall_mem_cons.mpr ⟨ly_2_1, List.forall_mem_cons.mpr ⟨ly_2_2, List.forall_mem_cons.mpr ⟨ly_2_3, List.forall_mem_cons.mpr ⟨ly_2_4, List.forall_mem_cons.mpr ⟨ly_2_5, List.forall_mem_cons.mpr ⟨ly_2_6, List.forall_mem_cons.mpr ⟨ly_2_7, List.forall_mem_cons.mpr ⟨ly_2_8, List.forall_mem_cons.mpr ⟨ly_2_9, List.forall_mem_cons.mpr ⟨ly_2_10, List.forall_mem_cons.mpr ⟨ly_2_11, List.forall_mem_cons.mpr ⟨ly_2_12, List.forall_mem_cons.mpr ⟨ly_2_13, fun _ h => absurd h List.not_mem_nil⟩⟩⟩⟩⟩⟩⟩⟩⟩⟩⟩⟩⟩⟩
set_option maxRecDepth 20000 in
theorem cf_2 : jk_cf 2 RX2 TX2 14 := ⟨rfl, rfl, lyy_2, tyX2_ok, nmX2⟩
set_option maxRecDepth 20000 in
theorem ly_3_0 : u_lay RX3 TX3 0 ∈ jk_gt := jk_t1 217 rfl rfl
set_option maxRecDepth 20000 in
theorem ly_3_1 : u_lay RX3 TX3 1 ∈ jk_gt := jk_t1 219 rfl rfl
set_option maxRecDepth 20000 in
theorem ly_3_2 : u_lay RX3 TX3 2 ∈ jk_gt := jk_t1 221 rfl rfl
set_option maxRecDepth 20000 in
theorem ly_3_3 : u_lay RX3 TX3 3 ∈ jk_gt := jk_t1 223 rfl rfl
set_option maxRecDepth 20000 in
theorem ly_3_4 : u_lay RX3 TX3 4 ∈ jk_gt := jk_t1 225 rfl rfl
set_option maxRecDepth 20000 in
theorem lyy_3 : ∀ w ∈ u_ws RX3 TX3 5, w ∈ jk_gt := by
  show ∀ w ∈ [u_lay RX3 TX3 0, u_lay RX3 TX3 1, u_lay RX3 TX3 2, u_lay RX3 TX3 3, u_lay RX3 TX3 4], w ∈ jk_gt
  exact List.forall_mem_cons.mpr ⟨ly_3_0, List.forall_mem_cons.mpr ⟨ly_3_1, List.forall_mem_cons.mpr ⟨ly_3_2, List.forall_mem_cons.mpr ⟨ly_3_3, List.forall_mem_cons.mpr ⟨ly_3_4, fun _ h => absurd h List.not_mem_nil⟩⟩⟩⟩⟩
set_option maxRecDepth 20000 in
theorem cf_3 : jk_cf 3 RX3 TX3 5 := ⟨rfl, rfl, lyy_3, tyX3_ok, nmX3⟩
set_option maxRecDepth 20000 in
theorem ly_4_0 : u_lay RX4 TX4 0 ∈ jk_gt := jk_t2 89 rfl rfl
set_option maxRecDepth 20000 in
theorem ly_4_1 : u_lay RX4 TX4 1 ∈ jk_gt := jk_t2 91 rfl rfl
set_option maxRecDepth 20000 in
theorem ly_4_2 : u_lay RX4 TX4 2 ∈ jk_gt := jk_t2 93 rfl rfl
set_option maxRecDepth 20000 in
theorem ly_4_3 : u_lay RX4 TX4 3 ∈ jk_gt := jk_t2 95 rfl rfl
set_option maxRecDepth 20000 in
theorem ly_4_4 : u_lay RX4 TX4 4 ∈ jk_gt := jk_t2 97 rfl rfl
set_option maxRecDepth 20000 in
theorem lyy_4 : ∀ w ∈ u_ws RX4 TX4 5, w ∈ jk_gt := by
  show ∀ w ∈ [u_lay RX4 TX4 0, u_lay RX4 TX4 1, u_lay RX4 TX4 2, u_lay RX4 TX4 3, u_lay RX4 TX4 4], w ∈ jk_gt
  exact List.forall_mem_cons.mpr ⟨ly_4_0, List.forall_mem_cons.mpr ⟨ly_4_1, List.forall_mem_cons.mpr ⟨ly_4_2, List.forall_mem_cons.mpr ⟨ly_4_3, List.forall_mem_cons.mpr ⟨ly_4_4, fun _ h => absurd h List.not_mem_nil⟩⟩⟩⟩⟩
set_option maxRecDepth 20000 in
theorem cf_4 : jk_cf 4 RX4 TX4 5 := ⟨rfl, rfl, lyy_4, tyX4_ok, nmX4⟩
set_option maxRecDepth 20000 in
theorem ly_5_0 : u_lay RX5 TX5 0 ∈ jk_gt := jk_t2 63 rfl rfl
set_option maxRecDepth 20000 in
theorem ly_5_1 : u_lay RX5 TX5 1 ∈ jk_gt := jk_t2 65 rfl rfl
set_option maxRecDepth 20000 in
theorem ly_5_2 : u_lay RX5 TX5 2 ∈ jk_gt := jk_t2 67 rfl rfl
set_option maxRecDepth 20000 in
theorem ly_5_3 : u_lay RX5 TX5 3 ∈ jk_gt := jk_t2 69 rfl rfl
set_option maxRecDepth 20000 in
theorem ly_5_4 : u_lay RX5 TX5 4 ∈ jk_gt := jk_t2 71 rfl rfl
set_option maxRecDepth 20000 in
theorem lyy_5 : ∀ w ∈ u_ws RX5 TX5 5, w ∈ jk_gt := by
  show ∀ w ∈ [u_lay RX5 TX5 0, u_lay RX5 TX5 1, u_lay RX5 TX5 2, u_lay RX5 TX5 3, u_lay RX5 TX5 4], w ∈ jk_gt
  exact List.forall_mem_cons.mpr ⟨ly_5_0, List.forall_mem_cons.mpr ⟨ly_5_1, List.forall_mem_cons.mpr ⟨ly_5_2, List.forall_mem_cons.mpr ⟨ly_5_3, List.forall_mem_cons.mpr ⟨ly_5_4, fun _ h => absurd h List.not_mem_nil⟩⟩⟩⟩⟩
set_option maxRecDepth 20000 in
theorem cf_5 : jk_cf 5 RX5 TX5 5 := ⟨rfl, rfl, lyy_5, tyX5_ok, nmX5⟩
set_option maxRecDepth 20000 in
theorem ly_6_0 : u_lay RX6 TX6 0 ∈ jk_gt := jk_t2 20 rfl rfl
set_option maxRecDepth 20000 in
theorem ly_6_1 : u_lay RX6 TX6 1 ∈ jk_gt := jk_t2 22 rfl rfl
set_option maxRecDepth 20000 in
theorem ly_6_2 : u_lay RX6 TX6 2 ∈ jk_gt := jk_t2 24 rfl rfl
set_option maxRecDepth 20000 in
theorem lyy_6 : ∀ w ∈ u_ws RX6 TX6 3, w ∈ jk_gt := by
  show ∀ w ∈ [u_lay RX6 TX6 0, u_lay RX6 TX6 1, u_lay RX6 TX6 2], w ∈ jk_gt
  exact List.forall_mem_cons.mpr ⟨ly_6_0, List.forall_mem_cons.mpr ⟨ly_6_1, List.forall_mem_cons.mpr ⟨ly_6_2, fun _ h => absurd h List.not_mem_nil⟩⟩⟩
set_option maxRecDepth 20000 in
theorem cf_6 : jk_cf 6 RX6 TX6 3 := ⟨rfl, rfl, lyy_6, tyX6_ok, nmX6⟩
set_option maxRecDepth 20000 in
theorem ly_7_0 : u_lay RX7 TX7 0 ∈ jk_gt := jk_t2 0 rfl rfl
set_option maxRecDepth 20000 in
theorem ly_7_1 : u_lay RX7 TX7 1 ∈ jk_gt := jk_t2 2 rfl rfl
set_option maxRecDepth 20000 in
theorem ly_7_2 : u_lay RX7 TX7 2 ∈ jk_gt := jk_t2 4 rfl rfl
set_option maxRecDepth 20000 in
theorem ly_7_3 : u_lay RX7 TX7 3 ∈ jk_gt := jk_t2 6 rfl rfl
set_option maxRecDepth 20000 in
theorem ly_7_4 : u_lay RX7 TX7 4 ∈ jk_gt := jk_t2 8 rfl rfl
set_option maxRecDepth 20000 in
theorem lyy_7 : ∀ w ∈ u_ws RX7 TX7 5, w ∈ jk_gt := by
  show ∀ w ∈ [u_lay RX7 TX7 0, u_lay RX7 TX7 1, u_lay RX7 TX7 2, u_lay RX7 TX7 3, u_lay RX7 TX7 4], w ∈ jk_gt
  exact List.forall_mem_cons.mpr ⟨ly_7_0, List.forall_mem_cons.mpr ⟨ly_7_1, List.forall_mem_cons.mpr ⟨ly_7_2, List.forall_mem_cons.mpr ⟨ly_7_3, List.forall_mem_cons.mpr ⟨ly_7_4, fun _ h => absurd h List.not_mem_nil⟩⟩⟩⟩⟩
set_option maxRecDepth 20000 in
theorem cf_7 : jk_cf 7 RX7 TX7 5 := ⟨rfl, rfl, lyy_7, tyX7_ok, nmX7⟩
set_option maxRecDepth 20000 in
theorem ly_8_0 : u_lay RX8 TX8 0 ∈ jk_gt := jk_t2 47 rfl rfl
set_option maxRecDepth 20000 in
theorem ly_8_1 : u_lay RX8 TX8 1 ∈ jk_gt := jk_t2 49 rfl rfl
set_option maxRecDepth 20000 in
theorem ly_8_2 : u_lay RX8 TX8 2 ∈ jk_gt := jk_t2 51 rfl rfl
set_option maxRecDepth 20000 in
theorem ly_8_3 : u_lay RX8 TX8 3 ∈ jk_gt := jk_t2 53 rfl rfl
set_option maxRecDepth 20000 in
theorem lyy_8 : ∀ w ∈ u_ws RX8 TX8 4, w ∈ jk_gt := by
  show ∀ w ∈ [u_lay RX8 TX8 0, u_lay RX8 TX8 1, u_lay RX8 TX8 2, u_lay RX8 TX8 3], w ∈ jk_gt
  exact List.forall_mem_cons.mpr ⟨ly_8_0, List.forall_mem_cons.mpr ⟨ly_8_1, List.forall_mem_cons.mpr ⟨ly_8_2, List.forall_mem_cons.mpr ⟨ly_8_3, fun _ h => absurd h List.not_mem_nil⟩⟩⟩⟩
set_option maxRecDepth 20000 in
theorem cf_8 : jk_cf 8 RX8 TX8 4 := ⟨rfl, rfl, lyy_8, tyX8_ok, nmX8⟩
set_option maxRecDepth 20000 in
theorem ly_9_0 : u_lay RX9 TX9 0 ∈ jk_gt := jk_t1 62 rfl rfl
set_option maxRecDepth 20000 in
theorem ly_9_1 : u_lay RX9 TX9 1 ∈ jk_gt := jk_t1 64 rfl rfl
set_option maxRecDepth 20000 in
theorem ly_9_2 : u_lay RX9 TX9 2 ∈ jk_gt := jk_t1 66 rfl rfl
set_option maxRecDepth 20000 in
theorem ly_9_3 : u_lay RX9 TX9 3 ∈ jk_gt := jk_t1 68 rfl rfl
set_option maxRecDepth 20000 in
theorem lyy_9 : ∀ w ∈ u_ws RX9 TX9 4, w ∈ jk_gt := by
  show ∀ w ∈ [u_lay RX9 TX9 0, u_lay RX9 TX9 1, u_lay RX9 TX9 2, u_lay RX9 TX9 3], w ∈ jk_gt
  exact List.forall_mem_cons.mpr ⟨ly_9_0, List.forall_mem_cons.mpr ⟨ly_9_1, List.forall_mem_cons.mpr ⟨ly_9_2, List.forall_mem_cons.mpr ⟨ly_9_3, fun _ h => absurd h List.not_mem_nil⟩⟩⟩⟩
set_option maxRecDepth 20000 in
theorem cf_9 : jk_cf 9 RX9 TX9 4 := ⟨rfl, rfl, lyy_9, tyX9_ok, nmX9⟩
set_option maxRecDepth 20000 in
theorem ly_10_0 : u_lay RX10 TX10 0 ∈ jk_gt := jk_t2 116 rfl rfl
set_option maxRecDepth 20000 in
theorem ly_10_1 : u_lay RX10 TX10 1 ∈ jk_gt := jk_t2 118 rfl rfl
set_option maxRecDepth 20000 in
theorem ly_10_2 : u_lay RX10 TX10 2 ∈ jk_gt := jk_t2 120 rfl rfl
set_option maxRecDepth 20000 in
theorem ly_10_3 : u_lay RX10 TX10 3 ∈ jk_gt := jk_t2 122 rfl rfl
set_option maxRecDepth 20000 in
theorem ly_10_4 : u_lay RX10 TX10 4 ∈ jk_gt := jk_t2 124 rfl rfl
set_option maxRecDepth 20000 in
theorem ly_10_5 : u_lay RX10 TX10 5 ∈ jk_gt := jk_t2 126 rfl rfl
set_option maxRecDepth 20000 in
theorem ly_10_6 : u_lay RX10 TX10 6 ∈ jk_gt := jk_t2 128 rfl rfl
set_option maxRecDepth 20000 in
theorem ly_10_7 : u_lay RX10 TX10 7 ∈ jk_gt := jk_t2 130 rfl rfl
set_option maxRecDepth 20000 in
theorem ly_10_8 : u_lay RX10 TX10 8 ∈ jk_gt := jk_t2 132 rfl rfl
set_option maxRecDepth 20000 in
theorem ly_10_9 : u_lay RX10 TX10 9 ∈ jk_gt := jk_t2 134 rfl rfl
set_option maxRecDepth 20000 in
theorem ly_10_10 : u_lay RX10 TX10 10 ∈ jk_gt := jk_t2 136 rfl rfl
set_option maxRecDepth 20000 in
theorem ly_10_11 : u_lay RX10 TX10 11 ∈ jk_gt := jk_t2 138 rfl rfl
set_option maxRecDepth 20000 in
theorem ly_10_12 : u_lay RX10 TX10 12 ∈ jk_gt := jk_t2 140 rfl rfl
set_option maxRecDepth 20000 in
theorem lyy_10 : ∀ w ∈ u_ws RX10 TX10 13, w ∈ jk_gt := by
  show ∀ w ∈ [u_lay RX10 TX10 0, u_lay RX10 TX10 1, u_lay RX10 TX10 2, u_lay RX10 TX10 3, u_lay RX10 TX10 4, u_lay RX10 TX10 5, u_lay RX10 TX10 6, u_lay RX10 TX10 7, u_lay RX10 TX10 8, u_lay RX10 TX10 9, u_lay RX10 TX10 10, u_lay RX10 TX10 11, u_lay RX10 TX10 12], w ∈ jk_gt
  exact List.forall_mem_cons.mpr ⟨ly_10_0, List.forall_mem_cons.mpr ⟨ly_10_1, List.forall_mem_cons.mpr ⟨ly_10_2, List.forall_mem_cons.mpr ⟨ly_10_3, List.forall_mem_cons.mpr ⟨ly_10_4, List.forall_mem_cons.mpr ⟨ly_10_5, List.forall_mem_cons.mpr ⟨ly_10_6, List.forall_mem_cons.mpr ⟨ly_10_7, List.forall_mem_cons.mpr ⟨ly_10_8, List.forall_mem_cons.mpr ⟨ly_10_9, List.forall_mem_cons.mpr ⟨ly_10_10, List.forall_mem_cons.mpr ⟨ly_10_11, List.forall_mem_cons.mpr ⟨ly_10_12, fun _ h => absurd h List.not_mem_nil⟩⟩⟩⟩⟩⟩⟩⟩⟩⟩⟩⟩⟩
set_option maxRecDepth 20000 in
theorem cf_10 : jk_cf 10 RX10 TX10 13 := ⟨rfl, rfl, lyy_10, tyX10_ok, nmX10⟩
set_option maxRecDepth 20000 in
theorem ly_11_0 : u_lay RX11 TX11 0 ∈ jk_gt := jk_t5 196 rfl rfl
set_option maxRecDepth 20000 in
theorem ly_11_1 : u_lay RX11 TX11 1 ∈ jk_gt := jk_t5 198 rfl rfl
set_option maxRecDepth 20000 in
theorem ly_11_2 : u_lay RX11 TX11 2 ∈ jk_gt := jk_t5 200 rfl rfl
set_option maxRecDepth 20000 in
theorem ly_11_3 : u_lay RX11 TX11 3 ∈ jk_gt := jk_t5 202 rfl rfl
set_option maxRecDepth 20000 in
theorem ly_11_4 : u_lay RX11 TX11 4 ∈ jk_gt := jk_t5 204 rfl rfl
set_option maxRecDepth 20000 in
theorem ly_11_5 : u_lay RX11 TX11 5 ∈ jk_gt := jk_t5 206 rfl rfl
set_option maxRecDepth 20000 in
theorem ly_11_6 : u_lay RX11 TX11 6 ∈ jk_gt := jk_t5 208 rfl rfl
set_option maxRecDepth 20000 in
theorem ly_11_7 : u_lay RX11 TX11 7 ∈ jk_gt := jk_t5 210 rfl rfl
set_option maxRecDepth 20000 in
theorem ly_11_8 : u_lay RX11 TX11 8 ∈ jk_gt := jk_t5 212 rfl rfl
set_option maxRecDepth 20000 in
theorem ly_11_9 : u_lay RX11 TX11 9 ∈ jk_gt := jk_t5 214 rfl rfl
set_option maxRecDepth 20000 in
theorem ly_11_10 : u_lay RX11 TX11 10 ∈ jk_gt := jk_t5 216 rfl rfl
set_option maxRecDepth 20000 in
theorem ly_11_11 : u_lay RX11 TX11 11 ∈ jk_gt := jk_t5 218 rfl rfl
set_option maxRecDepth 20000 in
theorem ly_11_12 : u_lay RX11 TX11 12 ∈ jk_gt := jk_t5 220 rfl rfl
set_option maxRecDepth 20000 in
theorem ly_11_13 : u_lay RX11 TX11 13 ∈ jk_gt := jk_t5 222 rfl rfl
set_option maxRecDepth 20000 in
theorem ly_11_14 : u_lay RX11 TX11 14 ∈ jk_gt := jk_t5 224 rfl rfl
set_option maxRecDepth 20000 in
theorem ly_11_15 : u_lay RX11 TX11 15 ∈ jk_gt := jk_t5 226 rfl rfl
set_option maxRecDepth 20000 in
theorem ly_11_16 : u_lay RX11 TX11 16 ∈ jk_gt := jk_t5 228 rfl rfl
set_option maxRecDepth 20000 in
theorem ly_11_17 : u_lay RX11 TX11 17 ∈ jk_gt := jk_t5 230 rfl rfl
set_option maxRecDepth 20000 in
theorem ly_11_18 : u_lay RX11 TX11 18 ∈ jk_gt := jk_t5 232 rfl rfl
set_option maxRecDepth 20000 in
theorem ly_11_19 : u_lay RX11 TX11 19 ∈ jk_gt := jk_t5 234 rfl rfl
set_option maxRecDepth 20000 in
theorem ly_11_20 : u_lay RX11 TX11 20 ∈ jk_gt := jk_t5 236 rfl rfl
set_option maxRecDepth 20000 in
theorem ly_11_21 : u_lay RX11 TX11 21 ∈ jk_gt := jk_t5 238 rfl rfl
set_option maxRecDepth 20000 in
theorem ly_11_22 : u_lay RX11 TX11 22 ∈ jk_gt := jk_t6 0 rfl rfl
set_option maxRecDepth 20000 in
theorem ly_11_23 : u_lay RX11 TX11 23 ∈ jk_gt := jk_t6 2 rfl rfl
set_option maxRecDepth 20000 in
theorem ly_11_24 : u_lay RX11 TX11 24 ∈ jk_gt := jk_t6 4 rfl rfl
set_option maxRecDepth 20000 in
theorem ly_11_25 : u_lay RX11 TX11 25 ∈ jk_gt := jk_t6 6 rfl rfl
set_option maxRecDepth 20000 in
theorem ly_11_26 : u_lay RX11 TX11 26 ∈ jk_gt := jk_t6 8 rfl rfl
set_option maxRecDepth 20000 in
theorem ly_11_27 : u_lay RX11 TX11 27 ∈ jk_gt := jk_t6 10 rfl rfl
set_option maxRecDepth 20000 in
theorem ly_11_28 : u_lay RX11 TX11 28 ∈ jk_gt := jk_t6 12 rfl rfl
set_option maxRecDepth 20000 in
theorem ly_11_29 : u_lay RX11 TX11 29 ∈ jk_gt := jk_t6 14 rfl rfl
set_option maxRecDepth 20000 in
theorem ly_11_30 : u_lay RX11 TX11 30 ∈ jk_gt := jk_t6 16 rfl rfl
set_option maxRecDepth 20000 in
theorem ly_11_31 : u_lay RX11 TX11 31 ∈ jk_gt := jk_t6 18 rfl rfl
set_option maxRecDepth 20000 in
theorem ly_11_32 : u_lay RX11 TX11 32 ∈ jk_gt := jk_t6 20 rfl rfl
set_option maxRecDepth 20000 in
theorem ly_11_33 : u_lay RX11 TX11 33 ∈ jk_gt := jk_t6 22 rfl rfl
set_option maxRecDepth 20000 in
theorem ly_11_34 : u_lay RX11 TX11 34 ∈ jk_gt := jk_t6 24 rfl rfl
set_option maxRecDepth 20000 in
theorem ly_11_35 : u_lay RX11 TX11 35 ∈ jk_gt := jk_t6 26 rfl rfl
set_option maxRecDepth 20000 in
theorem ly_11_36 : u_lay RX11 TX11 36 ∈ jk_gt := jk_t6 28 rfl rfl
set_option maxRecDepth 20000 in
theorem ly_11_37 : u_lay RX11 TX11 37 ∈ jk_gt := jk_t6 30 rfl rfl
set_option maxRecDepth 20000 in
theorem ly_11_38 : u_lay RX11 TX11 38 ∈ jk_gt := jk_t6 32 rfl rfl
set_option maxRecDepth 20000 in
theorem ly_11_39 : u_lay RX11 TX11 39 ∈ jk_gt := jk_t6 34 rfl rfl
set_option maxRecDepth 20000 in
theorem ly_11_40 : u_lay RX11 TX11 40 ∈ jk_gt := jk_t6 36 rfl rfl
set_option maxRecDepth 20000 in
theorem ly_11_41 : u_lay RX11 TX11 41 ∈ jk_gt := jk_t6 38 rfl rfl
set_option maxRecDepth 20000 in
theorem ly_11_42 : u_lay RX11 TX11 42 ∈ jk_gt := jk_t6 40 rfl rfl
set_option maxRecDepth 20000 in
theorem ly_11_43 : u_lay RX11 TX11 43 ∈ jk_gt := jk_t6 42 rfl rfl
set_option maxRecDepth 20000 in
theorem ly_11_44 : u_lay RX11 TX11 44 ∈ jk_gt := jk_t6 44 rfl rfl
set_option maxRecDepth 20000 in
theorem ly_11_45 : u_lay RX11 TX11 45 ∈ jk_gt := jk_t6 46 rfl rfl
set_option maxRecDepth 20000 in
theorem ly_11_46 : u_lay RX11 TX11 46 ∈ jk_gt := jk_t6 48 rfl rfl
set_option maxRecDepth 20000 in
theorem ly_11_47 : u_lay RX11 TX11 47 ∈ jk_gt := jk_t6 50 rfl rfl
set_option maxRecDepth 20000 in
theorem ly_11_48 : u_lay RX11 TX11 48 ∈ jk_gt := jk_t6 52 rfl rfl
set_option maxRecDepth 20000 in
theorem ly_11_49 : u_lay RX11 TX11 49 ∈ jk_gt := jk_t6 54 rfl rfl
set_option maxRecDepth 20000 in
theorem ly_11_50 : u_lay RX11 TX11 50 ∈ jk_gt := jk_t6 56 rfl rfl
set_option maxRecDepth 20000 in
theorem lyy_11 : ∀ w ∈ u_ws RX11 TX11 51, w ∈ jk_gt := by
  show ∀ w ∈ [u_lay RX11 TX11 0, u_lay RX11 TX11 1, u_lay RX11 TX11 2, u_lay RX11 TX11 3, u_lay RX11 TX11 4, u_lay RX11 TX11 5, u_lay RX11 TX11 6, u_lay RX11 TX11 7, u_lay RX11 TX11 8, u_lay RX11 TX11 9, u_lay RX11 TX11 10, u_lay RX11 TX11 11, u_lay RX11 TX11 12, u_lay RX11 TX11 13, u_lay RX11 TX11 14, u_lay RX11 TX11 15, u_lay RX11 TX11 16, u_lay RX11 TX11 17, u_lay RX11 TX11 18, u_lay RX11 TX11 19, u_lay RX11 TX11 20, u_lay RX11 TX11 21, u_lay RX11 TX11 22, u_lay RX11 TX11 23, u_lay RX11 TX11 24, u_lay RX11 TX11 25, u_lay RX11 TX11 26, u_lay RX11 TX11 27, u_lay RX11 TX11 28, u_lay RX11 TX11 29, u_lay RX11 TX11 30, u_lay RX11 TX11 31, u_lay RX11 TX11 32, u_lay RX11 TX11 33, u_lay RX11 TX11 34, u_lay RX11 TX11 35, u_lay RX11 TX11 36, u_lay RX11 TX11 37, u_lay RX11 TX11 38, u_lay RX11 TX11 39, u_lay RX11 TX11 40, u_lay RX11 TX11 41, u_lay RX11 TX11 42, u_lay RX11 TX11 43, u_lay RX11 TX11 44, u_lay RX11 TX11 45, u_lay RX11 TX11 46, u_lay RX11 TX11 47, u_lay RX11 TX11 48, u_lay RX11 TX11 49, u_lay RX11 TX11 50], w ∈ jk_gt
  exact List.forall_mem_cons.mpr ⟨ly_11_0, List.forall_mem_cons.mpr ⟨ly_11_1, List.forall_mem_cons.mpr ⟨ly_11_2, List.forall_mem_cons.mpr ⟨ly_11_3, List.forall_mem_cons.mpr ⟨ly_11_4, List.forall_mem_cons.mpr ⟨ly_11_5, List.forall_mem_cons.mpr ⟨ly_11_6, List.forall_mem_cons.mpr ⟨ly_11_7, List.forall_mem_cons.mpr ⟨ly_11_8, List.forall_mem_cons.mpr ⟨ly_11_9, List.forall_mem_cons.mpr ⟨ly_11_10, List.forall_mem_cons.mpr ⟨ly_11_11, List.forall_mem_cons.mpr ⟨ly_11_12, List.forall_mem_cons.mpr ⟨ly_11_13, List.forall_mem_cons.mpr ⟨ly_11_14, List.forall_mem_cons.mpr ⟨ly_11_15, List.forall_mem_cons.mpr ⟨ly_11_16, List.forall_mem_cons.mpr ⟨ly_11_17, List.forall_mem_cons.mpr ⟨ly_11_18, List.forall_mem_cons.mpr ⟨ly_11_19, List.forall_mem_cons.mpr ⟨ly_11_20, List.forall_mem_cons.mpr ⟨ly_11_21, List.forall_mem_cons.mpr ⟨ly_11_22, List.forall_mem_cons.mpr ⟨ly_11_23, List.forall_mem_cons.mpr ⟨ly_11_24, List.forall_mem_cons.mpr ⟨ly_11_25, List.forall_mem_cons.mpr ⟨ly_11_26, List.forall_mem_cons.mpr ⟨ly_11_27, List.forall_mem_cons.mpr ⟨ly_11_28, List.forall_mem_cons.mpr ⟨ly_11_29, List.forall_mem_cons.mpr ⟨ly_11_30, List.forall_mem_cons.mpr ⟨ly_11_31, List.forall_mem_cons.mpr ⟨ly_11_32, List.forall_mem_cons.mpr ⟨ly_11_33, List.forall_mem_cons.mpr ⟨ly_11_34, List.forall_mem_cons.mpr ⟨ly_11_35, List.forall_mem_cons.mpr ⟨ly_11_36, List.forall_mem_cons.mpr ⟨ly_11_37, List.forall_mem_cons.mpr ⟨ly_11_38, List.forall_mem_cons.mpr ⟨ly_11_39, List.forall_mem_cons.mpr ⟨ly_11_40, List.forall_mem_cons.mpr ⟨ly_11_41, List.forall_mem_cons.mpr ⟨ly_11_42, List.forall_mem_cons.mpr ⟨ly_11_43, List.forall_mem_cons.mpr ⟨ly_11_44, List.forall_mem_cons.mpr ⟨ly_11_45, List.forall_mem_cons.mpr ⟨ly_11_46, List.forall_mem_cons.mpr ⟨ly_11_47, List.forall_mem_cons.mpr ⟨ly_11_48, List.forall_mem_cons.mpr ⟨ly_11_49, List.forall_mem_cons.mpr ⟨ly_11_50, fun _ h => absurd h List.not_mem_nil⟩⟩⟩⟩⟩⟩⟩⟩⟩⟩⟩⟩⟩⟩⟩⟩⟩⟩⟩⟩⟩⟩⟩⟩⟩⟩⟩⟩⟩⟩⟩⟩⟩⟩⟩⟩⟩⟩⟩⟩⟩⟩⟩⟩⟩⟩⟩⟩⟩⟩⟩
set_option maxRecDepth 20000 in
theorem cf_11 : jk_cf 11 RX11 TX11 51 := ⟨rfl, rfl, lyy_11, tyX11_ok, nmX11⟩
set_option maxRecDepth 20000 in
theorem fX9_9 : jk_fl RX9 9 9 0 false := ⟨RX9, TX9, 4, cf_9, by decide +kernel, rfl, rfl, jk_t1 43 rfl rfl⟩
set_option maxRecDepth 20000 in
theorem fX4_28 : jk_fl RX4 28 9 0 false := ⟨RX9, TX9, 4, cf_9, by decide +kernel, rfl, rfl, jk_t1 44 rfl rfl⟩
set_option maxRecDepth 20000 in
theorem fX3_75 : jk_fl RX3 75 9 0 false := ⟨RX9, TX9, 4, cf_9, by decide +kernel, rfl, rfl, jk_t1 45 rfl rfl⟩
set_option maxRecDepth 20000 in
theorem fX2_95 : jk_fl RX2 95 9 0 false := ⟨RX9, TX9, 4, cf_9, by decide +kernel, rfl, rfl, jk_t1 46 rfl rfl⟩
set_option maxRecDepth 20000 in
theorem fX10_212 : jk_fl RX10 212 9 0 false := ⟨RX9, TX9, 4, cf_9, by decide +kernel, rfl, rfl, jk_t1 47 rfl rfl⟩
set_option maxRecDepth 20000 in
theorem fX9_15 : jk_fl RX9 15 9 1 false := ⟨RX9, TX9, 4, cf_9, by decide +kernel, rfl, rfl, jk_t1 48 rfl rfl⟩
set_option maxRecDepth 20000 in
theorem fX4_31 : jk_fl RX4 31 9 1 false := ⟨RX9, TX9, 4, cf_9, by decide +kernel, rfl, rfl, jk_t1 49 rfl rfl⟩
set_option maxRecDepth 20000 in
theorem fX3_80 : jk_fl RX3 80 9 1 false := ⟨RX9, TX9, 4, cf_9, by decide +kernel, rfl, rfl, jk_t1 50 rfl rfl⟩
set_option maxRecDepth 20000 in
theorem fX2_98 : jk_fl RX2 98 9 1 false := ⟨RX9, TX9, 4, cf_9, by decide +kernel, rfl, rfl, jk_t1 51 rfl rfl⟩
set_option maxRecDepth 20000 in
theorem fX10_215 : jk_fl RX10 215 9 1 false := ⟨RX9, TX9, 4, cf_9, by decide +kernel, rfl, rfl, jk_t1 52 rfl rfl⟩
set_option maxRecDepth 20000 in
theorem fX9_18 : jk_fl RX9 18 9 2 false := ⟨RX9, TX9, 4, cf_9, by decide +kernel, rfl, rfl, jk_t1 53 rfl rfl⟩
set_option maxRecDepth 20000 in
theorem fX0_63 : jk_fl RX0 63 9 2 false := ⟨RX9, TX9, 4, cf_9, by decide +kernel, rfl, rfl, jk_t1 54 rfl rfl⟩
set_option maxRecDepth 20000 in
theorem fX10_158 : jk_fl RX10 158 9 2 false := ⟨RX9, TX9, 4, cf_9, by decide +kernel, rfl, rfl, jk_t1 55 rfl rfl⟩
set_option maxRecDepth 20000 in
theorem fX2_101 : jk_fl RX2 101 9 2 false := ⟨RX9, TX9, 4, cf_9, by decide +kernel, rfl, rfl, jk_t1 56 rfl rfl⟩
set_option maxRecDepth 20000 in
theorem fX9_21 : jk_fl RX9 21 9 3 false := ⟨RX9, TX9, 4, cf_9, by decide +kernel, rfl, rfl, jk_t1 57 rfl rfl⟩
set_option maxRecDepth 20000 in
theorem fX3_92 : jk_fl RX3 92 9 3 false := ⟨RX9, TX9, 4, cf_9, by decide +kernel, rfl, rfl, jk_t1 58 rfl rfl⟩
set_option maxRecDepth 20000 in
theorem fX10_161 : jk_fl RX10 161 9 3 false := ⟨RX9, TX9, 4, cf_9, by decide +kernel, rfl, rfl, jk_t1 59 rfl rfl⟩
set_option maxRecDepth 20000 in
theorem fX2_104 : jk_fl RX2 104 9 3 false := ⟨RX9, TX9, 4, cf_9, by decide +kernel, rfl, rfl, jk_t1 60 rfl rfl⟩
set_option maxRecDepth 20000 in
theorem fX5_140 : jk_fl RX5 140 9 3 false := ⟨RX9, TX9, 4, cf_9, by decide +kernel, rfl, rfl, jk_t1 61 rfl rfl⟩
set_option maxRecDepth 20000 in
theorem fX1_7 : jk_fl RX1 7 1 0 false := ⟨RX1, TX1, 4, cf_1, by decide +kernel, rfl, rfl, jk_t1 77 rfl rfl⟩
set_option maxRecDepth 20000 in
theorem fX2_108 : jk_fl RX2 108 1 0 false := ⟨RX1, TX1, 4, cf_1, by decide +kernel, rfl, rfl, jk_t1 78 rfl rfl⟩
set_option maxRecDepth 20000 in
theorem fX0_134 : jk_fl RX0 134 1 0 false := ⟨RX1, TX1, 4, cf_1, by decide +kernel, rfl, rfl, jk_t1 79 rfl rfl⟩
set_option maxRecDepth 20000 in
theorem fX10_225 : jk_fl RX10 225 1 0 false := ⟨RX1, TX1, 4, cf_1, by decide +kernel, rfl, rfl, jk_t1 80 rfl rfl⟩
set_option maxRecDepth 20000 in
theorem fX1_13 : jk_fl RX1 13 1 1 false := ⟨RX1, TX1, 4, cf_1, by decide +kernel, rfl, rfl, jk_t1 81 rfl rfl⟩
set_option maxRecDepth 20000 in
theorem fX2_109 : jk_fl RX2 109 1 1 false := ⟨RX1, TX1, 4, cf_1, by decide +kernel, rfl, rfl, jk_t1 82 rfl rfl⟩
set_option maxRecDepth 20000 in
theorem fX0_138 : jk_fl RX0 138 1 1 false := ⟨RX1, TX1, 4, cf_1, by decide +kernel, rfl, rfl, jk_t1 83 rfl rfl⟩
set_option maxRecDepth 20000 in
theorem fX10_228 : jk_fl RX10 228 1 1 false := ⟨RX1, TX1, 4, cf_1, by decide +kernel, rfl, rfl, jk_t1 84 rfl rfl⟩
set_option maxRecDepth 20000 in
theorem fX1_16 : jk_fl RX1 16 1 2 false := ⟨RX1, TX1, 4, cf_1, by decide +kernel, rfl, rfl, jk_t1 85 rfl rfl⟩
set_option maxRecDepth 20000 in
theorem fX2_112 : jk_fl RX2 112 1 2 false := ⟨RX1, TX1, 4, cf_1, by decide +kernel, rfl, rfl, jk_t1 86 rfl rfl⟩
set_option maxRecDepth 20000 in
theorem fX0_141 : jk_fl RX0 141 1 2 false := ⟨RX1, TX1, 4, cf_1, by decide +kernel, rfl, rfl, jk_t1 87 rfl rfl⟩
set_option maxRecDepth 20000 in
theorem fX10_231 : jk_fl RX10 231 1 2 false := ⟨RX1, TX1, 4, cf_1, by decide +kernel, rfl, rfl, jk_t1 88 rfl rfl⟩
set_option maxRecDepth 20000 in
theorem fX1_19 : jk_fl RX1 19 1 3 false := ⟨RX1, TX1, 4, cf_1, by decide +kernel, rfl, rfl, jk_t1 89 rfl rfl⟩
set_option maxRecDepth 20000 in
theorem fX2_115 : jk_fl RX2 115 1 3 false := ⟨RX1, TX1, 4, cf_1, by decide +kernel, rfl, rfl, jk_t1 90 rfl rfl⟩
set_option maxRecDepth 20000 in
theorem fX0_129 : jk_fl RX0 129 1 3 false := ⟨RX1, TX1, 4, cf_1, by decide +kernel, rfl, rfl, jk_t1 91 rfl rfl⟩
set_option maxRecDepth 20000 in
theorem fX10_234 : jk_fl RX10 234 1 3 false := ⟨RX1, TX1, 4, cf_1, by decide +kernel, rfl, rfl, jk_t1 92 rfl rfl⟩
set_option maxRecDepth 20000 in
theorem fX2_9 : jk_fl RX2 9 2 0 false := ⟨RX2, TX2, 14, cf_2, by decide +kernel, rfl, rfl, jk_t1 102 rfl rfl⟩
set_option maxRecDepth 20000 in
theorem fX10_175 : jk_fl RX10 175 2 0 false := ⟨RX2, TX2, 14, cf_2, by decide +kernel, rfl, rfl, jk_t1 103 rfl rfl⟩
set_option maxRecDepth 20000 in
theorem fX5_114 : jk_fl RX5 114 2 0 false := ⟨RX2, TX2, 14, cf_2, by decide +kernel, rfl, rfl, jk_t1 104 rfl rfl⟩
set_option maxRecDepth 20000 in
theorem fX2_15 : jk_fl RX2 15 2 1 false := ⟨RX2, TX2, 14, cf_2, by decide +kernel, rfl, rfl, jk_t1 105 rfl rfl⟩
set_option maxRecDepth 20000 in
theorem fX0_95 : jk_fl RX0 95 2 1 false := ⟨RX2, TX2, 14, cf_2, by decide +kernel, rfl, rfl, jk_t1 106 rfl rfl⟩
set_option maxRecDepth 20000 in
theorem fX5_125 : jk_fl RX5 125 2 1 false := ⟨RX2, TX2, 14, cf_2, by decide +kernel, rfl, rfl, jk_t1 107 rfl rfl⟩
set_option maxRecDepth 20000 in
theorem fX10_206 : jk_fl RX10 206 2 1 false := ⟨RX2, TX2, 14, cf_2, by decide +kernel, rfl, rfl, jk_t1 108 rfl rfl⟩
set_option maxRecDepth 20000 in
theorem fX2_18 : jk_fl RX2 18 2 2 false := ⟨RX2, TX2, 14, cf_2, by decide +kernel, rfl, rfl, jk_t1 109 rfl rfl⟩
set_option maxRecDepth 20000 in
theorem fX0_41 : jk_fl RX0 41 2 2 false := ⟨RX2, TX2, 14, cf_2, by decide +kernel, rfl, rfl, jk_t1 110 rfl rfl⟩
set_option maxRecDepth 20000 in
theorem fX6_44 : jk_fl RX6 44 2 2 false := ⟨RX2, TX2, 14, cf_2, by decide +kernel, rfl, rfl, jk_t1 111 rfl rfl⟩
set_option maxRecDepth 20000 in
theorem fX5_128 : jk_fl RX5 128 2 2 false := ⟨RX2, TX2, 14, cf_2, by decide +kernel, rfl, rfl, jk_t1 112 rfl rfl⟩
set_option maxRecDepth 20000 in
theorem fX10_209 : jk_fl RX10 209 2 2 false := ⟨RX2, TX2, 14, cf_2, by decide +kernel, rfl, rfl, jk_t1 113 rfl rfl⟩
set_option maxRecDepth 20000 in
theorem fX2_21 : jk_fl RX2 21 2 3 false := ⟨RX2, TX2, 14, cf_2, by decide +kernel, rfl, rfl, jk_t1 114 rfl rfl⟩
set_option maxRecDepth 20000 in
theorem fX0_80 : jk_fl RX0 80 2 3 false := ⟨RX2, TX2, 14, cf_2, by decide +kernel, rfl, rfl, jk_t1 115 rfl rfl⟩
set_option maxRecDepth 20000 in
theorem fX10_164 : jk_fl RX10 164 2 3 false := ⟨RX2, TX2, 14, cf_2, by decide +kernel, rfl, rfl, jk_t1 116 rfl rfl⟩
set_option maxRecDepth 20000 in
theorem fX3_102 : jk_fl RX3 102 2 3 false := ⟨RX2, TX2, 14, cf_2, by decide +kernel, rfl, rfl, jk_t1 117 rfl rfl⟩
set_option maxRecDepth 20000 in
theorem fX5_137 : jk_fl RX5 137 2 3 false := ⟨RX2, TX2, 14, cf_2, by decide +kernel, rfl, rfl, jk_t1 118 rfl rfl⟩
set_option maxRecDepth 20000 in
theorem fX2_24 : jk_fl RX2 24 2 4 false := ⟨RX2, TX2, 14, cf_2, by decide +kernel, rfl, rfl, jk_t1 119 rfl rfl⟩
set_option maxRecDepth 20000 in
theorem fX10_349 : jk_fl RX10 349 2 4 false := ⟨RX2, TX2, 14, cf_2, by decide +kernel, rfl, rfl, jk_t1 120 rfl rfl⟩
set_option maxRecDepth 20000 in
theorem fX2_27 : jk_fl RX2 27 2 5 false := ⟨RX2, TX2, 14, cf_2, by decide +kernel, rfl, rfl, jk_t1 121 rfl rfl⟩
set_option maxRecDepth 20000 in
theorem fX3_65 : jk_fl RX3 65 2 5 false := ⟨RX2, TX2, 14, cf_2, by decide +kernel, rfl, rfl, jk_t1 122 rfl rfl⟩
set_option maxRecDepth 20000 in
theorem fX0_144 : jk_fl RX0 144 2 5 false := ⟨RX2, TX2, 14, cf_2, by decide +kernel, rfl, rfl, jk_t1 123 rfl rfl⟩
set_option maxRecDepth 20000 in
theorem fX10_324 : jk_fl RX10 324 2 5 false := ⟨RX2, TX2, 14, cf_2, by decide +kernel, rfl, rfl, jk_t1 124 rfl rfl⟩
set_option maxRecDepth 20000 in
theorem fX2_30 : jk_fl RX2 30 2 6 false := ⟨RX2, TX2, 14, cf_2, by decide +kernel, rfl, rfl, jk_t1 125 rfl rfl⟩
set_option maxRecDepth 20000 in
theorem fX3_58 : jk_fl RX3 58 2 6 false := ⟨RX2, TX2, 14, cf_2, by decide +kernel, rfl, rfl, jk_t1 126 rfl rfl⟩
set_option maxRecDepth 20000 in
theorem fX0_119 : jk_fl RX0 119 2 6 false := ⟨RX2, TX2, 14, cf_2, by decide +kernel, rfl, rfl, jk_t1 127 rfl rfl⟩
set_option maxRecDepth 20000 in
theorem fX10_364 : jk_fl RX10 364 2 6 false := ⟨RX2, TX2, 14, cf_2, by decide +kernel, rfl, rfl, jk_t1 128 rfl rfl⟩
set_option maxRecDepth 20000 in
theorem fX2_33 : jk_fl RX2 33 2 7 false := ⟨RX2, TX2, 14, cf_2, by decide +kernel, rfl, rfl, jk_t1 129 rfl rfl⟩
set_option maxRecDepth 20000 in
theorem fX0_56 : jk_fl RX0 56 2 7 false := ⟨RX2, TX2, 14, cf_2, by decide +kernel, rfl, rfl, jk_t1 130 rfl rfl⟩
set_option maxRecDepth 20000 in
theorem fX3_68 : jk_fl RX3 68 2 7 false := ⟨RX2, TX2, 14, cf_2, by decide +kernel, rfl, rfl, jk_t1 131 rfl rfl⟩
set_option maxRecDepth 20000 in
theorem fX5_101 : jk_fl RX5 101 2 7 false := ⟨RX2, TX2, 14, cf_2, by decide +kernel, rfl, rfl, jk_t1 132 rfl rfl⟩
set_option maxRecDepth 20000 in
theorem fX10_181 : jk_fl RX10 181 2 7 false := ⟨RX2, TX2, 14, cf_2, by decide +kernel, rfl, rfl, jk_t1 133 rfl rfl⟩
set_option maxRecDepth 20000 in
theorem fX2_36 : jk_fl RX2 36 2 8 false := ⟨RX2, TX2, 14, cf_2, by decide +kernel, rfl, rfl, jk_t1 134 rfl rfl⟩
set_option maxRecDepth 20000 in
theorem fX6_23 : jk_fl RX6 23 2 8 false := ⟨RX2, TX2, 14, cf_2, by decide +kernel, rfl, rfl, jk_t1 135 rfl rfl⟩
set_option maxRecDepth 20000 in
theorem fX5_104 : jk_fl RX5 104 2 8 false := ⟨RX2, TX2, 14, cf_2, by decide +kernel, rfl, rfl, jk_t1 136 rfl rfl⟩
set_option maxRecDepth 20000 in
theorem fX10_188 : jk_fl RX10 188 2 8 false := ⟨RX2, TX2, 14, cf_2, by decide +kernel, rfl, rfl, jk_t1 137 rfl rfl⟩
set_option maxRecDepth 20000 in
theorem fX2_39 : jk_fl RX2 39 2 9 false := ⟨RX2, TX2, 14, cf_2, by decide +kernel, rfl, rfl, jk_t1 138 rfl rfl⟩
set_option maxRecDepth 20000 in
theorem fX5_107 : jk_fl RX5 107 2 9 false := ⟨RX2, TX2, 14, cf_2, by decide +kernel, rfl, rfl, jk_t1 139 rfl rfl⟩
set_option maxRecDepth 20000 in
theorem fX10_194 : jk_fl RX10 194 2 9 false := ⟨RX2, TX2, 14, cf_2, by decide +kernel, rfl, rfl, jk_t1 140 rfl rfl⟩
set_option maxRecDepth 20000 in
theorem fX0_122 : jk_fl RX0 122 2 9 false := ⟨RX2, TX2, 14, cf_2, by decide +kernel, rfl, rfl, jk_t1 141 rfl rfl⟩
set_option maxRecDepth 20000 in
theorem fX2_44 : jk_fl RX2 44 2 10 true := ⟨RX2, TX2, 14, cf_2, by decide +kernel, rfl, rfl, jk_t1 142 rfl rfl⟩
set_option maxRecDepth 20000 in
theorem fX2_50 : jk_fl RX2 50 2 11 true := ⟨RX2, TX2, 14, cf_2, by decide +kernel, rfl, rfl, jk_t1 143 rfl rfl⟩
set_option maxRecDepth 20000 in
theorem fX2_54 : jk_fl RX2 54 2 12 true := ⟨RX2, TX2, 14, cf_2, by decide +kernel, rfl, rfl, jk_t1 144 rfl rfl⟩
set_option maxRecDepth 20000 in
theorem fX2_58 : jk_fl RX2 58 2 13 true := ⟨RX2, TX2, 14, cf_2, by decide +kernel, rfl, rfl, jk_t1 145 rfl rfl⟩
set_option maxRecDepth 20000 in
theorem fX0_31 : jk_fl RX0 31 0 0 true := ⟨RX0, TX0, 7, cf_0, by decide +kernel, rfl, rfl, jk_t1 181 rfl rfl⟩
set_option maxRecDepth 20000 in
theorem fX0_9 : jk_fl RX0 9 0 1 true := ⟨RX0, TX0, 7, cf_0, by decide +kernel, rfl, rfl, jk_t1 182 rfl rfl⟩
set_option maxRecDepth 20000 in
theorem fX0_15 : jk_fl RX0 15 0 2 true := ⟨RX0, TX0, 7, cf_0, by decide +kernel, rfl, rfl, jk_t1 183 rfl rfl⟩
set_option maxRecDepth 20000 in
theorem fX0_18 : jk_fl RX0 18 0 3 true := ⟨RX0, TX0, 7, cf_0, by decide +kernel, rfl, rfl, jk_t1 184 rfl rfl⟩
set_option maxRecDepth 20000 in
theorem fX0_21 : jk_fl RX0 21 0 4 true := ⟨RX0, TX0, 7, cf_0, by decide +kernel, rfl, rfl, jk_t1 185 rfl rfl⟩
set_option maxRecDepth 20000 in
theorem fX0_24 : jk_fl RX0 24 0 5 true := ⟨RX0, TX0, 7, cf_0, by decide +kernel, rfl, rfl, jk_t1 186 rfl rfl⟩
set_option maxRecDepth 20000 in
theorem fX0_27 : jk_fl RX0 27 0 6 false := ⟨RX0, TX0, 7, cf_0, by decide +kernel, rfl, rfl, jk_t1 187 rfl rfl⟩
set_option maxRecDepth 20000 in
theorem fX10_327 : jk_fl RX10 327 0 6 false := ⟨RX0, TX0, 7, cf_0, by decide +kernel, rfl, rfl, jk_t1 188 rfl rfl⟩
set_option maxRecDepth 20000 in
theorem fX3_19 : jk_fl RX3 19 3 0 true := ⟨RX3, TX3, 5, cf_3, by decide +kernel, rfl, rfl, jk_t1 212 rfl rfl⟩
set_option maxRecDepth 20000 in
theorem fX3_23 : jk_fl RX3 23 3 1 true := ⟨RX3, TX3, 5, cf_3, by decide +kernel, rfl, rfl, jk_t1 213 rfl rfl⟩
set_option maxRecDepth 20000 in
theorem fX3_31 : jk_fl RX3 31 3 2 true := ⟨RX3, TX3, 5, cf_3, by decide +kernel, rfl, rfl, jk_t1 214 rfl rfl⟩
set_option maxRecDepth 20000 in
theorem fX3_9 : jk_fl RX3 9 3 3 true := ⟨RX3, TX3, 5, cf_3, by decide +kernel, rfl, rfl, jk_t1 215 rfl rfl⟩
set_option maxRecDepth 20000 in
theorem fX3_15 : jk_fl RX3 15 3 4 false := ⟨RX3, TX3, 5, cf_3, by decide +kernel, rfl, rfl, jk_t1 216 rfl rfl⟩
set_option maxRecDepth 20000 in
theorem fX7_22 : jk_fl RX7 22 7 0 true := ⟨RX7, TX7, 5, cf_7, by decide +kernel, rfl, rfl, jk_t1 234 rfl rfl⟩
set_option maxRecDepth 20000 in
theorem fX7_26 : jk_fl RX7 26 7 1 true := ⟨RX7, TX7, 5, cf_7, by decide +kernel, rfl, rfl, jk_t1 235 rfl rfl⟩
set_option maxRecDepth 20000 in
theorem fX7_9 : jk_fl RX7 9 7 2 true := ⟨RX7, TX7, 5, cf_7, by decide +kernel, rfl, rfl, jk_t1 236 rfl rfl⟩
set_option maxRecDepth 20000 in
theorem fX7_15 : jk_fl RX7 15 7 3 true := ⟨RX7, TX7, 5, cf_7, by decide +kernel, rfl, rfl, jk_t1 237 rfl rfl⟩
set_option maxRecDepth 20000 in
theorem fX7_18 : jk_fl RX7 18 7 4 false := ⟨RX7, TX7, 5, cf_7, by decide +kernel, rfl, rfl, jk_t1 238 rfl rfl⟩
set_option maxRecDepth 20000 in
theorem fX10_309 : jk_fl RX10 309 7 4 false := ⟨RX7, TX7, 5, cf_7, by decide +kernel, rfl, rfl, jk_t1 239 rfl rfl⟩
set_option maxRecDepth 20000 in
theorem fX6_19 : jk_fl RX6 19 6 0 true := ⟨RX6, TX6, 3, cf_6, by decide +kernel, rfl, rfl, jk_t2 17 rfl rfl⟩
set_option maxRecDepth 20000 in
theorem fX6_9 : jk_fl RX6 9 6 1 true := ⟨RX6, TX6, 3, cf_6, by decide +kernel, rfl, rfl, jk_t2 18 rfl rfl⟩
set_option maxRecDepth 20000 in
theorem fX6_15 : jk_fl RX6 15 6 2 false := ⟨RX6, TX6, 3, cf_6, by decide +kernel, rfl, rfl, jk_t2 19 rfl rfl⟩
set_option maxRecDepth 20000 in
theorem fX8_11 : jk_fl RX8 11 8 0 false := ⟨RX8, TX8, 4, cf_8, by decide +kernel, rfl, rfl, jk_t2 39 rfl rfl⟩
set_option maxRecDepth 20000 in
theorem fX10_144 : jk_fl RX10 144 8 0 false := ⟨RX8, TX8, 4, cf_8, by decide +kernel, rfl, rfl, jk_t2 40 rfl rfl⟩
set_option maxRecDepth 20000 in
theorem fX8_15 : jk_fl RX8 15 8 1 false := ⟨RX8, TX8, 4, cf_8, by decide +kernel, rfl, rfl, jk_t2 41 rfl rfl⟩
set_option maxRecDepth 20000 in
theorem fX5_37 : jk_fl RX5 37 8 1 false := ⟨RX8, TX8, 4, cf_8, by decide +kernel, rfl, rfl, jk_t2 42 rfl rfl⟩
set_option maxRecDepth 20000 in
theorem fX10_370 : jk_fl RX10 370 8 1 false := ⟨RX8, TX8, 4, cf_8, by decide +kernel, rfl, rfl, jk_t2 43 rfl rfl⟩
set_option maxRecDepth 20000 in
theorem fX8_18 : jk_fl RX8 18 8 2 false := ⟨RX8, TX8, 4, cf_8, by decide +kernel, rfl, rfl, jk_t2 44 rfl rfl⟩
set_option maxRecDepth 20000 in
theorem fX10_147 : jk_fl RX10 147 8 2 false := ⟨RX8, TX8, 4, cf_8, by decide +kernel, rfl, rfl, jk_t2 45 rfl rfl⟩
set_option maxRecDepth 20000 in
theorem fX8_21 : jk_fl RX8 21 8 3 true := ⟨RX8, TX8, 4, cf_8, by decide +kernel, rfl, rfl, jk_t2 46 rfl rfl⟩
set_option maxRecDepth 20000 in
theorem fX5_29 : jk_fl RX5 29 5 0 true := ⟨RX5, TX5, 5, cf_5, by decide +kernel, rfl, rfl, jk_t2 57 rfl rfl⟩
set_option maxRecDepth 20000 in
theorem fX5_11 : jk_fl RX5 11 5 1 true := ⟨RX5, TX5, 5, cf_5, by decide +kernel, rfl, rfl, jk_t2 58 rfl rfl⟩
set_option maxRecDepth 20000 in
theorem fX5_18 : jk_fl RX5 18 5 2 false := ⟨RX5, TX5, 5, cf_5, by decide +kernel, rfl, rfl, jk_t2 59 rfl rfl⟩
set_option maxRecDepth 20000 in
theorem fX5_22 : jk_fl RX5 22 5 3 false := ⟨RX5, TX5, 5, cf_5, by decide +kernel, rfl, rfl, jk_t2 60 rfl rfl⟩
set_option maxRecDepth 20000 in
theorem fX5_26 : jk_fl RX5 26 5 4 false := ⟨RX5, TX5, 5, cf_5, by decide +kernel, rfl, rfl, jk_t2 61 rfl rfl⟩
set_option maxRecDepth 20000 in
theorem fX10_251 : jk_fl RX10 251 5 4 false := ⟨RX5, TX5, 5, cf_5, by decide +kernel, rfl, rfl, jk_t2 62 rfl rfl⟩
set_option maxRecDepth 20000 in
theorem fX4_9 : jk_fl RX4 9 4 0 false := ⟨RX4, TX4, 5, cf_4, by decide +kernel, rfl, rfl, jk_t2 80 rfl rfl⟩
set_option maxRecDepth 20000 in
theorem fX10_400 : jk_fl RX10 400 4 0 false := ⟨RX4, TX4, 5, cf_4, by decide +kernel, rfl, rfl, jk_t2 81 rfl rfl⟩
set_option maxRecDepth 20000 in
theorem fX4_15 : jk_fl RX4 15 4 1 false := ⟨RX4, TX4, 5, cf_4, by decide +kernel, rfl, rfl, jk_t2 82 rfl rfl⟩
set_option maxRecDepth 20000 in
theorem fX10_410 : jk_fl RX10 410 4 1 false := ⟨RX4, TX4, 5, cf_4, by decide +kernel, rfl, rfl, jk_t2 83 rfl rfl⟩
set_option maxRecDepth 20000 in
theorem fX4_18 : jk_fl RX4 18 4 2 false := ⟨RX4, TX4, 5, cf_4, by decide +kernel, rfl, rfl, jk_t2 84 rfl rfl⟩
set_option maxRecDepth 20000 in
theorem fX10_407 : jk_fl RX10 407 4 2 false := ⟨RX4, TX4, 5, cf_4, by decide +kernel, rfl, rfl, jk_t2 85 rfl rfl⟩
set_option maxRecDepth 20000 in
theorem fX4_21 : jk_fl RX4 21 4 3 false := ⟨RX4, TX4, 5, cf_4, by decide +kernel, rfl, rfl, jk_t2 86 rfl rfl⟩
set_option maxRecDepth 20000 in
theorem fX10_367 : jk_fl RX10 367 4 3 false := ⟨RX4, TX4, 5, cf_4, by decide +kernel, rfl, rfl, jk_t2 87 rfl rfl⟩
set_option maxRecDepth 20000 in
theorem fX4_24 : jk_fl RX4 24 4 4 true := ⟨RX4, TX4, 5, cf_4, by decide +kernel, rfl, rfl, jk_t2 88 rfl rfl⟩
set_option maxRecDepth 20000 in
theorem fX10_10 : jk_fl RX10 10 10 0 true := ⟨RX10, TX10, 13, cf_10, by decide +kernel, rfl, rfl, jk_t2 103 rfl rfl⟩
set_option maxRecDepth 20000 in
theorem fX10_16 : jk_fl RX10 16 10 1 true := ⟨RX10, TX10, 13, cf_10, by decide +kernel, rfl, rfl, jk_t2 104 rfl rfl⟩
set_option maxRecDepth 20000 in
theorem fX10_19 : jk_fl RX10 19 10 2 true := ⟨RX10, TX10, 13, cf_10, by decide +kernel, rfl, rfl, jk_t2 105 rfl rfl⟩
set_option maxRecDepth 20000 in
theorem fX10_27 : jk_fl RX10 27 10 3 true := ⟨RX10, TX10, 13, cf_10, by decide +kernel, rfl, rfl, jk_t2 106 rfl rfl⟩
set_option maxRecDepth 20000 in
theorem fX10_36 : jk_fl RX10 36 10 4 true := ⟨RX10, TX10, 13, cf_10, by decide +kernel, rfl, rfl, jk_t2 107 rfl rfl⟩
set_option maxRecDepth 20000 in
theorem fX10_45 : jk_fl RX10 45 10 5 true := ⟨RX10, TX10, 13, cf_10, by decide +kernel, rfl, rfl, jk_t2 108 rfl rfl⟩
set_option maxRecDepth 20000 in
theorem fX10_52 : jk_fl RX10 52 10 6 true := ⟨RX10, TX10, 13, cf_10, by decide +kernel, rfl, rfl, jk_t2 109 rfl rfl⟩
set_option maxRecDepth 20000 in
theorem fX10_59 : jk_fl RX10 59 10 7 true := ⟨RX10, TX10, 13, cf_10, by decide +kernel, rfl, rfl, jk_t2 110 rfl rfl⟩
set_option maxRecDepth 20000 in
theorem fX10_66 : jk_fl RX10 66 10 8 true := ⟨RX10, TX10, 13, cf_10, by decide +kernel, rfl, rfl, jk_t2 111 rfl rfl⟩
set_option maxRecDepth 20000 in
theorem fX10_72 : jk_fl RX10 72 10 9 true := ⟨RX10, TX10, 13, cf_10, by decide +kernel, rfl, rfl, jk_t2 112 rfl rfl⟩
set_option maxRecDepth 20000 in
theorem fX10_76 : jk_fl RX10 76 10 10 true := ⟨RX10, TX10, 13, cf_10, by decide +kernel, rfl, rfl, jk_t2 113 rfl rfl⟩
set_option maxRecDepth 20000 in
theorem fX10_80 : jk_fl RX10 80 10 11 false := ⟨RX10, TX10, 13, cf_10, by decide +kernel, rfl, rfl, jk_t2 114 rfl rfl⟩
set_option maxRecDepth 20000 in
theorem fX10_84 : jk_fl RX10 84 10 12 false := ⟨RX10, TX10, 13, cf_10, by decide +kernel, rfl, rfl, jk_t2 115 rfl rfl⟩
set_option maxRecDepth 20000 in
theorem fX11_123 : jk_fl RX11 123 11 0 false := ⟨RX11, TX11, 51, cf_11, by decide +kernel, rfl, rfl, jk_t5 145 rfl rfl⟩
set_option maxRecDepth 20000 in
theorem fX11_144 : jk_fl RX11 144 11 1 false := ⟨RX11, TX11, 51, cf_11, by decide +kernel, rfl, rfl, jk_t5 146 rfl rfl⟩
set_option maxRecDepth 20000 in
theorem fX11_147 : jk_fl RX11 147 11 2 false := ⟨RX11, TX11, 51, cf_11, by decide +kernel, rfl, rfl, jk_t5 147 rfl rfl⟩
set_option maxRecDepth 20000 in
theorem fX11_7 : jk_fl RX11 7 11 3 false := ⟨RX11, TX11, 51, cf_11, by decide +kernel, rfl, rfl, jk_t5 148 rfl rfl⟩
set_option maxRecDepth 20000 in
theorem fX11_13 : jk_fl RX11 13 11 4 false := ⟨RX11, TX11, 51, cf_11, by decide +kernel, rfl, rfl, jk_t5 149 rfl rfl⟩
set_option maxRecDepth 20000 in
theorem fX11_16 : jk_fl RX11 16 11 5 false := ⟨RX11, TX11, 51, cf_11, by decide +kernel, rfl, rfl, jk_t5 150 rfl rfl⟩
set_option maxRecDepth 20000 in
theorem fX11_170 : jk_fl RX11 170 11 6 false := ⟨RX11, TX11, 51, cf_11, by decide +kernel, rfl, rfl, jk_t5 151 rfl rfl⟩
set_option maxRecDepth 20000 in
theorem fX11_19 : jk_fl RX11 19 11 7 false := ⟨RX11, TX11, 51, cf_11, by decide +kernel, rfl, rfl, jk_t5 152 rfl rfl⟩
set_option maxRecDepth 20000 in
theorem fX11_22 : jk_fl RX11 22 11 8 false := ⟨RX11, TX11, 51, cf_11, by decide +kernel, rfl, rfl, jk_t5 153 rfl rfl⟩
set_option maxRecDepth 20000 in
theorem fX11_25 : jk_fl RX11 25 11 9 true := ⟨RX11, TX11, 51, cf_11, by decide +kernel, rfl, rfl, jk_t5 154 rfl rfl⟩
set_option maxRecDepth 20000 in
theorem fX11_29 : jk_fl RX11 29 11 10 true := ⟨RX11, TX11, 51, cf_11, by decide +kernel, rfl, rfl, jk_t5 155 rfl rfl⟩
set_option maxRecDepth 20000 in
theorem fX11_32 : jk_fl RX11 32 11 11 true := ⟨RX11, TX11, 51, cf_11, by decide +kernel, rfl, rfl, jk_t5 156 rfl rfl⟩
set_option maxRecDepth 20000 in
theorem fX11_35 : jk_fl RX11 35 11 12 true := ⟨RX11, TX11, 51, cf_11, by decide +kernel, rfl, rfl, jk_t5 157 rfl rfl⟩
set_option maxRecDepth 20000 in
theorem fX11_38 : jk_fl RX11 38 11 13 true := ⟨RX11, TX11, 51, cf_11, by decide +kernel, rfl, rfl, jk_t5 158 rfl rfl⟩
set_option maxRecDepth 20000 in
theorem fX11_41 : jk_fl RX11 41 11 14 true := ⟨RX11, TX11, 51, cf_11, by decide +kernel, rfl, rfl, jk_t5 159 rfl rfl⟩
set_option maxRecDepth 20000 in
theorem fX11_44 : jk_fl RX11 44 11 15 true := ⟨RX11, TX11, 51, cf_11, by decide +kernel, rfl, rfl, jk_t5 160 rfl rfl⟩
set_option maxRecDepth 20000 in
theorem fX11_47 : jk_fl RX11 47 11 16 true := ⟨RX11, TX11, 51, cf_11, by decide +kernel, rfl, rfl, jk_t5 161 rfl rfl⟩
set_option maxRecDepth 20000 in
theorem fX11_50 : jk_fl RX11 50 11 17 true := ⟨RX11, TX11, 51, cf_11, by decide +kernel, rfl, rfl, jk_t5 162 rfl rfl⟩
set_option maxRecDepth 20000 in
theorem fX11_53 : jk_fl RX11 53 11 18 true := ⟨RX11, TX11, 51, cf_11, by decide +kernel, rfl, rfl, jk_t5 163 rfl rfl⟩
set_option maxRecDepth 20000 in
theorem fX11_56 : jk_fl RX11 56 11 19 true := ⟨RX11, TX11, 51, cf_11, by decide +kernel, rfl, rfl, jk_t5 164 rfl rfl⟩
set_option maxRecDepth 20000 in
theorem fX11_59 : jk_fl RX11 59 11 20 true := ⟨RX11, TX11, 51, cf_11, by decide +kernel, rfl, rfl, jk_t5 165 rfl rfl⟩
set_option maxRecDepth 20000 in
theorem fX11_62 : jk_fl RX11 62 11 21 true := ⟨RX11, TX11, 51, cf_11, by decide +kernel, rfl, rfl, jk_t5 166 rfl rfl⟩
set_option maxRecDepth 20000 in
theorem fX11_65 : jk_fl RX11 65 11 22 true := ⟨RX11, TX11, 51, cf_11, by decide +kernel, rfl, rfl, jk_t5 167 rfl rfl⟩
set_option maxRecDepth 20000 in
theorem fX11_68 : jk_fl RX11 68 11 23 true := ⟨RX11, TX11, 51, cf_11, by decide +kernel, rfl, rfl, jk_t5 168 rfl rfl⟩
set_option maxRecDepth 20000 in
theorem fX11_71 : jk_fl RX11 71 11 24 true := ⟨RX11, TX11, 51, cf_11, by decide +kernel, rfl, rfl, jk_t5 169 rfl rfl⟩
set_option maxRecDepth 20000 in
theorem fX11_74 : jk_fl RX11 74 11 25 true := ⟨RX11, TX11, 51, cf_11, by decide +kernel, rfl, rfl, jk_t5 170 rfl rfl⟩
set_option maxRecDepth 20000 in
theorem fX11_78 : jk_fl RX11 78 11 26 true := ⟨RX11, TX11, 51, cf_11, by decide +kernel, rfl, rfl, jk_t5 171 rfl rfl⟩
set_option maxRecDepth 20000 in
theorem fX11_81 : jk_fl RX11 81 11 27 true := ⟨RX11, TX11, 51, cf_11, by decide +kernel, rfl, rfl, jk_t5 172 rfl rfl⟩
set_option maxRecDepth 20000 in
theorem fX11_84 : jk_fl RX11 84 11 28 true := ⟨RX11, TX11, 51, cf_11, by decide +kernel, rfl, rfl, jk_t5 173 rfl rfl⟩
set_option maxRecDepth 20000 in
theorem fX11_87 : jk_fl RX11 87 11 29 true := ⟨RX11, TX11, 51, cf_11, by decide +kernel, rfl, rfl, jk_t5 174 rfl rfl⟩
set_option maxRecDepth 20000 in
theorem fX11_199 : jk_fl RX11 199 11 30 false := ⟨RX11, TX11, 51, cf_11, by decide +kernel, rfl, rfl, jk_t5 175 rfl rfl⟩
set_option maxRecDepth 20000 in
theorem fX11_193 : jk_fl RX11 193 11 31 false := ⟨RX11, TX11, 51, cf_11, by decide +kernel, rfl, rfl, jk_t5 176 rfl rfl⟩
set_option maxRecDepth 20000 in
theorem fX11_196 : jk_fl RX11 196 11 32 false := ⟨RX11, TX11, 51, cf_11, by decide +kernel, rfl, rfl, jk_t5 177 rfl rfl⟩
set_option maxRecDepth 20000 in
theorem fX11_202 : jk_fl RX11 202 11 33 false := ⟨RX11, TX11, 51, cf_11, by decide +kernel, rfl, rfl, jk_t5 178 rfl rfl⟩
set_option maxRecDepth 20000 in
theorem fX11_190 : jk_fl RX11 190 11 34 false := ⟨RX11, TX11, 51, cf_11, by decide +kernel, rfl, rfl, jk_t5 179 rfl rfl⟩
set_option maxRecDepth 20000 in
theorem fX11_90 : jk_fl RX11 90 11 35 true := ⟨RX11, TX11, 51, cf_11, by decide +kernel, rfl, rfl, jk_t5 180 rfl rfl⟩
set_option maxRecDepth 20000 in
theorem fX11_93 : jk_fl RX11 93 11 36 true := ⟨RX11, TX11, 51, cf_11, by decide +kernel, rfl, rfl, jk_t5 181 rfl rfl⟩
set_option maxRecDepth 20000 in
theorem fX11_96 : jk_fl RX11 96 11 37 true := ⟨RX11, TX11, 51, cf_11, by decide +kernel, rfl, rfl, jk_t5 182 rfl rfl⟩
set_option maxRecDepth 20000 in
theorem fX11_99 : jk_fl RX11 99 11 38 true := ⟨RX11, TX11, 51, cf_11, by decide +kernel, rfl, rfl, jk_t5 183 rfl rfl⟩
set_option maxRecDepth 20000 in
theorem fX11_245 : jk_fl RX11 245 11 39 false := ⟨RX11, TX11, 51, cf_11, by decide +kernel, rfl, rfl, jk_t5 184 rfl rfl⟩
set_option maxRecDepth 20000 in
theorem fX11_102 : jk_fl RX11 102 11 40 false := ⟨RX11, TX11, 51, cf_11, by decide +kernel, rfl, rfl, jk_t5 185 rfl rfl⟩
set_option maxRecDepth 20000 in
theorem fX11_266 : jk_fl RX11 266 11 41 false := ⟨RX11, TX11, 51, cf_11, by decide +kernel, rfl, rfl, jk_t5 186 rfl rfl⟩
set_option maxRecDepth 20000 in
theorem fX11_105 : jk_fl RX11 105 11 42 true := ⟨RX11, TX11, 51, cf_11, by decide +kernel, rfl, rfl, jk_t5 187 rfl rfl⟩
set_option maxRecDepth 20000 in
theorem fX11_108 : jk_fl RX11 108 11 43 true := ⟨RX11, TX11, 51, cf_11, by decide +kernel, rfl, rfl, jk_t5 188 rfl rfl⟩
set_option maxRecDepth 20000 in
theorem fX11_111 : jk_fl RX11 111 11 44 true := ⟨RX11, TX11, 51, cf_11, by decide +kernel, rfl, rfl, jk_t5 189 rfl rfl⟩
set_option maxRecDepth 20000 in
theorem fX11_114 : jk_fl RX11 114 11 45 true := ⟨RX11, TX11, 51, cf_11, by decide +kernel, rfl, rfl, jk_t5 190 rfl rfl⟩
set_option maxRecDepth 20000 in
theorem fX11_117 : jk_fl RX11 117 11 46 true := ⟨RX11, TX11, 51, cf_11, by decide +kernel, rfl, rfl, jk_t5 191 rfl rfl⟩
set_option maxRecDepth 20000 in
theorem fX11_290 : jk_fl RX11 290 11 47 false := ⟨RX11, TX11, 51, cf_11, by decide +kernel, rfl, rfl, jk_t5 192 rfl rfl⟩
set_option maxRecDepth 20000 in
theorem fX11_120 : jk_fl RX11 120 11 48 true := ⟨RX11, TX11, 51, cf_11, by decide +kernel, rfl, rfl, jk_t5 193 rfl rfl⟩
set_option maxRecDepth 20000 in
theorem fX11_318 : jk_fl RX11 318 11 49 false := ⟨RX11, TX11, 51, cf_11, by decide +kernel, rfl, rfl, jk_t5 194 rfl rfl⟩
set_option maxRecDepth 20000 in
theorem fX11_334 : jk_fl RX11 334 11 50 false := ⟨RX11, TX11, 51, cf_11, by decide +kernel, rfl, rfl, jk_t5 195 rfl rfl⟩
set_option maxRecDepth 20000 in
theorem kc_X10_init : jk_kc yX10_init Fr_X10_init 0 := ⟨jk_t1 24 rfl rfl, jk_t1 1 rfl rfl, ⟨by decide +kernel, by decide +kernel⟩, by decide +kernel, by decide +kernel, rfl, by decide⟩
set_option maxRecDepth 20000 in
theorem kc_X2_init : jk_kc yX2_init Fr_X2_init 0 := ⟨jk_t1 32 rfl rfl, jk_t1 2 rfl rfl, ⟨by decide +kernel, by decide +kernel⟩, by decide +kernel, by decide +kernel, rfl, by decide⟩
set_option maxRecDepth 20000 in
theorem kc_X9_init : jk_kc yX9_init Fr_X9_init 0 := ⟨jk_t1 41 rfl rfl, jk_t1 3 rfl rfl, ⟨by decide +kernel, by decide +kernel⟩, by decide +kernel, by decide +kernel, rfl, by decide⟩
set_option maxRecDepth 20000 in
theorem kc_X1_init : jk_kc yX1_init Fr_X1_init 0 := ⟨jk_t1 75 rfl rfl, jk_t1 4 rfl rfl, ⟨by decide +kernel, by decide +kernel⟩, by decide +kernel, by decide +kernel, rfl, by decide⟩
set_option maxRecDepth 20000 in
theorem kc_X0_init : jk_kc yX0_init Fr_X0_init 1 := ⟨jk_t1 179 rfl rfl, jk_t1 5 rfl rfl, ⟨by decide +kernel, by decide +kernel⟩, by decide +kernel, by decide +kernel, rfl, by decide⟩
set_option maxRecDepth 20000 in
theorem kc_X3_init : jk_kc yX3_init Fr_X3_init 2 := ⟨jk_t1 208 rfl rfl, jk_t1 6 rfl rfl, ⟨by decide +kernel, by decide +kernel⟩, by decide +kernel, by decide +kernel, rfl, by decide⟩
set_option maxRecDepth 20000 in
theorem kc_X7_init : jk_kc yX7_init Fr_X7_init 2 := ⟨jk_t1 232 rfl rfl, jk_t1 7 rfl rfl, ⟨by decide +kernel, by decide +kernel⟩, by decide +kernel, by decide +kernel, rfl, by decide⟩
set_option maxRecDepth 20000 in
theorem kc_X6_init : jk_kc yX6_init Fr_X6_init 1 := ⟨jk_t2 15 rfl rfl, jk_t1 8 rfl rfl, ⟨by decide +kernel, by decide +kernel⟩, by decide +kernel, by decide +kernel, rfl, by decide⟩
set_option maxRecDepth 20000 in
theorem kc_X5_init : jk_kc yX5_init Fr_X5_init 1 := ⟨jk_t2 31 rfl rfl, jk_t1 9 rfl rfl, ⟨by decide +kernel, by decide +kernel⟩, by decide +kernel, by decide +kernel, rfl, by decide⟩
set_option maxRecDepth 20000 in
theorem kc_X8_init : jk_kc yX8_init Fr_X8_init 0 := ⟨jk_t2 37 rfl rfl, jk_t1 10 rfl rfl, ⟨by decide +kernel, by decide +kernel⟩, by decide +kernel, by decide +kernel, rfl, by decide⟩
set_option maxRecDepth 20000 in
theorem kc_X4_init : jk_kc yX4_init Fr_X4_init 0 := ⟨jk_t2 78 rfl rfl, jk_t1 11 rfl rfl, ⟨by decide +kernel, by decide +kernel⟩, by decide +kernel, by decide +kernel, rfl, by decide⟩
set_option maxRecDepth 20000 in
theorem kc_X10_row : jk_kc yX10_row Fr_X10_row 3 := ⟨jk_t2 146 rfl rfl, jk_t1 1 rfl rfl, ⟨by decide +kernel, by decide +kernel⟩, by decide +kernel, by decide +kernel, rfl, by decide⟩
set_option maxRecDepth 20000 in
theorem kc_X10_shelfAt : jk_kc yX10_shelfAt Fr_X10_shelfAt 1 := ⟨jk_t2 150 rfl rfl, jk_t1 1 rfl rfl, ⟨by decide +kernel, by decide +kernel⟩, by decide +kernel, by decide +kernel, rfl, by decide⟩
set_option maxRecDepth 20000 in
theorem kc_X10_refuse : jk_kc yX10_refuse Fr_X10_refuse 1 := ⟨jk_t2 154 rfl rfl, jk_t1 1 rfl rfl, ⟨by decide +kernel, by decide +kernel⟩, by decide +kernel, by decide +kernel, rfl, by decide⟩
set_option maxRecDepth 20000 in
theorem kc_X8_layRow : jk_kc yX8_layRow Fr_X8_layRow 2 := ⟨jk_t2 158 rfl rfl, jk_t1 10 rfl rfl, ⟨by decide +kernel, by decide +kernel⟩, by decide +kernel, by decide +kernel, rfl, by decide⟩
set_option maxRecDepth 20000 in
theorem kc_X8_clear : jk_kc yX8_clear Fr_X8_clear 0 := ⟨jk_t2 162 rfl rfl, jk_t1 10 rfl rfl, ⟨by decide +kernel, by decide +kernel⟩, by decide +kernel, by decide +kernel, rfl, by decide⟩
set_option maxRecDepth 20000 in
theorem kc_J7_fill_d0a16 : jk_kc yJ7_fill_d0a16 Fr_J7_fill_d0a16 2 := ⟨jk_t2 171 rfl rfl, jk_t1 14 rfl rfl, ⟨by decide +kernel, by decide +kernel⟩, by decide +kernel, by decide +kernel, rfl, by decide⟩
set_option maxRecDepth 20000 in
theorem kc_X10_set : jk_kc yX10_set Fr_X10_set 3 := ⟨jk_t2 175 rfl rfl, jk_t1 1 rfl rfl, ⟨by decide +kernel, by decide +kernel⟩, by decide +kernel, by decide +kernel, rfl, by decide⟩
set_option maxRecDepth 20000 in
theorem kc_X10_rowRefusal : jk_kc yX10_rowRefusal Fr_X10_rowRefusal 1 := ⟨jk_t2 178 rfl rfl, jk_t1 1 rfl rfl, ⟨by decide +kernel, by decide +kernel⟩, by decide +kernel, by decide +kernel, rfl, by decide⟩
set_option maxRecDepth 20000 in
theorem kc_X8_isRow : jk_kc yX8_isRow Fr_X8_isRow 0 := ⟨jk_t2 182 rfl rfl, jk_t1 10 rfl rfl, ⟨by decide +kernel, by decide +kernel⟩, by decide +kernel, by decide +kernel, rfl, by decide⟩
set_option maxRecDepth 20000 in
theorem kc_X8_has : jk_kc yX8_has Fr_X8_has 1 := ⟨jk_t2 186 rfl rfl, jk_t1 10 rfl rfl, ⟨by decide +kernel, by decide +kernel⟩, by decide +kernel, by decide +kernel, rfl, by decide⟩
set_option maxRecDepth 20000 in
theorem kc_X8_write : jk_kc yX8_write Fr_X8_write 2 := ⟨jk_t2 190 rfl rfl, jk_t1 10 rfl rfl, ⟨by decide +kernel, by decide +kernel⟩, by decide +kernel, by decide +kernel, rfl, by decide⟩
set_option maxRecDepth 20000 in
theorem kc_X8_cut : jk_kc yX8_cut Fr_X8_cut 1 := ⟨jk_t2 195 rfl rfl, jk_t1 10 rfl rfl, ⟨by decide +kernel, by decide +kernel⟩, by decide +kernel, by decide +kernel, rfl, by decide⟩
set_option maxRecDepth 20000 in
theorem kc_X10_copy : jk_kc yX10_copy Fr_X10_copy 5 := ⟨jk_t2 199 rfl rfl, jk_t1 1 rfl rfl, ⟨by decide +kernel, by decide +kernel⟩, by decide +kernel, by decide +kernel, rfl, by decide⟩
set_option maxRecDepth 20000 in
theorem kc_X10_copyRefusal : jk_kc yX10_copyRefusal Fr_X10_copyRefusal 2 := ⟨jk_t2 202 rfl rfl, jk_t1 1 rfl rfl, ⟨by decide +kernel, by decide +kernel⟩, by decide +kernel, by decide +kernel, rfl, by decide⟩
set_option maxRecDepth 20000 in
theorem kc_X8_hasRun : jk_kc yX8_hasRun Fr_X8_hasRun 2 := ⟨jk_t2 206 rfl rfl, jk_t1 10 rfl rfl, ⟨by decide +kernel, by decide +kernel⟩, by decide +kernel, by decide +kernel, rfl, by decide⟩
set_option maxRecDepth 20000 in
theorem kc_X8_takeRun : jk_kc yX8_takeRun Fr_X8_takeRun 4 := ⟨jk_t2 210 rfl rfl, jk_t1 10 rfl rfl, ⟨by decide +kernel, by decide +kernel⟩, by decide +kernel, by decide +kernel, rfl, by decide⟩
set_option maxRecDepth 20000 in
theorem kc_X10_element : jk_kc yX10_element Fr_X10_element 2 := ⟨jk_t2 218 rfl rfl, jk_t1 1 rfl rfl, ⟨by decide +kernel, by decide +kernel⟩, by decide +kernel, by decide +kernel, rfl, by decide⟩
set_option maxRecDepth 20000 in
theorem kc_X8_read : jk_kc yX8_read Fr_X8_read 1 := ⟨jk_t2 222 rfl rfl, jk_t1 10 rfl rfl, ⟨by decide +kernel, by decide +kernel⟩, by decide +kernel, by decide +kernel, rfl, by decide⟩
set_option maxRecDepth 20000 in
theorem kc_X10_show : jk_kc yX10_show Fr_X10_show 2 := ⟨jk_t2 226 rfl rfl, jk_t1 1 rfl rfl, ⟨by decide +kernel, by decide +kernel⟩, by decide +kernel, by decide +kernel, rfl, by decide⟩
set_option maxRecDepth 20000 in
theorem kc_X2_thingAt : jk_kc yX2_thingAt Fr_X2_thingAt 1 := ⟨jk_t2 230 rfl rfl, jk_t1 2 rfl rfl, ⟨by decide +kernel, by decide +kernel⟩, by decide +kernel, by decide +kernel, rfl, by decide⟩
set_option maxRecDepth 20000 in
theorem kc_X8_point : jk_kc yX8_point Fr_X8_point 1 := ⟨jk_t2 235 rfl rfl, jk_t1 10 rfl rfl, ⟨by decide +kernel, by decide +kernel⟩, by decide +kernel, by decide +kernel, rfl, by decide⟩
set_option maxRecDepth 20000 in
theorem kc_X10_holds : jk_kc yX10_holds Fr_X10_holds 1 := ⟨jk_t2 239 rfl rfl, jk_t1 1 rfl rfl, ⟨by decide +kernel, by decide +kernel⟩, by decide +kernel, by decide +kernel, rfl, by decide⟩
set_option maxRecDepth 20000 in
theorem kc_X10_says : jk_kc yX10_says Fr_X10_says 2 := ⟨jk_t3 3 rfl rfl, jk_t1 1 rfl rfl, ⟨by decide +kernel, by decide +kernel⟩, by decide +kernel, by decide +kernel, rfl, by decide⟩
set_option maxRecDepth 20000 in
theorem kc_X2_may : jk_kc yX2_may Fr_X2_may 2 := ⟨jk_t3 7 rfl rfl, jk_t1 2 rfl rfl, ⟨by decide +kernel, by decide +kernel⟩, by decide +kernel, by decide +kernel, rfl, by decide⟩
set_option maxRecDepth 20000 in
theorem kc_X2_isCell : jk_kc yX2_isCell Fr_X2_isCell 1 := ⟨jk_t3 11 rfl rfl, jk_t1 2 rfl rfl, ⟨by decide +kernel, by decide +kernel⟩, by decide +kernel, by decide +kernel, rfl, by decide⟩
set_option maxRecDepth 20000 in
theorem kc_X9_isOne : jk_kc yX9_isOne Fr_X9_isOne 1 := ⟨jk_t3 19 rfl rfl, jk_t1 3 rfl rfl, ⟨by decide +kernel, by decide +kernel⟩, by decide +kernel, by decide +kernel, rfl, by decide⟩
set_option maxRecDepth 20000 in
theorem kc_X10_kindAbove : jk_kc yX10_kindAbove Fr_X10_kindAbove 1 := ⟨jk_t3 24 rfl rfl, jk_t1 1 rfl rfl, ⟨by decide +kernel, by decide +kernel⟩, by decide +kernel, by decide +kernel, rfl, by decide⟩
set_option maxRecDepth 20000 in
theorem kc_X9_humsFar : jk_kc yX9_humsFar Fr_X9_humsFar 2 := ⟨jk_t3 29 rfl rfl, jk_t1 3 rfl rfl, ⟨by decide +kernel, by decide +kernel⟩, by decide +kernel, by decide +kernel, rfl, by decide⟩
set_option maxRecDepth 20000 in
theorem kc_X9_swallows : jk_kc yX9_swallows Fr_X9_swallows 0 := ⟨jk_t3 34 rfl rfl, jk_t1 3 rfl rfl, ⟨by decide +kernel, by decide +kernel⟩, by decide +kernel, by decide +kernel, rfl, by decide⟩
set_option maxRecDepth 20000 in
theorem kc_X10_side : jk_kc yX10_side Fr_X10_side 1 := ⟨jk_t3 38 rfl rfl, jk_t1 1 rfl rfl, ⟨by decide +kernel, by decide +kernel⟩, by decide +kernel, by decide +kernel, rfl, by decide⟩
set_option maxRecDepth 20000 in
theorem kc_X10_thing : jk_kc yX10_thing Fr_X10_thing 3 := ⟨jk_t3 42 rfl rfl, jk_t1 1 rfl rfl, ⟨by decide +kernel, by decide +kernel⟩, by decide +kernel, by decide +kernel, rfl, by decide⟩
set_option maxRecDepth 20000 in
theorem kc_X2_addThing : jk_kc yX2_addThing Fr_X2_addThing 3 := ⟨jk_t3 47 rfl rfl, jk_t1 2 rfl rfl, ⟨by decide +kernel, by decide +kernel⟩, by decide +kernel, by decide +kernel, rfl, by decide⟩
set_option maxRecDepth 20000 in
theorem kc_X10_neighbour : jk_kc yX10_neighbour Fr_X10_neighbour 2 := ⟨jk_t3 52 rfl rfl, jk_t1 1 rfl rfl, ⟨by decide +kernel, by decide +kernel⟩, by decide +kernel, by decide +kernel, rfl, by decide⟩
set_option maxRecDepth 20000 in
theorem kc_X2_addNeighbour : jk_kc yX2_addNeighbour Fr_X2_addNeighbour 2 := ⟨jk_t3 56 rfl rfl, jk_t1 2 rfl rfl, ⟨by decide +kernel, by decide +kernel⟩, by decide +kernel, by decide +kernel, rfl, by decide⟩
set_option maxRecDepth 20000 in
theorem kc_X10_device : jk_kc yX10_device Fr_X10_device 3 := ⟨jk_t3 60 rfl rfl, jk_t1 1 rfl rfl, ⟨by decide +kernel, by decide +kernel⟩, by decide +kernel, by decide +kernel, rfl, by decide⟩
set_option maxRecDepth 20000 in
theorem kc_X2_addDevice : jk_kc yX2_addDevice Fr_X2_addDevice 3 := ⟨jk_t3 64 rfl rfl, jk_t1 2 rfl rfl, ⟨by decide +kernel, by decide +kernel⟩, by decide +kernel, by decide +kernel, rfl, by decide⟩
set_option maxRecDepth 20000 in
theorem kc_X2_deviceAt : jk_kc yX2_deviceAt Fr_X2_deviceAt 1 := ⟨jk_t3 68 rfl rfl, jk_t1 2 rfl rfl, ⟨by decide +kernel, by decide +kernel⟩, by decide +kernel, by decide +kernel, rfl, by decide⟩
set_option maxRecDepth 20000 in
theorem kc_X10_box : jk_kc yX10_box Fr_X10_box 2 := ⟨jk_t3 72 rfl rfl, jk_t1 1 rfl rfl, ⟨by decide +kernel, by decide +kernel⟩, by decide +kernel, by decide +kernel, rfl, by decide⟩
set_option maxRecDepth 20000 in
theorem kc_X2_placeOf : jk_kc yX2_placeOf Fr_X2_placeOf 1 := ⟨jk_t3 76 rfl rfl, jk_t1 2 rfl rfl, ⟨by decide +kernel, by decide +kernel⟩, by decide +kernel, by decide +kernel, rfl, by decide⟩
set_option maxRecDepth 20000 in
theorem kc_X2_place : jk_kc yX2_place Fr_X2_place 2 := ⟨jk_t3 80 rfl rfl, jk_t1 2 rfl rfl, ⟨by decide +kernel, by decide +kernel⟩, by decide +kernel, by decide +kernel, rfl, by decide⟩
set_option maxRecDepth 20000 in
theorem kc_X10_ask : jk_kc yX10_ask Fr_X10_ask 2 := ⟨jk_t3 84 rfl rfl, jk_t1 1 rfl rfl, ⟨by decide +kernel, by decide +kernel⟩, by decide +kernel, by decide +kernel, rfl, by decide⟩
set_option maxRecDepth 20000 in
theorem kc_X10_shut : jk_kc yX10_shut Fr_X10_shut 2 := ⟨jk_t3 88 rfl rfl, jk_t1 1 rfl rfl, ⟨by decide +kernel, by decide +kernel⟩, by decide +kernel, by decide +kernel, rfl, by decide⟩
set_option maxRecDepth 20000 in
theorem kc_X10_move : jk_kc yX10_move Fr_X10_move 2 := ⟨jk_t3 92 rfl rfl, jk_t1 1 rfl rfl, ⟨by decide +kernel, by decide +kernel⟩, by decide +kernel, by decide +kernel, rfl, by decide⟩
set_option maxRecDepth 20000 in
theorem kc_X10_thingOf : jk_kc yX10_thingOf Fr_X10_thingOf 2 := ⟨jk_t3 96 rfl rfl, jk_t1 1 rfl rfl, ⟨by decide +kernel, by decide +kernel⟩, by decide +kernel, by decide +kernel, rfl, by decide⟩
set_option maxRecDepth 20000 in
theorem kc_X10_deviceOf : jk_kc yX10_deviceOf Fr_X10_deviceOf 2 := ⟨jk_t3 100 rfl rfl, jk_t1 1 rfl rfl, ⟨by decide +kernel, by decide +kernel⟩, by decide +kernel, by decide +kernel, rfl, by decide⟩
set_option maxRecDepth 20000 in
theorem kc_X0_lay : jk_kc yX0_lay Fr_X0_lay 0 := ⟨jk_t3 105 rfl rfl, jk_t1 5 rfl rfl, ⟨by decide +kernel, by decide +kernel⟩, by decide +kernel, by decide +kernel, rfl, by decide⟩
set_option maxRecDepth 20000 in
theorem kc_X0_layLoss : jk_kc yX0_layLoss Fr_X0_layLoss 0 := ⟨jk_t3 109 rfl rfl, jk_t1 5 rfl rfl, ⟨by decide +kernel, by decide +kernel⟩, by decide +kernel, by decide +kernel, rfl, by decide⟩
set_option maxRecDepth 20000 in
theorem kc_J7_fill_53178 : jk_kc yJ7_fill_53178 Fr_J7_fill_53178 2 := ⟨jk_t3 112 rfl rfl, jk_t1 14 rfl rfl, ⟨by decide +kernel, by decide +kernel⟩, by decide +kernel, by decide +kernel, rfl, by decide⟩
set_option maxRecDepth 20000 in
theorem kc_X10_isPlace : jk_kc yX10_isPlace Fr_X10_isPlace 1 := ⟨jk_t3 116 rfl rfl, jk_t1 1 rfl rfl, ⟨by decide +kernel, by decide +kernel⟩, by decide +kernel, by decide +kernel, rfl, by decide⟩
set_option maxRecDepth 20000 in
theorem kc_X0_layHum : jk_kc yX0_layHum Fr_X0_layHum 0 := ⟨jk_t3 121 rfl rfl, jk_t1 5 rfl rfl, ⟨by decide +kernel, by decide +kernel⟩, by decide +kernel, by decide +kernel, rfl, by decide⟩
set_option maxRecDepth 20000 in
theorem kc_X2_dinOn : jk_kc yX2_dinOn Fr_X2_dinOn 1 := ⟨jk_t3 125 rfl rfl, jk_t1 2 rfl rfl, ⟨by decide +kernel, by decide +kernel⟩, by decide +kernel, by decide +kernel, rfl, by decide⟩
set_option maxRecDepth 20000 in
theorem kc_X2_noiseAt : jk_kc yX2_noiseAt Fr_X2_noiseAt 1 := ⟨jk_t3 129 rfl rfl, jk_t1 2 rfl rfl, ⟨by decide +kernel, by decide +kernel⟩, by decide +kernel, by decide +kernel, rfl, by decide⟩
set_option maxRecDepth 20000 in
theorem kc_X2_channelAt : jk_kc yX2_channelAt Fr_X2_channelAt 1 := ⟨jk_t3 133 rfl rfl, jk_t1 2 rfl rfl, ⟨by decide +kernel, by decide +kernel⟩, by decide +kernel, by decide +kernel, rfl, by decide⟩
set_option maxRecDepth 20000 in
theorem kc_X10_noiseOver : jk_kc yX10_noiseOver Fr_X10_noiseOver 2 := ⟨jk_t3 136 rfl rfl, jk_t1 1 rfl rfl, ⟨by decide +kernel, by decide +kernel⟩, by decide +kernel, by decide +kernel, rfl, by decide⟩
set_option maxRecDepth 20000 in
theorem kc_X0_paceOf : jk_kc yX0_paceOf Fr_X0_paceOf 2 := ⟨jk_t3 144 rfl rfl, jk_t1 5 rfl rfl, ⟨by decide +kernel, by decide +kernel⟩, by decide +kernel, by decide +kernel, rfl, by decide⟩
set_option maxRecDepth 20000 in
theorem kc_X0_barsOf : jk_kc yX0_barsOf Fr_X0_barsOf 2 := ⟨jk_t3 148 rfl rfl, jk_t1 5 rfl rfl, ⟨by decide +kernel, by decide +kernel⟩, by decide +kernel, by decide +kernel, rfl, by decide⟩
set_option maxRecDepth 20000 in
theorem kc_X0_strengthFrom : jk_kc yX0_strengthFrom Fr_X0_strengthFrom 2 := ⟨jk_t3 153 rfl rfl, jk_t1 5 rfl rfl, ⟨by decide +kernel, by decide +kernel⟩, by decide +kernel, by decide +kernel, rfl, by decide⟩
set_option maxRecDepth 20000 in
theorem kc_X10_stepsFar : jk_kc yX10_stepsFar Fr_X10_stepsFar 2 := ⟨jk_t3 156 rfl rfl, jk_t1 1 rfl rfl, ⟨by decide +kernel, by decide +kernel⟩, by decide +kernel, by decide +kernel, rfl, by decide⟩
set_option maxRecDepth 20000 in
theorem kc_X0_wayLoss : jk_kc yX0_wayLoss Fr_X0_wayLoss 2 := ⟨jk_t3 160 rfl rfl, jk_t1 5 rfl rfl, ⟨by decide +kernel, by decide +kernel⟩, by decide +kernel, by decide +kernel, rfl, by decide⟩
set_option maxRecDepth 20000 in
theorem kc_X0_along : jk_kc yX0_along Fr_X0_along 3 := ⟨jk_t3 164 rfl rfl, jk_t1 5 rfl rfl, ⟨by decide +kernel, by decide +kernel⟩, by decide +kernel, by decide +kernel, rfl, by decide⟩
set_option maxRecDepth 20000 in
theorem kc_X0_humAt : jk_kc yX0_humAt Fr_X0_humAt 1 := ⟨jk_t3 169 rfl rfl, jk_t1 5 rfl rfl, ⟨by decide +kernel, by decide +kernel⟩, by decide +kernel, by decide +kernel, rfl, by decide⟩
set_option maxRecDepth 20000 in
theorem kc_X10_barsBy : jk_kc yX10_barsBy Fr_X10_barsBy 1 := ⟨jk_t3 174 rfl rfl, jk_t1 1 rfl rfl, ⟨by decide +kernel, by decide +kernel⟩, by decide +kernel, by decide +kernel, rfl, by decide⟩
set_option maxRecDepth 20000 in
theorem kc_X10_house : jk_kc yX10_house Fr_X10_house 1 := ⟨jk_t3 179 rfl rfl, jk_t1 1 rfl rfl, ⟨by decide +kernel, by decide +kernel⟩, by decide +kernel, by decide +kernel, rfl, by decide⟩
set_option maxRecDepth 20000 in
theorem kc_X2_become : jk_kc yX2_become Fr_X2_become 1 := ⟨jk_t3 183 rfl rfl, jk_t1 2 rfl rfl, ⟨by decide +kernel, by decide +kernel⟩, by decide +kernel, by decide +kernel, rfl, by decide⟩
set_option maxRecDepth 20000 in
theorem kc_X9_become : jk_kc yX9_become Fr_X9_become 1 := ⟨jk_t3 187 rfl rfl, jk_t1 3 rfl rfl, ⟨by decide +kernel, by decide +kernel⟩, by decide +kernel, by decide +kernel, rfl, by decide⟩
set_option maxRecDepth 20000 in
theorem kc_X1_become : jk_kc yX1_become Fr_X1_become 1 := ⟨jk_t3 191 rfl rfl, jk_t1 4 rfl rfl, ⟨by decide +kernel, by decide +kernel⟩, by decide +kernel, by decide +kernel, rfl, by decide⟩
set_option maxRecDepth 20000 in
theorem kc_X5_readAll : jk_kc yX5_readAll Fr_X5_readAll 1 := ⟨jk_t3 195 rfl rfl, jk_t1 9 rfl rfl, ⟨by decide +kernel, by decide +kernel⟩, by decide +kernel, by decide +kernel, rfl, by decide⟩
set_option maxRecDepth 20000 in
theorem kc_X5_readItem : jk_kc yX5_readItem Fr_X5_readItem 0 := ⟨jk_t3 199 rfl rfl, jk_t1 9 rfl rfl, ⟨by decide +kernel, by decide +kernel⟩, by decide +kernel, by decide +kernel, rfl, by decide⟩
set_option maxRecDepth 20000 in
theorem kc_X5_readWord : jk_kc yX5_readWord Fr_X5_readWord 0 := ⟨jk_t3 203 rfl rfl, jk_t1 9 rfl rfl, ⟨by decide +kernel, by decide +kernel⟩, by decide +kernel, by decide +kernel, rfl, by decide⟩
set_option maxRecDepth 20000 in
theorem kc_X5_lettersOf : jk_kc yX5_lettersOf Fr_X5_lettersOf 1 := ⟨jk_t3 206 rfl rfl, jk_t1 9 rfl rfl, ⟨by decide +kernel, by decide +kernel⟩, by decide +kernel, by decide +kernel, rfl, by decide⟩
set_option maxRecDepth 20000 in
theorem kc_J0_length_8abf5 : jk_kc yJ0_length_8abf5 Fr_J0_length_8abf5 0 := ⟨jk_t3 220 rfl rfl, jk_t1 16 rfl rfl, ⟨by decide +kernel, by decide +kernel⟩, by decide +kernel, by decide +kernel, rfl, by decide⟩
set_option maxRecDepth 20000 in
theorem kc_J0_coder_7d493 : jk_kc yJ0_coder_7d493 Fr_J0_coder_7d493 0 := ⟨jk_t3 224 rfl rfl, jk_t1 16 rfl rfl, ⟨by decide +kernel, by decide +kernel⟩, by decide +kernel, by decide +kernel, rfl, by decide⟩
set_option maxRecDepth 20000 in
theorem kc_J0_charAt_5068e : jk_kc yJ0_charAt_5068e Fr_J0_charAt_5068e 1 := ⟨jk_t3 230 rfl rfl, jk_t1 16 rfl rfl, ⟨by decide +kernel, by decide +kernel⟩, by decide +kernel, by decide +kernel, rfl, by decide⟩
set_option maxRecDepth 20000 in
theorem kc_J0_isLatin1_aae02 : jk_kc yJ0_isLatin1_aae02 Fr_J0_isLatin1_aae02 0 := ⟨jk_t3 234 rfl rfl, jk_t1 16 rfl rfl, ⟨by decide +kernel, by decide +kernel⟩, by decide +kernel, by decide +kernel, rfl, by decide⟩
set_option maxRecDepth 20000 in
theorem kc_J1_charAt_3b067 : jk_kc yJ1_charAt_3b067 Fr_J1_charAt_3b067 2 := ⟨jk_t3 237 rfl rfl, jk_t1 17 rfl rfl, ⟨by decide +kernel, by decide +kernel⟩, by decide +kernel, by decide +kernel, rfl, by decide⟩
set_option maxRecDepth 20000 in
theorem kc_J0_checkIndex_df160 : jk_kc yJ0_checkIndex_df160 Fr_J0_checkIndex_df160 2 := ⟨jk_t4 0 rfl rfl, jk_t1 16 rfl rfl, ⟨by decide +kernel, by decide +kernel⟩, by decide +kernel, by decide +kernel, rfl, by decide⟩
set_option maxRecDepth 20000 in
theorem kc_J3_checkIndex_8e157 : jk_kc yJ3_checkIndex_8e157 Fr_J3_checkIndex_8e157 3 := ⟨jk_t4 5 rfl rfl, jk_t1 18 rfl rfl, ⟨by decide +kernel, by decide +kernel⟩, by decide +kernel, by decide +kernel, rfl, by decide⟩
set_option maxRecDepth 20000 in
theorem kc_J2_charAt_3b067 : jk_kc yJ2_charAt_3b067 Fr_J2_charAt_3b067 2 := ⟨jk_t4 8 rfl rfl, jk_t1 19 rfl rfl, ⟨by decide +kernel, by decide +kernel⟩, by decide +kernel, by decide +kernel, rfl, by decide⟩
set_option maxRecDepth 20000 in
theorem kc_J2_checkIndex_2214a : jk_kc yJ2_checkIndex_2214a Fr_J2_checkIndex_2214a 2 := ⟨jk_t4 11 rfl rfl, jk_t1 19 rfl rfl, ⟨by decide +kernel, by decide +kernel⟩, by decide +kernel, by decide +kernel, rfl, by decide⟩
set_option maxRecDepth 20000 in
theorem kc_J2_length_9d52b : jk_kc yJ2_length_9d52b Fr_J2_length_9d52b 1 := ⟨jk_t4 14 rfl rfl, jk_t1 19 rfl rfl, ⟨by decide +kernel, by decide +kernel⟩, by decide +kernel, by decide +kernel, rfl, by decide⟩
set_option maxRecDepth 20000 in
theorem kc_J2_getChar_3b067 : jk_kc yJ2_getChar_3b067 Fr_J2_getChar_3b067 2 := ⟨jk_t4 18 rfl rfl, jk_t1 19 rfl rfl, ⟨by decide +kernel, by decide +kernel⟩, by decide +kernel, by decide +kernel, rfl, by decide⟩
set_option maxRecDepth 20000 in
theorem kc_X5_isAt : jk_kc yX5_isAt Fr_X5_isAt 2 := ⟨jk_t4 28 rfl rfl, jk_t1 9 rfl rfl, ⟨by decide +kernel, by decide +kernel⟩, by decide +kernel, by decide +kernel, rfl, by decide⟩
set_option maxRecDepth 20000 in
theorem kc_X8_tells : jk_kc yX8_tells Fr_X8_tells 1 := ⟨jk_t4 33 rfl rfl, jk_t1 10 rfl rfl, ⟨by decide +kernel, by decide +kernel⟩, by decide +kernel, by decide +kernel, rfl, by decide⟩
set_option maxRecDepth 20000 in
theorem kc_X5_hasRoom : jk_kc yX5_hasRoom Fr_X5_hasRoom 1 := ⟨jk_t4 38 rfl rfl, jk_t1 9 rfl rfl, ⟨by decide +kernel, by decide +kernel⟩, by decide +kernel, by decide +kernel, rfl, by decide⟩
set_option maxRecDepth 20000 in
theorem kc_X5_sortOf : jk_kc yX5_sortOf Fr_X5_sortOf 2 := ⟨jk_t4 41 rfl rfl, jk_t1 9 rfl rfl, ⟨by decide +kernel, by decide +kernel⟩, by decide +kernel, by decide +kernel, rfl, by decide⟩
set_option maxRecDepth 20000 in
theorem kc_X5_readNumber : jk_kc yX5_readNumber Fr_X5_readNumber 2 := ⟨jk_t4 47 rfl rfl, jk_t1 9 rfl rfl, ⟨by decide +kernel, by decide +kernel⟩, by decide +kernel, by decide +kernel, rfl, by decide⟩
set_option maxRecDepth 20000 in
theorem kc_X5_isHere : jk_kc yX5_isHere Fr_X5_isHere 1 := ⟨jk_t4 51 rfl rfl, jk_t1 9 rfl rfl, ⟨by decide +kernel, by decide +kernel⟩, by decide +kernel, by decide +kernel, rfl, by decide⟩
set_option maxRecDepth 20000 in
theorem kc_X5_digitHere : jk_kc yX5_digitHere Fr_X5_digitHere 0 := ⟨jk_t4 55 rfl rfl, jk_t1 9 rfl rfl, ⟨by decide +kernel, by decide +kernel⟩, by decide +kernel, by decide +kernel, rfl, by decide⟩
set_option maxRecDepth 20000 in
theorem kc_X5_apply : jk_kc yX5_apply Fr_X5_apply 1 := ⟨jk_t4 60 rfl rfl, jk_t1 9 rfl rfl, ⟨by decide +kernel, by decide +kernel⟩, by decide +kernel, by decide +kernel, rfl, by decide⟩
set_option maxRecDepth 20000 in
theorem kc_X10_fault : jk_kc yX10_fault Fr_X10_fault 0 := ⟨jk_t4 70 rfl rfl, jk_t1 1 rfl rfl, ⟨by decide +kernel, by decide +kernel⟩, by decide +kernel, by decide +kernel, rfl, by decide⟩
set_option maxRecDepth 20000 in
theorem kc_X10_bars : jk_kc yX10_bars Fr_X10_bars 3 := ⟨jk_t4 74 rfl rfl, jk_t1 1 rfl rfl, ⟨by decide +kernel, by decide +kernel⟩, by decide +kernel, by decide +kernel, rfl, by decide⟩
set_option maxRecDepth 20000 in
theorem kc_X10_way : jk_kc yX10_way Fr_X10_way 3 := ⟨jk_t4 80 rfl rfl, jk_t1 1 rfl rfl, ⟨by decide +kernel, by decide +kernel⟩, by decide +kernel, by decide +kernel, rfl, by decide⟩
set_option maxRecDepth 20000 in
theorem kc_X10_hum : jk_kc yX10_hum Fr_X10_hum 2 := ⟨jk_t4 86 rfl rfl, jk_t1 1 rfl rfl, ⟨by decide +kernel, by decide +kernel⟩, by decide +kernel, by decide +kernel, rfl, by decide⟩
set_option maxRecDepth 20000 in
theorem kc_X10_filled : jk_kc yX10_filled Fr_X10_filled 1 := ⟨jk_t4 92 rfl rfl, jk_t1 1 rfl rfl, ⟨by decide +kernel, by decide +kernel⟩, by decide +kernel, by decide +kernel, rfl, by decide⟩
set_option maxRecDepth 20000 in
theorem kc_X0_filledNow : jk_kc yX0_filledNow Fr_X0_filledNow 0 := ⟨jk_t4 96 rfl rfl, jk_t1 5 rfl rfl, ⟨by decide +kernel, by decide +kernel⟩, by decide +kernel, by decide +kernel, rfl, by decide⟩
set_option maxRecDepth 20000 in
theorem kc_X0_servedNow : jk_kc yX0_servedNow Fr_X0_servedNow 0 := ⟨jk_t4 102 rfl rfl, jk_t1 5 rfl rfl, ⟨by decide +kernel, by decide +kernel⟩, by decide +kernel, by decide +kernel, rfl, by decide⟩
set_option maxRecDepth 20000 in
theorem kc_X0_reachFrom : jk_kc yX0_reachFrom Fr_X0_reachFrom 1 := ⟨jk_t4 106 rfl rfl, jk_t1 5 rfl rfl, ⟨by decide +kernel, by decide +kernel⟩, by decide +kernel, by decide +kernel, rfl, by decide⟩
set_option maxRecDepth 20000 in
theorem kc_X0_servedBy : jk_kc yX0_servedBy Fr_X0_servedBy 2 := ⟨jk_t4 110 rfl rfl, jk_t1 5 rfl rfl, ⟨by decide +kernel, by decide +kernel⟩, by decide +kernel, by decide +kernel, rfl, by decide⟩
set_option maxRecDepth 20000 in
theorem kc_X0_reachOf : jk_kc yX0_reachOf Fr_X0_reachOf 2 := ⟨jk_t4 114 rfl rfl, jk_t1 5 rfl rfl, ⟨by decide +kernel, by decide +kernel⟩, by decide +kernel, by decide +kernel, rfl, by decide⟩
set_option maxRecDepth 20000 in
theorem kc_X10_put : jk_kc yX10_put Fr_X10_put 1 := ⟨jk_t4 118 rfl rfl, jk_t1 1 rfl rfl, ⟨by decide +kernel, by decide +kernel⟩, by decide +kernel, by decide +kernel, rfl, by decide⟩
set_option maxRecDepth 20000 in
theorem kc_X3_begin : jk_kc yX3_begin Fr_X3_begin 0 := ⟨jk_t4 122 rfl rfl, jk_t1 6 rfl rfl, ⟨by decide +kernel, by decide +kernel⟩, by decide +kernel, by decide +kernel, rfl, by decide⟩
set_option maxRecDepth 20000 in
theorem kc_X2_wholeWorth : jk_kc yX2_wholeWorth Fr_X2_wholeWorth 0 := ⟨jk_t4 128 rfl rfl, jk_t1 2 rfl rfl, ⟨by decide +kernel, by decide +kernel⟩, by decide +kernel, by decide +kernel, rfl, by decide⟩
set_option maxRecDepth 20000 in
theorem kc_X3_bestPair : jk_kc yX3_bestPair Fr_X3_bestPair 0 := ⟨jk_t4 132 rfl rfl, jk_t1 6 rfl rfl, ⟨by decide +kernel, by decide +kernel⟩, by decide +kernel, by decide +kernel, rfl, by decide⟩
set_option maxRecDepth 20000 in
theorem kc_X3_reachFromAll : jk_kc yX3_reachFromAll Fr_X3_reachFromAll 0 := ⟨jk_t4 136 rfl rfl, jk_t1 6 rfl rfl, ⟨by decide +kernel, by decide +kernel⟩, by decide +kernel, by decide +kernel, rfl, by decide⟩
set_option maxRecDepth 20000 in
theorem kc_X3_bestPlace : jk_kc yX3_bestPlace Fr_X3_bestPlace 1 := ⟨jk_t4 143 rfl rfl, jk_t1 6 rfl rfl, ⟨by decide +kernel, by decide +kernel⟩, by decide +kernel, by decide +kernel, rfl, by decide⟩
set_option maxRecDepth 20000 in
theorem kc_X10_channel : jk_kc yX10_channel Fr_X10_channel 0 := ⟨jk_t4 147 rfl rfl, jk_t1 1 rfl rfl, ⟨by decide +kernel, by decide +kernel⟩, by decide +kernel, by decide +kernel, rfl, by decide⟩
set_option maxRecDepth 20000 in
theorem kc_X10_rests : jk_kc yX10_rests Fr_X10_rests 0 := ⟨jk_t4 151 rfl rfl, jk_t1 1 rfl rfl, ⟨by decide +kernel, by decide +kernel⟩, by decide +kernel, by decide +kernel, rfl, by decide⟩
set_option maxRecDepth 20000 in
theorem kc_X6_begin : jk_kc yX6_begin Fr_X6_begin 0 := ⟨jk_t4 155 rfl rfl, jk_t1 8 rfl rfl, ⟨by decide +kernel, by decide +kernel⟩, by decide +kernel, by decide +kernel, rfl, by decide⟩
set_option maxRecDepth 20000 in
theorem kc_X6_goOnce : jk_kc yX6_goOnce Fr_X6_goOnce 0 := ⟨jk_t4 161 rfl rfl, jk_t1 8 rfl rfl, ⟨by decide +kernel, by decide +kernel⟩, by decide +kernel, by decide +kernel, rfl, by decide⟩
set_option maxRecDepth 20000 in
theorem kc_X6_quietestFor : jk_kc yX6_quietestFor Fr_X6_quietestFor 1 := ⟨jk_t4 165 rfl rfl, jk_t1 8 rfl rfl, ⟨by decide +kernel, by decide +kernel⟩, by decide +kernel, by decide +kernel, rfl, by decide⟩
set_option maxRecDepth 20000 in
theorem kc_X6_madeOn : jk_kc yX6_madeOn Fr_X6_madeOn 2 := ⟨jk_t4 169 rfl rfl, jk_t1 8 rfl rfl, ⟨by decide +kernel, by decide +kernel⟩, by decide +kernel, by decide +kernel, rfl, by decide⟩
set_option maxRecDepth 20000 in
theorem kc_X6_channelAt : jk_kc yX6_channelAt Fr_X6_channelAt 1 := ⟨jk_t4 175 rfl rfl, jk_t1 8 rfl rfl, ⟨by decide +kernel, by decide +kernel⟩, by decide +kernel, by decide +kernel, rfl, by decide⟩
set_option maxRecDepth 20000 in
theorem kc_X10_goesTo : jk_kc yX10_goesTo Fr_X10_goesTo 2 := ⟨jk_t4 179 rfl rfl, jk_t1 1 rfl rfl, ⟨by decide +kernel, by decide +kernel⟩, by decide +kernel, by decide +kernel, rfl, by decide⟩
set_option maxRecDepth 20000 in
theorem kc_X10_moved : jk_kc yX10_moved Fr_X10_moved 0 := ⟨jk_t4 184 rfl rfl, jk_t1 1 rfl rfl, ⟨by decide +kernel, by decide +kernel⟩, by decide +kernel, by decide +kernel, rfl, by decide⟩
set_option maxRecDepth 20000 in
theorem kc_X3_bestAway : jk_kc yX3_bestAway Fr_X3_bestAway 0 := ⟨jk_t4 188 rfl rfl, jk_t1 6 rfl rfl, ⟨by decide +kernel, by decide +kernel⟩, by decide +kernel, by decide +kernel, rfl, by decide⟩
set_option maxRecDepth 20000 in
theorem kc_X10_doors : jk_kc yX10_doors Fr_X10_doors 0 := ⟨jk_t4 195 rfl rfl, jk_t1 1 rfl rfl, ⟨by decide +kernel, by decide +kernel⟩, by decide +kernel, by decide +kernel, rfl, by decide⟩
set_option maxRecDepth 20000 in
theorem kc_X3_bestDoors : jk_kc yX3_bestDoors Fr_X3_bestDoors 0 := ⟨jk_t4 199 rfl rfl, jk_t1 6 rfl rfl, ⟨by decide +kernel, by decide +kernel⟩, by decide +kernel, by decide +kernel, rfl, by decide⟩
set_option maxRecDepth 20000 in
theorem kc_X3_findDoors : jk_kc yX3_findDoors Fr_X3_findDoors 0 := ⟨jk_t4 203 rfl rfl, jk_t1 6 rfl rfl, ⟨by decide +kernel, by decide +kernel⟩, by decide +kernel, by decide +kernel, rfl, by decide⟩
set_option maxRecDepth 20000 in
theorem kc_X10_count : jk_kc yX10_count Fr_X10_count 1 := ⟨jk_t4 209 rfl rfl, jk_t1 1 rfl rfl, ⟨by decide +kernel, by decide +kernel⟩, by decide +kernel, by decide +kernel, rfl, by decide⟩
set_option maxRecDepth 20000 in
theorem kc_X0_betterBars : jk_kc yX0_betterBars Fr_X0_betterBars 1 := ⟨jk_t4 213 rfl rfl, jk_t1 5 rfl rfl, ⟨by decide +kernel, by decide +kernel⟩, by decide +kernel, by decide +kernel, rfl, by decide⟩
set_option maxRecDepth 20000 in
theorem kc_X10_fits : jk_kc yX10_fits Fr_X10_fits 3 := ⟨jk_t4 217 rfl rfl, jk_t1 1 rfl rfl, ⟨by decide +kernel, by decide +kernel⟩, by decide +kernel, by decide +kernel, rfl, by decide⟩
set_option maxRecDepth 20000 in
theorem kc_X10_pairsRefusal : jk_kc yX10_pairsRefusal Fr_X10_pairsRefusal 2 := ⟨jk_t4 221 rfl rfl, jk_t1 1 rfl rfl, ⟨by decide +kernel, by decide +kernel⟩, by decide +kernel, by decide +kernel, rfl, by decide⟩
set_option maxRecDepth 20000 in
theorem kc_X10_toldRefusal : jk_kc yX10_toldRefusal Fr_X10_toldRefusal 3 := ⟨jk_t4 224 rfl rfl, jk_t1 1 rfl rfl, ⟨by decide +kernel, by decide +kernel⟩, by decide +kernel, by decide +kernel, rfl, by decide⟩
set_option maxRecDepth 20000 in
theorem kc_X7_look : jk_kc yX7_look Fr_X7_look 2 := ⟨jk_t4 229 rfl rfl, jk_t1 7 rfl rfl, ⟨by decide +kernel, by decide +kernel⟩, by decide +kernel, by decide +kernel, rfl, by decide⟩
set_option maxRecDepth 20000 in
theorem kc_X7_agrees : jk_kc yX7_agrees Fr_X7_agrees 3 := ⟨jk_t4 235 rfl rfl, jk_t1 7 rfl rfl, ⟨by decide +kernel, by decide +kernel⟩, by decide +kernel, by decide +kernel, rfl, by decide⟩
set_option maxRecDepth 20000 in
theorem kc_X7_fitting : jk_kc yX7_fitting Fr_X7_fitting 1 := ⟨jk_t5 2 rfl rfl, jk_t1 7 rfl rfl, ⟨by decide +kernel, by decide +kernel⟩, by decide +kernel, by decide +kernel, rfl, by decide⟩
set_option maxRecDepth 20000 in
theorem kc_X10_next : jk_kc yX10_next Fr_X10_next 2 := ⟨jk_t5 6 rfl rfl, jk_t1 1 rfl rfl, ⟨by decide +kernel, by decide +kernel⟩, by decide +kernel, by decide +kernel, rfl, by decide⟩
set_option maxRecDepth 20000 in
theorem kc_X7_bestMeasure : jk_kc yX7_bestMeasure Fr_X7_bestMeasure 0 := ⟨jk_t5 10 rfl rfl, jk_t1 7 rfl rfl, ⟨by decide +kernel, by decide +kernel⟩, by decide +kernel, by decide +kernel, rfl, by decide⟩
set_option maxRecDepth 20000 in
theorem kc_X7_worstLeft : jk_kc yX7_worstLeft Fr_X7_worstLeft 1 := ⟨jk_t5 14 rfl rfl, jk_t1 7 rfl rfl, ⟨by decide +kernel, by decide +kernel⟩, by decide +kernel, by decide +kernel, rfl, by decide⟩
set_option maxRecDepth 20000 in
theorem kc_X10_near : jk_kc yX10_near Fr_X10_near 2 := ⟨jk_t5 21 rfl rfl, jk_t1 1 rfl rfl, ⟨by decide +kernel, by decide +kernel⟩, by decide +kernel, by decide +kernel, rfl, by decide⟩
set_option maxRecDepth 20000 in
theorem kc_X10_minute : jk_kc yX10_minute Fr_X10_minute 0 := ⟨jk_t5 25 rfl rfl, jk_t1 1 rfl rfl, ⟨by decide +kernel, by decide +kernel⟩, by decide +kernel, by decide +kernel, rfl, by decide⟩
set_option maxRecDepth 20000 in
theorem kc_X3_bestMinute : jk_kc yX3_bestMinute Fr_X3_bestMinute 0 := ⟨jk_t5 29 rfl rfl, jk_t1 6 rfl rfl, ⟨by decide +kernel, by decide +kernel⟩, by decide +kernel, by decide +kernel, rfl, by decide⟩
set_option maxRecDepth 20000 in
theorem kc_X10_blame : jk_kc yX10_blame Fr_X10_blame 1 := ⟨jk_t5 34 rfl rfl, jk_t1 1 rfl rfl, ⟨by decide +kernel, by decide +kernel⟩, by decide +kernel, by decide +kernel, rfl, by decide⟩
set_option maxRecDepth 20000 in
theorem kc_X10_judge : jk_kc yX10_judge Fr_X10_judge 2 := ⟨jk_t5 38 rfl rfl, jk_t1 1 rfl rfl, ⟨by decide +kernel, by decide +kernel⟩, by decide +kernel, by decide +kernel, rfl, by decide⟩
set_option maxRecDepth 20000 in
theorem kc_X10_firstWrong : jk_kc yX10_firstWrong Fr_X10_firstWrong 2 := ⟨jk_t5 42 rfl rfl, jk_t1 1 rfl rfl, ⟨by decide +kernel, by decide +kernel⟩, by decide +kernel, by decide +kernel, rfl, by decide⟩
set_option maxRecDepth 20000 in
theorem kc_X10_hops : jk_kc yX10_hops Fr_X10_hops 3 := ⟨jk_t5 46 rfl rfl, jk_t1 1 rfl rfl, ⟨by decide +kernel, by decide +kernel⟩, by decide +kernel, by decide +kernel, rfl, by decide⟩
set_option maxRecDepth 20000 in
theorem kc_X10_calmest : jk_kc yX10_calmest Fr_X10_calmest 2 := ⟨jk_t5 50 rfl rfl, jk_t1 1 rfl rfl, ⟨by decide +kernel, by decide +kernel⟩, by decide +kernel, by decide +kernel, rfl, by decide⟩
set_option maxRecDepth 20000 in
theorem kc_X10_hopsOf : jk_kc yX10_hopsOf Fr_X10_hopsOf 3 := ⟨jk_t5 54 rfl rfl, jk_t1 1 rfl rfl, ⟨by decide +kernel, by decide +kernel⟩, by decide +kernel, by decide +kernel, rfl, by decide⟩
set_option maxRecDepth 20000 in
theorem kc_X0_clingsThen : jk_kc yX0_clingsThen Fr_X0_clingsThen 3 := ⟨jk_t5 58 rfl rfl, jk_t1 5 rfl rfl, ⟨by decide +kernel, by decide +kernel⟩, by decide +kernel, by decide +kernel, rfl, by decide⟩
set_option maxRecDepth 20000 in
theorem kc_X10_evening : jk_kc yX10_evening Fr_X10_evening 2 := ⟨jk_t5 62 rfl rfl, jk_t1 1 rfl rfl, ⟨by decide +kernel, by decide +kernel⟩, by decide +kernel, by decide +kernel, rfl, by decide⟩
set_option maxRecDepth 20000 in
theorem kc_X10_passMinute : jk_kc yX10_passMinute Fr_X10_passMinute 1 := ⟨jk_t5 66 rfl rfl, jk_t1 1 rfl rfl, ⟨by decide +kernel, by decide +kernel⟩, by decide +kernel, by decide +kernel, rfl, by decide⟩
set_option maxRecDepth 20000 in
theorem kc_X10_weeks : jk_kc yX10_weeks Fr_X10_weeks 1 := ⟨jk_t5 71 rfl rfl, jk_t1 1 rfl rfl, ⟨by decide +kernel, by decide +kernel⟩, by decide +kernel, by decide +kernel, rfl, by decide⟩
set_option maxRecDepth 20000 in
theorem kc_X10_chance : jk_kc yX10_chance Fr_X10_chance 0 := ⟨jk_t5 75 rfl rfl, jk_t1 1 rfl rfl, ⟨by decide +kernel, by decide +kernel⟩, by decide +kernel, by decide +kernel, rfl, by decide⟩
set_option maxRecDepth 20000 in
theorem kc_X2_draw : jk_kc yX2_draw Fr_X2_draw 1 := ⟨jk_t5 79 rfl rfl, jk_t1 2 rfl rfl, ⟨by decide +kernel, by decide +kernel⟩, by decide +kernel, by decide +kernel, rfl, by decide⟩
set_option maxRecDepth 20000 in
theorem kc_X2_tune : jk_kc yX2_tune Fr_X2_tune 2 := ⟨jk_t5 84 rfl rfl, jk_t1 2 rfl rfl, ⟨by decide +kernel, by decide +kernel⟩, by decide +kernel, by decide +kernel, rfl, by decide⟩
set_option maxRecDepth 20000 in
theorem kc_X10_seed : jk_kc yX10_seed Fr_X10_seed 1 := ⟨jk_t5 88 rfl rfl, jk_t1 1 rfl rfl, ⟨by decide +kernel, by decide +kernel⟩, by decide +kernel, by decide +kernel, rfl, by decide⟩
set_option maxRecDepth 20000 in
theorem kc_X10_act : jk_kc yX10_act Fr_X10_act 3 := ⟨jk_t5 92 rfl rfl, jk_t1 1 rfl rfl, ⟨by decide +kernel, by decide +kernel⟩, by decide +kernel, by decide +kernel, rfl, by decide⟩
set_option maxRecDepth 20000 in
theorem kc_X4_clear : jk_kc yX4_clear Fr_X4_clear 0 := ⟨jk_t5 96 rfl rfl, jk_t1 11 rfl rfl, ⟨by decide +kernel, by decide +kernel⟩, by decide +kernel, by decide +kernel, rfl, by decide⟩
set_option maxRecDepth 20000 in
theorem kc_X4_cast : jk_kc yX4_cast Fr_X4_cast 2 := ⟨jk_t5 100 rfl rfl, jk_t1 11 rfl rfl, ⟨by decide +kernel, by decide +kernel⟩, by decide +kernel, by decide +kernel, rfl, by decide⟩
set_option maxRecDepth 20000 in
theorem kc_X10_run : jk_kc yX10_run Fr_X10_run 5 := ⟨jk_t5 103 rfl rfl, jk_t1 1 rfl rfl, ⟨by decide +kernel, by decide +kernel⟩, by decide +kernel, by decide +kernel, rfl, by decide⟩
set_option maxRecDepth 20000 in
theorem kc_X4_kindWithBody : jk_kc yX4_kindWithBody Fr_X4_kindWithBody 2 := ⟨jk_t5 106 rfl rfl, jk_t1 11 rfl rfl, ⟨by decide +kernel, by decide +kernel⟩, by decide +kernel, by decide +kernel, rfl, by decide⟩
set_option maxRecDepth 20000 in
theorem kc_X4_bodyOf : jk_kc yX4_bodyOf Fr_X4_bodyOf 2 := ⟨jk_t5 109 rfl rfl, jk_t1 11 rfl rfl, ⟨by decide +kernel, by decide +kernel⟩, by decide +kernel, by decide +kernel, rfl, by decide⟩
set_option maxRecDepth 20000 in
theorem kc_X4_note : jk_kc yX4_note Fr_X4_note 1 := ⟨jk_t5 118 rfl rfl, jk_t1 11 rfl rfl, ⟨by decide +kernel, by decide +kernel⟩, by decide +kernel, by decide +kernel, rfl, by decide⟩
set_option maxRecDepth 20000 in
theorem kc_X10_trace : jk_kc yX10_trace Fr_X10_trace 1 := ⟨jk_t5 122 rfl rfl, jk_t1 1 rfl rfl, ⟨by decide +kernel, by decide +kernel⟩, by decide +kernel, by decide +kernel, rfl, by decide⟩
set_option maxRecDepth 20000 in
theorem kc_X4_bodyAt : jk_kc yX4_bodyAt Fr_X4_bodyAt 1 := ⟨jk_t5 126 rfl rfl, jk_t1 11 rfl rfl, ⟨by decide +kernel, by decide +kernel⟩, by decide +kernel, by decide +kernel, rfl, by decide⟩
set_option maxRecDepth 20000 in
theorem kc_X10_image : jk_kc yX10_image Fr_X10_image 0 := ⟨jk_t5 130 rfl rfl, jk_t1 1 rfl rfl, ⟨by decide +kernel, by decide +kernel⟩, by decide +kernel, by decide +kernel, rfl, by decide⟩
set_option maxRecDepth 20000 in
theorem kc_X10_restore : jk_kc yX10_restore Fr_X10_restore 0 := ⟨jk_t5 134 rfl rfl, jk_t1 1 rfl rfl, ⟨by decide +kernel, by decide +kernel⟩, by decide +kernel, by decide +kernel, rfl, by decide⟩
set_option maxRecDepth 20000 in
theorem kc_X10_status : jk_kc yX10_status Fr_X10_status 1 := ⟨jk_t5 138 rfl rfl, jk_t1 1 rfl rfl, ⟨by decide +kernel, by decide +kernel⟩, by decide +kernel, by decide +kernel, rfl, by decide⟩
set_option maxRecDepth 20000 in
theorem kc_X11_init : jk_kc yX11_init Fr_X11_init 0 := ⟨jk_t5 143 rfl rfl, jk_t1 12 rfl rfl, ⟨by decide +kernel, by decide +kernel⟩, by decide +kernel, by decide +kernel, rfl, by decide⟩
set_option maxRecDepth 20000 in
theorem kc_X11_row : jk_kc yX11_row Fr_X11_row 3 := ⟨jk_t6 62 rfl rfl, jk_t1 12 rfl rfl, ⟨by decide +kernel, by decide +kernel⟩, by decide +kernel, by decide +kernel, rfl, by decide⟩
set_option maxRecDepth 20000 in
theorem kc_X11_isShelf : jk_kc yX11_isShelf Fr_X11_isShelf 1 := ⟨jk_t6 66 rfl rfl, jk_t1 12 rfl rfl, ⟨by decide +kernel, by decide +kernel⟩, by decide +kernel, by decide +kernel, rfl, by decide⟩
set_option maxRecDepth 20000 in
theorem kc_X11_no : jk_kc yX11_no Fr_X11_no 1 := ⟨jk_t6 70 rfl rfl, jk_t1 12 rfl rfl, ⟨by decide +kernel, by decide +kernel⟩, by decide +kernel, by decide +kernel, rfl, by decide⟩
set_option maxRecDepth 20000 in
theorem kc_X11_set : jk_kc yX11_set Fr_X11_set 3 := ⟨jk_t6 74 rfl rfl, jk_t1 12 rfl rfl, ⟨by decide +kernel, by decide +kernel⟩, by decide +kernel, by decide +kernel, rfl, by decide⟩
set_option maxRecDepth 20000 in
theorem kc_X11_copy : jk_kc yX11_copy Fr_X11_copy 5 := ⟨jk_t6 78 rfl rfl, jk_t1 12 rfl rfl, ⟨by decide +kernel, by decide +kernel⟩, by decide +kernel, by decide +kernel, rfl, by decide⟩
set_option maxRecDepth 20000 in
theorem kc_X11_element : jk_kc yX11_element Fr_X11_element 2 := ⟨jk_t6 82 rfl rfl, jk_t1 12 rfl rfl, ⟨by decide +kernel, by decide +kernel⟩, by decide +kernel, by decide +kernel, rfl, by decide⟩
set_option maxRecDepth 20000 in
theorem kc_X11_show : jk_kc yX11_show Fr_X11_show 2 := ⟨jk_t6 86 rfl rfl, jk_t1 12 rfl rfl, ⟨by decide +kernel, by decide +kernel⟩, by decide +kernel, by decide +kernel, rfl, by decide⟩
set_option maxRecDepth 20000 in
theorem kc_X11_isThing : jk_kc yX11_isThing Fr_X11_isThing 1 := ⟨jk_t6 90 rfl rfl, jk_t1 12 rfl rfl, ⟨by decide +kernel, by decide +kernel⟩, by decide +kernel, by decide +kernel, rfl, by decide⟩
set_option maxRecDepth 20000 in
theorem kc_X11_holds : jk_kc yX11_holds Fr_X11_holds 1 := ⟨jk_t6 94 rfl rfl, jk_t1 12 rfl rfl, ⟨by decide +kernel, by decide +kernel⟩, by decide +kernel, by decide +kernel, rfl, by decide⟩
set_option maxRecDepth 20000 in
theorem kc_X11_says : jk_kc yX11_says Fr_X11_says 2 := ⟨jk_t6 98 rfl rfl, jk_t1 12 rfl rfl, ⟨by decide +kernel, by decide +kernel⟩, by decide +kernel, by decide +kernel, rfl, by decide⟩
set_option maxRecDepth 20000 in
theorem kc_X11_hums : jk_kc yX11_hums Fr_X11_hums 2 := ⟨jk_t6 102 rfl rfl, jk_t1 12 rfl rfl, ⟨by decide +kernel, by decide +kernel⟩, by decide +kernel, by decide +kernel, rfl, by decide⟩
set_option maxRecDepth 20000 in
theorem kc_X11_far : jk_kc yX11_far Fr_X11_far 2 := ⟨jk_t6 106 rfl rfl, jk_t1 12 rfl rfl, ⟨by decide +kernel, by decide +kernel⟩, by decide +kernel, by decide +kernel, rfl, by decide⟩
set_option maxRecDepth 20000 in
theorem kc_X11_apart : jk_kc yX11_apart Fr_X11_apart 2 := ⟨jk_t6 110 rfl rfl, jk_t1 12 rfl rfl, ⟨by decide +kernel, by decide +kernel⟩, by decide +kernel, by decide +kernel, rfl, by decide⟩
set_option maxRecDepth 20000 in
theorem kc_X11_loss : jk_kc yX11_loss Fr_X11_loss 1 := ⟨jk_t6 114 rfl rfl, jk_t1 12 rfl rfl, ⟨by decide +kernel, by decide +kernel⟩, by decide +kernel, by decide +kernel, rfl, by decide⟩
set_option maxRecDepth 20000 in
theorem kc_X11_side : jk_kc yX11_side Fr_X11_side 1 := ⟨jk_t6 118 rfl rfl, jk_t1 12 rfl rfl, ⟨by decide +kernel, by decide +kernel⟩, by decide +kernel, by decide +kernel, rfl, by decide⟩
set_option maxRecDepth 20000 in
theorem kc_X11_isFrom : jk_kc yX11_isFrom Fr_X11_isFrom 3 := ⟨jk_t6 122 rfl rfl, jk_t1 12 rfl rfl, ⟨by decide +kernel, by decide +kernel⟩, by decide +kernel, by decide +kernel, rfl, by decide⟩
set_option maxRecDepth 20000 in
theorem kc_X11_thing : jk_kc yX11_thing Fr_X11_thing 3 := ⟨jk_t6 126 rfl rfl, jk_t1 12 rfl rfl, ⟨by decide +kernel, by decide +kernel⟩, by decide +kernel, by decide +kernel, rfl, by decide⟩
set_option maxRecDepth 20000 in
theorem kc_X11_isCell : jk_kc yX11_isCell Fr_X11_isCell 1 := ⟨jk_t6 130 rfl rfl, jk_t1 12 rfl rfl, ⟨by decide +kernel, by decide +kernel⟩, by decide +kernel, by decide +kernel, rfl, by decide⟩
set_option maxRecDepth 20000 in
theorem kc_X11_addsThing : jk_kc yX11_addsThing Fr_X11_addsThing 3 := ⟨jk_t6 134 rfl rfl, jk_t1 12 rfl rfl, ⟨by decide +kernel, by decide +kernel⟩, by decide +kernel, by decide +kernel, rfl, by decide⟩
set_option maxRecDepth 20000 in
theorem kc_X11_neighbour : jk_kc yX11_neighbour Fr_X11_neighbour 2 := ⟨jk_t6 138 rfl rfl, jk_t1 12 rfl rfl, ⟨by decide +kernel, by decide +kernel⟩, by decide +kernel, by decide +kernel, rfl, by decide⟩
set_option maxRecDepth 20000 in
theorem kc_X11_addsNeighbour : jk_kc yX11_addsNeighbour Fr_X11_addsNeighbour 2 := ⟨jk_t6 142 rfl rfl, jk_t1 12 rfl rfl, ⟨by decide +kernel, by decide +kernel⟩, by decide +kernel, by decide +kernel, rfl, by decide⟩
set_option maxRecDepth 20000 in
theorem kc_X11_device : jk_kc yX11_device Fr_X11_device 3 := ⟨jk_t6 146 rfl rfl, jk_t1 12 rfl rfl, ⟨by decide +kernel, by decide +kernel⟩, by decide +kernel, by decide +kernel, rfl, by decide⟩
set_option maxRecDepth 20000 in
theorem kc_X11_addsDevice : jk_kc yX11_addsDevice Fr_X11_addsDevice 3 := ⟨jk_t6 150 rfl rfl, jk_t1 12 rfl rfl, ⟨by decide +kernel, by decide +kernel⟩, by decide +kernel, by decide +kernel, rfl, by decide⟩
set_option maxRecDepth 20000 in
theorem kc_X11_box : jk_kc yX11_box Fr_X11_box 2 := ⟨jk_t6 154 rfl rfl, jk_t1 12 rfl rfl, ⟨by decide +kernel, by decide +kernel⟩, by decide +kernel, by decide +kernel, rfl, by decide⟩
set_option maxRecDepth 20000 in
theorem kc_X11_noTen : jk_kc yX11_noTen Fr_X11_noTen 1 := ⟨jk_t6 158 rfl rfl, jk_t1 12 rfl rfl, ⟨by decide +kernel, by decide +kernel⟩, by decide +kernel, by decide +kernel, rfl, by decide⟩
set_option maxRecDepth 20000 in
theorem kc_X11_ask : jk_kc yX11_ask Fr_X11_ask 2 := ⟨jk_t6 162 rfl rfl, jk_t1 12 rfl rfl, ⟨by decide +kernel, by decide +kernel⟩, by decide +kernel, by decide +kernel, rfl, by decide⟩
set_option maxRecDepth 20000 in
theorem kc_X11_isAsked : jk_kc yX11_isAsked Fr_X11_isAsked 2 := ⟨jk_t6 166 rfl rfl, jk_t1 12 rfl rfl, ⟨by decide +kernel, by decide +kernel⟩, by decide +kernel, by decide +kernel, rfl, by decide⟩
set_option maxRecDepth 20000 in
theorem kc_X11_tells : jk_kc yX11_tells Fr_X11_tells 2 := ⟨jk_t6 170 rfl rfl, jk_t1 12 rfl rfl, ⟨by decide +kernel, by decide +kernel⟩, by decide +kernel, by decide +kernel, rfl, by decide⟩
set_option maxRecDepth 20000 in
theorem kc_X11_shut : jk_kc yX11_shut Fr_X11_shut 2 := ⟨jk_t6 174 rfl rfl, jk_t1 12 rfl rfl, ⟨by decide +kernel, by decide +kernel⟩, by decide +kernel, by decide +kernel, rfl, by decide⟩
set_option maxRecDepth 20000 in
theorem kc_X11_move : jk_kc yX11_move Fr_X11_move 2 := ⟨jk_t6 178 rfl rfl, jk_t1 12 rfl rfl, ⟨by decide +kernel, by decide +kernel⟩, by decide +kernel, by decide +kernel, rfl, by decide⟩
set_option maxRecDepth 20000 in
theorem kc_X11_thingOf : jk_kc yX11_thingOf Fr_X11_thingOf 2 := ⟨jk_t6 182 rfl rfl, jk_t1 12 rfl rfl, ⟨by decide +kernel, by decide +kernel⟩, by decide +kernel, by decide +kernel, rfl, by decide⟩
set_option maxRecDepth 20000 in
theorem kc_X11_deviceOf : jk_kc yX11_deviceOf Fr_X11_deviceOf 2 := ⟨jk_t6 186 rfl rfl, jk_t1 12 rfl rfl, ⟨by decide +kernel, by decide +kernel⟩, by decide +kernel, by decide +kernel, rfl, by decide⟩
set_option maxRecDepth 20000 in
theorem kc_X11_looks : jk_kc yX11_looks Fr_X11_looks 0 := ⟨jk_t6 190 rfl rfl, jk_t1 12 rfl rfl, ⟨by decide +kernel, by decide +kernel⟩, by decide +kernel, by decide +kernel, rfl, by decide⟩
set_option maxRecDepth 20000 in
theorem kc_X11_dinOf : jk_kc yX11_dinOf Fr_X11_dinOf 3 := ⟨jk_t6 194 rfl rfl, jk_t1 12 rfl rfl, ⟨by decide +kernel, by decide +kernel⟩, by decide +kernel, by decide +kernel, rfl, by decide⟩
set_option maxRecDepth 20000 in
theorem kc_X11_pace : jk_kc yX11_pace Fr_X11_pace 2 := ⟨jk_t6 198 rfl rfl, jk_t1 12 rfl rfl, ⟨by decide +kernel, by decide +kernel⟩, by decide +kernel, by decide +kernel, rfl, by decide⟩
set_option maxRecDepth 20000 in
theorem kc_X11_barsAt : jk_kc yX11_barsAt Fr_X11_barsAt 2 := ⟨jk_t6 202 rfl rfl, jk_t1 12 rfl rfl, ⟨by decide +kernel, by decide +kernel⟩, by decide +kernel, by decide +kernel, rfl, by decide⟩
set_option maxRecDepth 20000 in
theorem kc_X11_strength : jk_kc yX11_strength Fr_X11_strength 2 := ⟨jk_t6 206 rfl rfl, jk_t1 12 rfl rfl, ⟨by decide +kernel, by decide +kernel⟩, by decide +kernel, by decide +kernel, rfl, by decide⟩
set_option maxRecDepth 20000 in
theorem kc_X11_wayLoss : jk_kc yX11_wayLoss Fr_X11_wayLoss 2 := ⟨jk_t6 210 rfl rfl, jk_t1 12 rfl rfl, ⟨by decide +kernel, by decide +kernel⟩, by decide +kernel, by decide +kernel, rfl, by decide⟩
set_option maxRecDepth 20000 in
theorem kc_X11_best : jk_kc yX11_best Fr_X11_best 1 := ⟨jk_t6 214 rfl rfl, jk_t1 12 rfl rfl, ⟨by decide +kernel, by decide +kernel⟩, by decide +kernel, by decide +kernel, rfl, by decide⟩
set_option maxRecDepth 20000 in
theorem kc_X11_house : jk_kc yX11_house Fr_X11_house 1 := ⟨jk_t6 218 rfl rfl, jk_t1 12 rfl rfl, ⟨by decide +kernel, by decide +kernel⟩, by decide +kernel, by decide +kernel, rfl, by decide⟩
set_option maxRecDepth 20000 in
theorem kc_X11_wanted : jk_kc yX11_wanted Fr_X11_wanted 1 := ⟨jk_t6 222 rfl rfl, jk_t1 12 rfl rfl, ⟨by decide +kernel, by decide +kernel⟩, by decide +kernel, by decide +kernel, rfl, by decide⟩
set_option maxRecDepth 20000 in
theorem kc_X11_all : jk_kc yX11_all Fr_X11_all 2 := ⟨jk_t6 226 rfl rfl, jk_t1 12 rfl rfl, ⟨by decide +kernel, by decide +kernel⟩, by decide +kernel, by decide +kernel, rfl, by decide⟩
set_option maxRecDepth 20000 in
theorem kc_X11_carries : jk_kc yX11_carries Fr_X11_carries 5 := ⟨jk_t6 230 rfl rfl, jk_t1 12 rfl rfl, ⟨by decide +kernel, by decide +kernel⟩, by decide +kernel, by decide +kernel, rfl, by decide⟩
set_option maxRecDepth 20000 in
theorem kc_X11_item : jk_kc yX11_item Fr_X11_item 0 := ⟨jk_t6 234 rfl rfl, jk_t1 12 rfl rfl, ⟨by decide +kernel, by decide +kernel⟩, by decide +kernel, by decide +kernel, rfl, by decide⟩
set_option maxRecDepth 20000 in
theorem kc_X11_stands : jk_kc yX11_stands Fr_X11_stands 1 := ⟨jk_t6 238 rfl rfl, jk_t1 12 rfl rfl, ⟨by decide +kernel, by decide +kernel⟩, by decide +kernel, by decide +kernel, rfl, by decide⟩
set_option maxRecDepth 20000 in
theorem kc_X11_wrong : jk_kc yX11_wrong Fr_X11_wrong 1 := ⟨jk_t7 2 rfl rfl, jk_t1 12 rfl rfl, ⟨by decide +kernel, by decide +kernel⟩, by decide +kernel, by decide +kernel, rfl, by decide⟩
set_option maxRecDepth 20000 in
theorem kc_X11_word : jk_kc yX11_word Fr_X11_word 0 := ⟨jk_t7 6 rfl rfl, jk_t1 12 rfl rfl, ⟨by decide +kernel, by decide +kernel⟩, by decide +kernel, by decide +kernel, rfl, by decide⟩
set_option maxRecDepth 20000 in
theorem kc_X11_reads : jk_kc yX11_reads Fr_X11_reads 0 := ⟨jk_t7 10 rfl rfl, jk_t1 12 rfl rfl, ⟨by decide +kernel, by decide +kernel⟩, by decide +kernel, by decide +kernel, rfl, by decide⟩
set_option maxRecDepth 20000 in
theorem kc_X11_isDigit : jk_kc yX11_isDigit Fr_X11_isDigit 0 := ⟨jk_t7 14 rfl rfl, jk_t1 12 rfl rfl, ⟨by decide +kernel, by decide +kernel⟩, by decide +kernel, by decide +kernel, rfl, by decide⟩
set_option maxRecDepth 20000 in
theorem kc_X11_isSo : jk_kc yX11_isSo Fr_X11_isSo 2 := ⟨jk_t7 18 rfl rfl, jk_t1 12 rfl rfl, ⟨by decide +kernel, by decide +kernel⟩, by decide +kernel, by decide +kernel, rfl, by decide⟩
set_option maxRecDepth 20000 in
theorem kc_X11_fault : jk_kc yX11_fault Fr_X11_fault 0 := ⟨jk_t7 22 rfl rfl, jk_t1 12 rfl rfl, ⟨by decide +kernel, by decide +kernel⟩, by decide +kernel, by decide +kernel, rfl, by decide⟩
set_option maxRecDepth 20000 in
theorem kc_X11_bars : jk_kc yX11_bars Fr_X11_bars 3 := ⟨jk_t7 26 rfl rfl, jk_t1 12 rfl rfl, ⟨by decide +kernel, by decide +kernel⟩, by decide +kernel, by decide +kernel, rfl, by decide⟩
set_option maxRecDepth 20000 in
theorem kc_X11_way : jk_kc yX11_way Fr_X11_way 3 := ⟨jk_t7 30 rfl rfl, jk_t1 12 rfl rfl, ⟨by decide +kernel, by decide +kernel⟩, by decide +kernel, by decide +kernel, rfl, by decide⟩
set_option maxRecDepth 20000 in
theorem kc_X11_hum : jk_kc yX11_hum Fr_X11_hum 2 := ⟨jk_t7 34 rfl rfl, jk_t1 12 rfl rfl, ⟨by decide +kernel, by decide +kernel⟩, by decide +kernel, by decide +kernel, rfl, by decide⟩
set_option maxRecDepth 20000 in
theorem kc_X11_filled : jk_kc yX11_filled Fr_X11_filled 1 := ⟨jk_t7 38 rfl rfl, jk_t1 12 rfl rfl, ⟨by decide +kernel, by decide +kernel⟩, by decide +kernel, by decide +kernel, rfl, by decide⟩
set_option maxRecDepth 20000 in
theorem kc_X11_filledNow : jk_kc yX11_filledNow Fr_X11_filledNow 0 := ⟨jk_t7 42 rfl rfl, jk_t1 12 rfl rfl, ⟨by decide +kernel, by decide +kernel⟩, by decide +kernel, by decide +kernel, rfl, by decide⟩
set_option maxRecDepth 20000 in
theorem kc_X11_served : jk_kc yX11_served Fr_X11_served 0 := ⟨jk_t7 46 rfl rfl, jk_t1 12 rfl rfl, ⟨by decide +kernel, by decide +kernel⟩, by decide +kernel, by decide +kernel, rfl, by decide⟩
set_option maxRecDepth 20000 in
theorem kc_X11_put : jk_kc yX11_put Fr_X11_put 1 := ⟨jk_t7 50 rfl rfl, jk_t1 12 rfl rfl, ⟨by decide +kernel, by decide +kernel⟩, by decide +kernel, by decide +kernel, rfl, by decide⟩
set_option maxRecDepth 20000 in
theorem kc_X11_bestTwo : jk_kc yX11_bestTwo Fr_X11_bestTwo 0 := ⟨jk_t7 54 rfl rfl, jk_t1 12 rfl rfl, ⟨by decide +kernel, by decide +kernel⟩, by decide +kernel, by decide +kernel, rfl, by decide⟩
set_option maxRecDepth 20000 in
theorem kc_X11_bestPlace : jk_kc yX11_bestPlace Fr_X11_bestPlace 1 := ⟨jk_t7 58 rfl rfl, jk_t1 12 rfl rfl, ⟨by decide +kernel, by decide +kernel⟩, by decide +kernel, by decide +kernel, rfl, by decide⟩
set_option maxRecDepth 20000 in
theorem kc_X11_channel : jk_kc yX11_channel Fr_X11_channel 0 := ⟨jk_t7 62 rfl rfl, jk_t1 12 rfl rfl, ⟨by decide +kernel, by decide +kernel⟩, by decide +kernel, by decide +kernel, rfl, by decide⟩
set_option maxRecDepth 20000 in
theorem kc_X11_rests : jk_kc yX11_rests Fr_X11_rests 0 := ⟨jk_t7 66 rfl rfl, jk_t1 12 rfl rfl, ⟨by decide +kernel, by decide +kernel⟩, by decide +kernel, by decide +kernel, rfl, by decide⟩
set_option maxRecDepth 20000 in
theorem kc_X11_goes : jk_kc yX11_goes Fr_X11_goes 1 := ⟨jk_t7 70 rfl rfl, jk_t1 12 rfl rfl, ⟨by decide +kernel, by decide +kernel⟩, by decide +kernel, by decide +kernel, rfl, by decide⟩
set_option maxRecDepth 20000 in
theorem kc_X11_doesRound : jk_kc yX11_doesRound Fr_X11_doesRound 0 := ⟨jk_t7 74 rfl rfl, jk_t1 12 rfl rfl, ⟨by decide +kernel, by decide +kernel⟩, by decide +kernel, by decide +kernel, rfl, by decide⟩
set_option maxRecDepth 20000 in
theorem kc_X11_madeAt : jk_kc yX11_madeAt Fr_X11_madeAt 2 := ⟨jk_t7 78 rfl rfl, jk_t1 12 rfl rfl, ⟨by decide +kernel, by decide +kernel⟩, by decide +kernel, by decide +kernel, rfl, by decide⟩
set_option maxRecDepth 20000 in
theorem kc_X11_goesTo : jk_kc yX11_goesTo Fr_X11_goesTo 2 := ⟨jk_t7 82 rfl rfl, jk_t1 12 rfl rfl, ⟨by decide +kernel, by decide +kernel⟩, by decide +kernel, by decide +kernel, rfl, by decide⟩
set_option maxRecDepth 20000 in
theorem kc_X11_moved : jk_kc yX11_moved Fr_X11_moved 0 := ⟨jk_t7 86 rfl rfl, jk_t1 12 rfl rfl, ⟨by decide +kernel, by decide +kernel⟩, by decide +kernel, by decide +kernel, rfl, by decide⟩
set_option maxRecDepth 20000 in
theorem kc_X11_doors : jk_kc yX11_doors Fr_X11_doors 0 := ⟨jk_t7 90 rfl rfl, jk_t1 12 rfl rfl, ⟨by decide +kernel, by decide +kernel⟩, by decide +kernel, by decide +kernel, rfl, by decide⟩
set_option maxRecDepth 20000 in
theorem kc_X11_count : jk_kc yX11_count Fr_X11_count 1 := ⟨jk_t7 94 rfl rfl, jk_t1 12 rfl rfl, ⟨by decide +kernel, by decide +kernel⟩, by decide +kernel, by decide +kernel, rfl, by decide⟩
set_option maxRecDepth 20000 in
theorem kc_X11_better : jk_kc yX11_better Fr_X11_better 1 := ⟨jk_t7 98 rfl rfl, jk_t1 12 rfl rfl, ⟨by decide +kernel, by decide +kernel⟩, by decide +kernel, by decide +kernel, rfl, by decide⟩
set_option maxRecDepth 20000 in
theorem kc_X11_fits : jk_kc yX11_fits Fr_X11_fits 3 := ⟨jk_t7 102 rfl rfl, jk_t1 12 rfl rfl, ⟨by decide +kernel, by decide +kernel⟩, by decide +kernel, by decide +kernel, rfl, by decide⟩
set_option maxRecDepth 20000 in
theorem kc_X11_barsOfFits : jk_kc yX11_barsOfFits Fr_X11_barsOfFits 2 := ⟨jk_t7 106 rfl rfl, jk_t1 12 rfl rfl, ⟨by decide +kernel, by decide +kernel⟩, by decide +kernel, by decide +kernel, rfl, by decide⟩
set_option maxRecDepth 20000 in
theorem kc_X11_intAt : jk_kc yX11_intAt Fr_X11_intAt 2 := ⟨jk_t7 110 rfl rfl, jk_t1 12 rfl rfl, ⟨by decide +kernel, by decide +kernel⟩, by decide +kernel, by decide +kernel, rfl, by decide⟩
set_option maxRecDepth 20000 in
theorem kc_X11_findsFits : jk_kc yX11_findsFits Fr_X11_findsFits 2 := ⟨jk_t7 114 rfl rfl, jk_t1 12 rfl rfl, ⟨by decide +kernel, by decide +kernel⟩, by decide +kernel, by decide +kernel, rfl, by decide⟩
set_option maxRecDepth 20000 in
theorem kc_X11_next : jk_kc yX11_next Fr_X11_next 2 := ⟨jk_t7 118 rfl rfl, jk_t1 12 rfl rfl, ⟨by decide +kernel, by decide +kernel⟩, by decide +kernel, by decide +kernel, rfl, by decide⟩
set_option maxRecDepth 20000 in
theorem kc_X11_worstAt : jk_kc yX11_worstAt Fr_X11_worstAt 1 := ⟨jk_t7 122 rfl rfl, jk_t1 12 rfl rfl, ⟨by decide +kernel, by decide +kernel⟩, by decide +kernel, by decide +kernel, rfl, by decide⟩
set_option maxRecDepth 20000 in
theorem kc_X11_near : jk_kc yX11_near Fr_X11_near 2 := ⟨jk_t7 126 rfl rfl, jk_t1 12 rfl rfl, ⟨by decide +kernel, by decide +kernel⟩, by decide +kernel, by decide +kernel, rfl, by decide⟩
set_option maxRecDepth 20000 in
theorem kc_X11_minute : jk_kc yX11_minute Fr_X11_minute 0 := ⟨jk_t7 130 rfl rfl, jk_t1 12 rfl rfl, ⟨by decide +kernel, by decide +kernel⟩, by decide +kernel, by decide +kernel, rfl, by decide⟩
set_option maxRecDepth 20000 in
theorem kc_X11_blame : jk_kc yX11_blame Fr_X11_blame 1 := ⟨jk_t7 134 rfl rfl, jk_t1 12 rfl rfl, ⟨by decide +kernel, by decide +kernel⟩, by decide +kernel, by decide +kernel, rfl, by decide⟩
set_option maxRecDepth 20000 in
theorem kc_X11_judge : jk_kc yX11_judge Fr_X11_judge 2 := ⟨jk_t7 138 rfl rfl, jk_t1 12 rfl rfl, ⟨by decide +kernel, by decide +kernel⟩, by decide +kernel, by decide +kernel, rfl, by decide⟩
set_option maxRecDepth 20000 in
theorem kc_X11_wrongIn : jk_kc yX11_wrongIn Fr_X11_wrongIn 2 := ⟨jk_t7 142 rfl rfl, jk_t1 12 rfl rfl, ⟨by decide +kernel, by decide +kernel⟩, by decide +kernel, by decide +kernel, rfl, by decide⟩
set_option maxRecDepth 20000 in
theorem kc_X11_hops : jk_kc yX11_hops Fr_X11_hops 3 := ⟨jk_t7 146 rfl rfl, jk_t1 12 rfl rfl, ⟨by decide +kernel, by decide +kernel⟩, by decide +kernel, by decide +kernel, rfl, by decide⟩
set_option maxRecDepth 20000 in
theorem kc_X11_hopsBy : jk_kc yX11_hopsBy Fr_X11_hopsBy 3 := ⟨jk_t7 150 rfl rfl, jk_t1 12 rfl rfl, ⟨by decide +kernel, by decide +kernel⟩, by decide +kernel, by decide +kernel, rfl, by decide⟩
set_option maxRecDepth 20000 in
theorem kc_X11_letsGo : jk_kc yX11_letsGo Fr_X11_letsGo 3 := ⟨jk_t7 154 rfl rfl, jk_t1 12 rfl rfl, ⟨by decide +kernel, by decide +kernel⟩, by decide +kernel, by decide +kernel, rfl, by decide⟩
set_option maxRecDepth 20000 in
theorem kc_X11_evening : jk_kc yX11_evening Fr_X11_evening 2 := ⟨jk_t7 158 rfl rfl, jk_t1 12 rfl rfl, ⟨by decide +kernel, by decide +kernel⟩, by decide +kernel, by decide +kernel, rfl, by decide⟩
set_option maxRecDepth 20000 in
theorem kc_X11_passes : jk_kc yX11_passes Fr_X11_passes 1 := ⟨jk_t7 162 rfl rfl, jk_t1 12 rfl rfl, ⟨by decide +kernel, by decide +kernel⟩, by decide +kernel, by decide +kernel, rfl, by decide⟩
set_option maxRecDepth 20000 in
theorem kc_X11_weeks : jk_kc yX11_weeks Fr_X11_weeks 1 := ⟨jk_t7 166 rfl rfl, jk_t1 12 rfl rfl, ⟨by decide +kernel, by decide +kernel⟩, by decide +kernel, by decide +kernel, rfl, by decide⟩
set_option maxRecDepth 20000 in
theorem kc_X11_draw : jk_kc yX11_draw Fr_X11_draw 1 := ⟨jk_t7 170 rfl rfl, jk_t1 12 rfl rfl, ⟨by decide +kernel, by decide +kernel⟩, by decide +kernel, by decide +kernel, rfl, by decide⟩
set_option maxRecDepth 20000 in
theorem kc_X11_seed : jk_kc yX11_seed Fr_X11_seed 1 := ⟨jk_t7 175 rfl rfl, jk_t1 12 rfl rfl, ⟨by decide +kernel, by decide +kernel⟩, by decide +kernel, by decide +kernel, rfl, by decide⟩
set_option maxRecDepth 20000 in
theorem kc_X11_act : jk_kc yX11_act Fr_X11_act 3 := ⟨jk_t7 179 rfl rfl, jk_t1 12 rfl rfl, ⟨by decide +kernel, by decide +kernel⟩, by decide +kernel, by decide +kernel, rfl, by decide⟩
set_option maxRecDepth 20000 in
theorem kc_X11_standing : jk_kc yX11_standing Fr_X11_standing 2 := ⟨jk_t7 183 rfl rfl, jk_t1 12 rfl rfl, ⟨by decide +kernel, by decide +kernel⟩, by decide +kernel, by decide +kernel, rfl, by decide⟩
set_option maxRecDepth 20000 in
theorem kc_X11_body : jk_kc yX11_body Fr_X11_body 1 := ⟨jk_t7 187 rfl rfl, jk_t1 12 rfl rfl, ⟨by decide +kernel, by decide +kernel⟩, by decide +kernel, by decide +kernel, rfl, by decide⟩
set_option maxRecDepth 20000 in
theorem kc_X11_taking : jk_kc yX11_taking Fr_X11_taking 2 := ⟨jk_t7 191 rfl rfl, jk_t1 12 rfl rfl, ⟨by decide +kernel, by decide +kernel⟩, by decide +kernel, by decide +kernel, rfl, by decide⟩
set_option maxRecDepth 20000 in
theorem kc_X11_humsTo : jk_kc yX11_humsTo Fr_X11_humsTo 2 := ⟨jk_t7 195 rfl rfl, jk_t1 12 rfl rfl, ⟨by decide +kernel, by decide +kernel⟩, by decide +kernel, by decide +kernel, rfl, by decide⟩
set_option maxRecDepth 20000 in
theorem kc_X11_trace : jk_kc yX11_trace Fr_X11_trace 1 := ⟨jk_t7 199 rfl rfl, jk_t1 12 rfl rfl, ⟨by decide +kernel, by decide +kernel⟩, by decide +kernel, by decide +kernel, rfl, by decide⟩
set_option maxRecDepth 20000 in
theorem kc_X11_image : jk_kc yX11_image Fr_X11_image 0 := ⟨jk_t7 203 rfl rfl, jk_t1 12 rfl rfl, ⟨by decide +kernel, by decide +kernel⟩, by decide +kernel, by decide +kernel, rfl, by decide⟩
set_option maxRecDepth 20000 in
theorem kc_X11_restore : jk_kc yX11_restore Fr_X11_restore 0 := ⟨jk_t7 207 rfl rfl, jk_t1 12 rfl rfl, ⟨by decide +kernel, by decide +kernel⟩, by decide +kernel, by decide +kernel, rfl, by decide⟩
set_option maxRecDepth 20000 in
theorem kc_X11_status : jk_kc yX11_status Fr_X11_status 1 := ⟨jk_t7 211 rfl rfl, jk_t1 12 rfl rfl, ⟨by decide +kernel, by decide +kernel⟩, by decide +kernel, by decide +kernel, rfl, by decide⟩
set_option maxRecDepth 20000 in
theorem kX10_9 : jk_kI RX10 9 yX2_init Fr_X2_init 0 := ⟨kc_X2_init, rfl, rfl, rfl, jk_t1 30 rfl rfl, jk_t1 31 rfl rfl⟩
set_option maxRecDepth 20000 in
theorem kX10_24 : jk_kI RX10 24 yX0_init Fr_X0_init 1 := ⟨kc_X0_init, rfl, rfl, rfl, jk_t1 177 rfl rfl, jk_t1 178 rfl rfl⟩
set_option maxRecDepth 20000 in
theorem kX10_33 : jk_kI RX10 33 yX3_init Fr_X3_init 2 := ⟨kc_X3_init, rfl, rfl, rfl, jk_t1 206 rfl rfl, jk_t1 207 rfl rfl⟩
set_option maxRecDepth 20000 in
theorem kX10_42 : jk_kI RX10 42 yX7_init Fr_X7_init 2 := ⟨kc_X7_init, rfl, rfl, rfl, jk_t1 230 rfl rfl, jk_t1 231 rfl rfl⟩
set_option maxRecDepth 20000 in
theorem kX10_51 : jk_kI RX10 51 yX6_init Fr_X6_init 1 := ⟨kc_X6_init, rfl, rfl, rfl, jk_t2 13 rfl rfl, jk_t2 14 rfl rfl⟩
set_option maxRecDepth 20000 in
theorem kX10_58 : jk_kI RX10 58 yX5_init Fr_X5_init 1 := ⟨kc_X5_init, rfl, rfl, rfl, jk_t2 29 rfl rfl, jk_t2 30 rfl rfl⟩
set_option maxRecDepth 20000 in
theorem kX10_65 : jk_kIN RX10 65 yX4_init Fr_X4_init 0 := ⟨kc_X4_init, rfl, rfl, rfl, ⟨"TwoBarsByTheWindow", jk_n2 76 rfl rfl⟩, jk_t2 77 rfl rfl⟩
set_option maxRecDepth 20000 in
theorem kX10_88 : jk_kIN RX10 88 yX8_init Fr_X8_init 0 := ⟨kc_X8_init, rfl, rfl, rfl, ⟨"TwoBarsByTheWindow", jk_n2 102 rfl rfl⟩, jk_t2 36 rfl rfl⟩
set_option maxRecDepth 20000 in
theorem kX10_89 : jk_kV RX10 89 yX10_shelfAt Fr_X10_shelfAt 1 10 := ⟨kc_X10_shelfAt, rfl, jk_t2 147 rfl rfl, jk_t2 149 rfl rfl, jk_ts 0 rfl rfl, rfl⟩
set_option maxRecDepth 20000 in
theorem kX10_93 : jk_kV RX10 93 yX10_refuse Fr_X10_refuse 1 10 := ⟨kc_X10_refuse, rfl, jk_t2 151 rfl rfl, jk_t2 153 rfl rfl, jk_ts 1 rfl rfl, rfl⟩
set_option maxRecDepth 20000 in
theorem kX10_97 : jk_kV RX10 97 yX8_layRow Fr_X8_layRow 2 8 := ⟨kc_X8_layRow, rfl, jk_t2 155 rfl rfl, jk_t2 156 rfl rfl, jk_t2 157 rfl rfl, rfl⟩
set_option maxRecDepth 20000 in
theorem kX10_101 : jk_kS RX10 101 yX10_rowRefusal Fr_X10_rowRefusal 1 := ⟨kc_X10_rowRefusal, rfl, jk_t2 176 rfl rfl, jk_t2 177 rfl rfl⟩
set_option maxRecDepth 20000 in
theorem kX10_105 : jk_kV RX10 105 yX8_has Fr_X8_has 1 8 := ⟨kc_X8_has, rfl, jk_t2 183 rfl rfl, jk_t2 184 rfl rfl, jk_t2 185 rfl rfl, rfl⟩
set_option maxRecDepth 20000 in
theorem kX10_109 : jk_kV RX10 109 yX8_write Fr_X8_write 2 8 := ⟨kc_X8_write, rfl, jk_t2 187 rfl rfl, jk_t2 188 rfl rfl, jk_t2 189 rfl rfl, rfl⟩
set_option maxRecDepth 20000 in
theorem kX10_113 : jk_kS RX10 113 yX10_copyRefusal Fr_X10_copyRefusal 2 := ⟨kc_X10_copyRefusal, rfl, jk_t2 200 rfl rfl, jk_t2 201 rfl rfl⟩
set_option maxRecDepth 20000 in
theorem kX10_117 : jk_kV RX10 117 yX8_hasRun Fr_X8_hasRun 2 8 := ⟨kc_X8_hasRun, rfl, jk_t2 203 rfl rfl, jk_t2 204 rfl rfl, jk_t2 205 rfl rfl, rfl⟩
set_option maxRecDepth 20000 in
theorem kX10_121 : jk_kV RX10 121 yX8_takeRun Fr_X8_takeRun 4 8 := ⟨kc_X8_takeRun, rfl, jk_t2 207 rfl rfl, jk_t2 208 rfl rfl, jk_t2 209 rfl rfl, rfl⟩
set_option maxRecDepth 20000 in
theorem kX10_125 : jk_kV RX10 125 yX8_read Fr_X8_read 1 8 := ⟨kc_X8_read, rfl, jk_t2 219 rfl rfl, jk_t2 220 rfl rfl, jk_t2 221 rfl rfl, rfl⟩
set_option maxRecDepth 20000 in
theorem kX10_129 : jk_kV RX10 129 yX2_thingAt Fr_X2_thingAt 1 2 := ⟨kc_X2_thingAt, rfl, jk_t2 227 rfl rfl, jk_t2 228 rfl rfl, jk_t2 229 rfl rfl, rfl⟩
set_option maxRecDepth 20000 in
theorem kX10_133 : jk_kV RX10 133 yX8_clear Fr_X8_clear 0 8 := ⟨kc_X8_clear, rfl, jk_t2 231 rfl rfl, jk_t2 160 rfl rfl, jk_t2 161 rfl rfl, rfl⟩
set_option maxRecDepth 20000 in
theorem kX10_136 : jk_kV RX10 136 yX8_point Fr_X8_point 1 8 := ⟨kc_X8_point, rfl, jk_t2 232 rfl rfl, jk_t2 233 rfl rfl, jk_t2 234 rfl rfl, rfl⟩
set_option maxRecDepth 20000 in
theorem kX10_140 : jk_kV RX10 140 yX8_isRow Fr_X8_isRow 0 8 := ⟨kc_X8_isRow, rfl, jk_t2 179 rfl rfl, jk_t2 180 rfl rfl, jk_t2 181 rfl rfl, rfl⟩
set_option maxRecDepth 20000 in
theorem kX10_150 : jk_kV RX10 150 yX2_may Fr_X2_may 2 2 := ⟨kc_X2_may, rfl, jk_t3 4 rfl rfl, jk_t3 5 rfl rfl, jk_t3 6 rfl rfl, rfl⟩
set_option maxRecDepth 20000 in
theorem kX10_153 : jk_kV RX10 153 yX9_isOne Fr_X9_isOne 1 9 := ⟨kc_X9_isOne, rfl, jk_t3 16 rfl rfl, jk_t3 17 rfl rfl, jk_t3 18 rfl rfl, rfl⟩
set_option maxRecDepth 20000 in
theorem kX10_167 : jk_kV RX10 167 yX9_humsFar Fr_X9_humsFar 2 9 := ⟨kc_X9_humsFar, rfl, jk_t3 26 rfl rfl, jk_t3 27 rfl rfl, jk_t3 28 rfl rfl, rfl⟩
set_option maxRecDepth 20000 in
theorem kX10_171 : jk_kV RX10 171 yX9_swallows Fr_X9_swallows 0 9 := ⟨kc_X9_swallows, rfl, jk_t3 31 rfl rfl, jk_t3 32 rfl rfl, jk_t3 33 rfl rfl, rfl⟩
set_option maxRecDepth 20000 in
theorem kX10_178 : jk_kV RX10 178 yX2_isCell Fr_X2_isCell 1 2 := ⟨kc_X2_isCell, rfl, jk_t3 43 rfl rfl, jk_t3 9 rfl rfl, jk_t3 10 rfl rfl, rfl⟩
set_option maxRecDepth 20000 in
theorem kX10_184 : jk_kV RX10 184 yX2_addThing Fr_X2_addThing 3 2 := ⟨kc_X2_addThing, rfl, jk_t3 44 rfl rfl, jk_t3 45 rfl rfl, jk_t3 46 rfl rfl, rfl⟩
set_option maxRecDepth 20000 in
theorem kX10_191 : jk_kV RX10 191 yX2_addNeighbour Fr_X2_addNeighbour 2 2 := ⟨kc_X2_addNeighbour, rfl, jk_t3 53 rfl rfl, jk_t3 54 rfl rfl, jk_t3 55 rfl rfl, rfl⟩
set_option maxRecDepth 20000 in
theorem kX10_197 : jk_kV RX10 197 yX2_addDevice Fr_X2_addDevice 3 2 := ⟨kc_X2_addDevice, rfl, jk_t3 61 rfl rfl, jk_t3 62 rfl rfl, jk_t3 63 rfl rfl, rfl⟩
set_option maxRecDepth 20000 in
theorem kX10_200 : jk_kV RX10 200 yX2_placeOf Fr_X2_placeOf 1 2 := ⟨kc_X2_placeOf, rfl, jk_t3 73 rfl rfl, jk_t3 74 rfl rfl, jk_t3 75 rfl rfl, rfl⟩
set_option maxRecDepth 20000 in
theorem kX10_203 : jk_kV RX10 203 yX2_place Fr_X2_place 2 2 := ⟨kc_X2_place, rfl, jk_t3 77 rfl rfl, jk_t3 78 rfl rfl, jk_t3 79 rfl rfl, rfl⟩
set_option maxRecDepth 20000 in
theorem kX10_218 : jk_kV RX10 218 yX2_deviceAt Fr_X2_deviceAt 1 2 := ⟨kc_X2_deviceAt, rfl, jk_t3 101 rfl rfl, jk_t3 66 rfl rfl, jk_t3 67 rfl rfl, rfl⟩
set_option maxRecDepth 20000 in
theorem kX10_222 : jk_kV RX10 222 yX0_lay Fr_X0_lay 0 0 := ⟨kc_X0_lay, rfl, jk_t3 102 rfl rfl, jk_t3 103 rfl rfl, jk_t3 104 rfl rfl, rfl⟩
set_option maxRecDepth 20000 in
theorem kX10_237 : jk_kV RX10 237 yX0_paceOf Fr_X0_paceOf 2 0 := ⟨kc_X0_paceOf, rfl, jk_t3 141 rfl rfl, jk_t3 142 rfl rfl, jk_t3 143 rfl rfl, rfl⟩
set_option maxRecDepth 20000 in
theorem kX10_245 : jk_kV RX10 245 yX2_become Fr_X2_become 1 2 := ⟨kc_X2_become, rfl, jk_t3 180 rfl rfl, jk_t3 181 rfl rfl, jk_t3 182 rfl rfl, rfl⟩
set_option maxRecDepth 20000 in
theorem kX10_248 : jk_kV RX10 248 yX5_readAll Fr_X5_readAll 1 5 := ⟨kc_X5_readAll, rfl, jk_t3 192 rfl rfl, jk_t3 193 rfl rfl, jk_t3 194 rfl rfl, rfl⟩
set_option maxRecDepth 20000 in
theorem kX10_252 : jk_kV RX10 252 yX0_strengthFrom Fr_X0_strengthFrom 2 0 := ⟨kc_X0_strengthFrom, rfl, jk_t4 75 rfl rfl, jk_t3 151 rfl rfl, jk_t3 152 rfl rfl, rfl⟩
set_option maxRecDepth 20000 in
theorem kX10_255 : jk_kV RX10 255 yX0_barsOf Fr_X0_barsOf 2 0 := ⟨kc_X0_barsOf, rfl, jk_t4 76 rfl rfl, jk_t3 146 rfl rfl, jk_t3 147 rfl rfl, rfl⟩
set_option maxRecDepth 20000 in
theorem kX10_258 : jk_kS RX10 258 yX10_stepsFar Fr_X10_stepsFar 2 := ⟨kc_X10_stepsFar, rfl, jk_t4 81 rfl rfl, jk_t3 155 rfl rfl⟩
set_option maxRecDepth 20000 in
theorem kX10_261 : jk_kV RX10 261 yX0_wayLoss Fr_X0_wayLoss 2 0 := ⟨kc_X0_wayLoss, rfl, jk_t4 82 rfl rfl, jk_t3 158 rfl rfl, jk_t3 159 rfl rfl, rfl⟩
set_option maxRecDepth 20000 in
theorem kX10_264 : jk_kV RX10 264 yX2_dinOn Fr_X2_dinOn 1 2 := ⟨kc_X2_dinOn, rfl, jk_t4 87 rfl rfl, jk_t3 123 rfl rfl, jk_t3 124 rfl rfl, rfl⟩
set_option maxRecDepth 20000 in
theorem kX10_267 : jk_kV RX10 267 yX0_humAt Fr_X0_humAt 1 0 := ⟨kc_X0_humAt, rfl, jk_t4 88 rfl rfl, jk_t3 167 rfl rfl, jk_t3 168 rfl rfl, rfl⟩
set_option maxRecDepth 20000 in
theorem kX10_270 : jk_kV RX10 270 yX0_filledNow Fr_X0_filledNow 0 0 := ⟨kc_X0_filledNow, rfl, jk_t4 93 rfl rfl, jk_t4 94 rfl rfl, jk_t4 95 rfl rfl, rfl⟩
set_option maxRecDepth 20000 in
theorem kX10_273 : jk_kV RX10 273 yX0_servedNow Fr_X0_servedNow 0 0 := ⟨kc_X0_servedNow, rfl, jk_t4 99 rfl rfl, jk_t4 100 rfl rfl, jk_t4 101 rfl rfl, rfl⟩
set_option maxRecDepth 20000 in
theorem kX10_276 : jk_kV RX10 276 yX3_begin Fr_X3_begin 0 3 := ⟨kc_X3_begin, rfl, jk_t4 119 rfl rfl, jk_t4 120 rfl rfl, jk_t4 121 rfl rfl, rfl⟩
set_option maxRecDepth 20000 in
theorem kX10_279 : jk_kV RX10 279 yX3_bestPair Fr_X3_bestPair 0 3 := ⟨kc_X3_bestPair, rfl, jk_t4 129 rfl rfl, jk_t4 130 rfl rfl, jk_t4 131 rfl rfl, rfl⟩
set_option maxRecDepth 20000 in
theorem kX10_282 : jk_kV RX10 282 yX3_bestPlace Fr_X3_bestPlace 1 3 := ⟨kc_X3_bestPlace, rfl, jk_t4 140 rfl rfl, jk_t4 141 rfl rfl, jk_t4 142 rfl rfl, rfl⟩
set_option maxRecDepth 20000 in
theorem kX10_285 : jk_kV RX10 285 yX6_begin Fr_X6_begin 0 6 := ⟨kc_X6_begin, rfl, jk_t4 152 rfl rfl, jk_t4 153 rfl rfl, jk_t4 154 rfl rfl, rfl⟩
set_option maxRecDepth 20000 in
theorem kX10_286 : jk_kV RX10 286 yX6_goOnce Fr_X6_goOnce 0 6 := ⟨kc_X6_goOnce, rfl, jk_t4 158 rfl rfl, jk_t4 159 rfl rfl, jk_t4 160 rfl rfl, rfl⟩
set_option maxRecDepth 20000 in
theorem kX10_289 : jk_kV RX10 289 yX6_channelAt Fr_X6_channelAt 1 6 := ⟨kc_X6_channelAt, rfl, jk_t4 180 rfl rfl, jk_t4 173 rfl rfl, jk_t4 174 rfl rfl, rfl⟩
set_option maxRecDepth 20000 in
theorem kX10_292 : jk_kV RX10 292 yX3_bestAway Fr_X3_bestAway 0 3 := ⟨kc_X3_bestAway, rfl, jk_t4 185 rfl rfl, jk_t4 186 rfl rfl, jk_t4 187 rfl rfl, rfl⟩
set_option maxRecDepth 20000 in
theorem kX10_295 : jk_kV RX10 295 yX3_bestDoors Fr_X3_bestDoors 0 3 := ⟨kc_X3_bestDoors, rfl, jk_t4 196 rfl rfl, jk_t4 197 rfl rfl, jk_t4 198 rfl rfl, rfl⟩
set_option maxRecDepth 20000 in
theorem kX10_298 : jk_kV RX10 298 yX0_betterBars Fr_X0_betterBars 1 0 := ⟨kc_X0_betterBars, rfl, jk_t4 210 rfl rfl, jk_t4 211 rfl rfl, jk_t4 212 rfl rfl, rfl⟩
set_option maxRecDepth 20000 in
theorem kX10_301 : jk_kV RX10 301 yX10_pairsRefusal Fr_X10_pairsRefusal 2 10 := ⟨kc_X10_pairsRefusal, rfl, jk_t4 218 rfl rfl, jk_t4 220 rfl rfl, jk_ts 17 rfl rfl, rfl⟩
set_option maxRecDepth 20000 in
theorem kX10_305 : jk_kV RX10 305 yX7_look Fr_X7_look 2 7 := ⟨kc_X7_look, rfl, jk_t4 226 rfl rfl, jk_t4 227 rfl rfl, jk_t4 228 rfl rfl, rfl⟩
set_option maxRecDepth 20000 in
theorem kX10_312 : jk_kV RX10 312 yX7_fitting Fr_X7_fitting 1 7 := ⟨kc_X7_fitting, rfl, jk_t4 239 rfl rfl, jk_t5 0 rfl rfl, jk_t5 1 rfl rfl, rfl⟩
set_option maxRecDepth 20000 in
theorem kX10_315 : jk_kV RX10 315 yX7_bestMeasure Fr_X7_bestMeasure 0 7 := ⟨kc_X7_bestMeasure, rfl, jk_t5 7 rfl rfl, jk_t5 8 rfl rfl, jk_t5 9 rfl rfl, rfl⟩
set_option maxRecDepth 20000 in
theorem kX10_321 : jk_kV RX10 321 yX3_bestMinute Fr_X3_bestMinute 0 3 := ⟨kc_X3_bestMinute, rfl, jk_t5 26 rfl rfl, jk_t5 27 rfl rfl, jk_t5 28 rfl rfl, rfl⟩
set_option maxRecDepth 20000 in
theorem kX10_330 : jk_kS RX10 330 yX10_toldRefusal Fr_X10_toldRefusal 3 := ⟨kc_X10_toldRefusal, rfl, jk_t4 222 rfl rfl, jk_t4 223 rfl rfl⟩
set_option maxRecDepth 20000 in
theorem kX10_334 : jk_kV RX10 334 yX10_firstWrong Fr_X10_firstWrong 2 10 := ⟨kc_X10_firstWrong, rfl, jk_t5 39 rfl rfl, jk_t5 41 rfl rfl, jk_ts 20 rfl rfl, rfl⟩
set_option maxRecDepth 20000 in
theorem kX10_337 : jk_kV RX10 337 yX10_calmest Fr_X10_calmest 2 10 := ⟨kc_X10_calmest, rfl, jk_t5 47 rfl rfl, jk_t5 49 rfl rfl, jk_ts 21 rfl rfl, rfl⟩
set_option maxRecDepth 20000 in
theorem kX10_340 : jk_kV RX10 340 yX10_hopsOf Fr_X10_hopsOf 3 10 := ⟨kc_X10_hopsOf, rfl, jk_t5 51 rfl rfl, jk_t5 53 rfl rfl, jk_ts 22 rfl rfl, rfl⟩
set_option maxRecDepth 20000 in
theorem kX10_343 : jk_kV RX10 343 yX10_passMinute Fr_X10_passMinute 1 10 := ⟨kc_X10_passMinute, rfl, jk_t5 63 rfl rfl, jk_t5 65 rfl rfl, jk_ts 23 rfl rfl, rfl⟩
set_option maxRecDepth 20000 in
theorem kX10_346 : jk_kV RX10 346 yX10_chance Fr_X10_chance 0 10 := ⟨kc_X10_chance, rfl, jk_t5 72 rfl rfl, jk_t5 74 rfl rfl, jk_ts 24 rfl rfl, rfl⟩
set_option maxRecDepth 20000 in
theorem kX10_352 : jk_kV RX10 352 yX4_clear Fr_X4_clear 0 4 := ⟨kc_X4_clear, rfl, jk_t5 93 rfl rfl, jk_t5 94 rfl rfl, jk_t5 95 rfl rfl, rfl⟩
set_option maxRecDepth 20000 in
theorem kX10_353 : jk_kV RX10 353 yX4_cast Fr_X4_cast 2 4 := ⟨kc_X4_cast, rfl, jk_t5 97 rfl rfl, jk_t5 98 rfl rfl, jk_t5 99 rfl rfl, rfl⟩
set_option maxRecDepth 20000 in
theorem kX10_357 : jk_kS RX10 357 yX10_run Fr_X10_run 5 := ⟨kc_X10_run, rfl, jk_t5 101 rfl rfl, jk_t5 102 rfl rfl⟩
set_option maxRecDepth 20000 in
theorem kX10_361 : jk_kV RX10 361 yX4_bodyAt Fr_X4_bodyAt 1 4 := ⟨kc_X4_bodyAt, rfl, jk_t5 123 rfl rfl, jk_t5 124 rfl rfl, jk_t5 125 rfl rfl, rfl⟩
set_option maxRecDepth 20000 in
theorem kX10_373 : jk_kV RX10 373 yX8_tells Fr_X8_tells 1 8 := ⟨kc_X8_tells, rfl, jk_t4 225 rfl rfl, jk_t4 31 rfl rfl, jk_t4 32 rfl rfl, rfl⟩
set_option maxRecDepth 20000 in
theorem kX10_376 : jk_kV RX10 376 yX0_clingsThen Fr_X0_clingsThen 3 0 := ⟨kc_X0_clingsThen, rfl, jk_t5 55 rfl rfl, jk_t5 56 rfl rfl, jk_t5 57 rfl rfl, rfl⟩
set_option maxRecDepth 20000 in
theorem kX10_379 : jk_kV RX10 379 yX0_layHum Fr_X0_layHum 0 0 := ⟨kc_X0_layHum, rfl, jk_t5 67 rfl rfl, jk_t3 119 rfl rfl, jk_t3 120 rfl rfl, rfl⟩
set_option maxRecDepth 20000 in
theorem kX10_382 : jk_kV RX10 382 yX2_draw Fr_X2_draw 1 2 := ⟨kc_X2_draw, rfl, jk_t5 76 rfl rfl, jk_t5 77 rfl rfl, jk_t5 78 rfl rfl, rfl⟩
set_option maxRecDepth 20000 in
theorem kX10_385 : jk_kV RX10 385 yX2_tune Fr_X2_tune 2 2 := ⟨kc_X2_tune, rfl, jk_t5 81 rfl rfl, jk_t5 82 rfl rfl, jk_t5 83 rfl rfl, rfl⟩
set_option maxRecDepth 20000 in
theorem kX10_394 : jk_kS RX10 394 yX4_kindWithBody Fr_X4_kindWithBody 2 := ⟨kc_X4_kindWithBody, rfl, jk_t5 104 rfl rfl, jk_t5 105 rfl rfl⟩
set_option maxRecDepth 20000 in
theorem kX10_397 : jk_kS RX10 397 yX10_kindAbove Fr_X10_kindAbove 1 := ⟨kc_X10_kindAbove, rfl, jk_t5 113 rfl rfl, jk_t3 23 rfl rfl⟩
set_option maxRecDepth 20000 in
theorem kX10_401 : jk_kS RX10 401 yX4_bodyOf Fr_X4_bodyOf 2 := ⟨kc_X4_bodyOf, rfl, jk_t5 114 rfl rfl, jk_t5 108 rfl rfl⟩
set_option maxRecDepth 20000 in
theorem kX10_404 : jk_kV RX10 404 yX4_note Fr_X4_note 1 4 := ⟨kc_X4_note, rfl, jk_t5 115 rfl rfl, jk_t5 116 rfl rfl, jk_t5 117 rfl rfl, rfl⟩
set_option maxRecDepth 20000 in
theorem kX0_35 : jk_kV RX0 35 yX0_layLoss Fr_X0_layLoss 0 0 := ⟨kc_X0_layLoss, rfl, jk_t3 106 rfl rfl, jk_t3 107 rfl rfl, jk_t3 108 rfl rfl, rfl⟩
set_option maxRecDepth 20000 in
theorem kX0_38 : jk_kV RX0 38 yX0_layHum Fr_X0_layHum 0 0 := ⟨kc_X0_layHum, rfl, jk_t3 118 rfl rfl, jk_t3 119 rfl rfl, jk_t3 120 rfl rfl, rfl⟩
set_option maxRecDepth 20000 in
theorem kX0_46 : jk_kV RX0 46 yX2_dinOn Fr_X2_dinOn 1 2 := ⟨kc_X2_dinOn, rfl, jk_t3 122 rfl rfl, jk_t3 123 rfl rfl, jk_t3 124 rfl rfl, rfl⟩
set_option maxRecDepth 20000 in
theorem kX0_50 : jk_kS RX0 50 yJ7_fill_53178 Fr_J7_fill_53178 2 := ⟨kc_J7_fill_53178, rfl, jk_t3 110 rfl rfl, jk_t3 111 rfl rfl⟩
set_option maxRecDepth 20000 in
theorem kX0_59 : jk_kV RX0 59 yX2_thingAt Fr_X2_thingAt 1 2 := ⟨kc_X2_thingAt, rfl, jk_t3 113 rfl rfl, jk_t2 228 rfl rfl, jk_t2 229 rfl rfl, rfl⟩
set_option maxRecDepth 20000 in
theorem kX0_68 : jk_kSN RX0 68 yX10_isPlace Fr_X10_isPlace 1 := ⟨kc_X10_isPlace, rfl, ⟨"TwoBarsByTheWindow", jk_n3 114 rfl rfl⟩, jk_t3 115 rfl rfl⟩
set_option maxRecDepth 20000 in
theorem kX0_72 : jk_kV RX0 72 yX9_swallows Fr_X9_swallows 0 9 := ⟨kc_X9_swallows, rfl, jk_t3 117 rfl rfl, jk_t3 32 rfl rfl, jk_t3 33 rfl rfl, rfl⟩
set_option maxRecDepth 20000 in
theorem kX0_76 : jk_kSN RX0 76 yX10_stepsFar Fr_X10_stepsFar 2 := ⟨kc_X10_stepsFar, rfl, ⟨"TwoBarsByTheWindow", jk_n3 154 rfl rfl⟩, jk_t3 155 rfl rfl⟩
set_option maxRecDepth 20000 in
theorem kX0_83 : jk_kV RX0 83 yX9_humsFar Fr_X9_humsFar 2 9 := ⟨kc_X9_humsFar, rfl, jk_t3 170 rfl rfl, jk_t3 27 rfl rfl, jk_t3 28 rfl rfl, rfl⟩
set_option maxRecDepth 20000 in
theorem kX0_86 : jk_kV RX0 86 yX0_along Fr_X0_along 3 0 := ⟨kc_X0_along, rfl, jk_t3 161 rfl rfl, jk_t3 163 rfl rfl, jk_ts 3 rfl rfl, rfl⟩
set_option maxRecDepth 20000 in
theorem kX0_98 : jk_kV RX0 98 yX0_wayLoss Fr_X0_wayLoss 2 0 := ⟨kc_X0_wayLoss, rfl, jk_t3 157 rfl rfl, jk_t3 158 rfl rfl, jk_t3 159 rfl rfl, rfl⟩
set_option maxRecDepth 20000 in
theorem kX0_101 : jk_kV RX0 101 yX0_humAt Fr_X0_humAt 1 0 := ⟨kc_X0_humAt, rfl, jk_t3 166 rfl rfl, jk_t3 167 rfl rfl, jk_t3 168 rfl rfl, rfl⟩
set_option maxRecDepth 20000 in
theorem kX0_107 : jk_kV RX0 107 yX2_placeOf Fr_X2_placeOf 1 2 := ⟨kc_X2_placeOf, rfl, jk_t3 149 rfl rfl, jk_t3 74 rfl rfl, jk_t3 75 rfl rfl, rfl⟩
set_option maxRecDepth 20000 in
theorem kX0_110 : jk_kV RX0 110 yX0_strengthFrom Fr_X0_strengthFrom 2 0 := ⟨kc_X0_strengthFrom, rfl, jk_t3 150 rfl rfl, jk_t3 151 rfl rfl, jk_t3 152 rfl rfl, rfl⟩
set_option maxRecDepth 20000 in
theorem kX0_113 : jk_kSN RX0 113 yX10_barsBy Fr_X10_barsBy 1 := ⟨kc_X10_barsBy, rfl, ⟨"TwoBarsByTheWindow", jk_n3 172 rfl rfl⟩, jk_t3 173 rfl rfl⟩
set_option maxRecDepth 20000 in
theorem kX0_116 : jk_kV RX0 116 yX0_barsOf Fr_X0_barsOf 2 0 := ⟨kc_X0_barsOf, rfl, jk_t3 145 rfl rfl, jk_t3 146 rfl rfl, jk_t3 147 rfl rfl, rfl⟩
set_option maxRecDepth 20000 in
theorem kX0_125 : jk_kV RX0 125 yX2_deviceAt Fr_X2_deviceAt 1 2 := ⟨kc_X2_deviceAt, rfl, jk_t4 97 rfl rfl, jk_t3 66 rfl rfl, jk_t3 67 rfl rfl, rfl⟩
set_option maxRecDepth 20000 in
theorem kX0_135 : jk_kV RX0 135 yX0_paceOf Fr_X0_paceOf 2 0 := ⟨kc_X0_paceOf, rfl, jk_t4 98 rfl rfl, jk_t3 142 rfl rfl, jk_t3 143 rfl rfl, rfl⟩
set_option maxRecDepth 20000 in
theorem kX0_147 : jk_kV RX0 147 yX0_reachFrom Fr_X0_reachFrom 1 0 := ⟨kc_X0_reachFrom, rfl, jk_t4 103 rfl rfl, jk_t4 104 rfl rfl, jk_t4 105 rfl rfl, rfl⟩
set_option maxRecDepth 20000 in
theorem kX0_151 : jk_kV RX0 151 yX0_servedBy Fr_X0_servedBy 2 0 := ⟨kc_X0_servedBy, rfl, jk_t4 107 rfl rfl, jk_t4 108 rfl rfl, jk_t4 109 rfl rfl, rfl⟩
set_option maxRecDepth 20000 in
theorem kX0_154 : jk_kV RX0 154 yX0_reachOf Fr_X0_reachOf 2 0 := ⟨kc_X0_reachOf, rfl, jk_t4 111 rfl rfl, jk_t4 113 rfl rfl, jk_ts 12 rfl rfl, rfl⟩
set_option maxRecDepth 20000 in
theorem kX2_61 : jk_kIN RX2 61 yX9_init Fr_X9_init 0 := ⟨kc_X9_init, rfl, rfl, rfl, ⟨"TwoBarsByTheWindow", jk_n1 39 rfl rfl⟩, jk_t1 40 rfl rfl⟩
set_option maxRecDepth 20000 in
theorem kX2_62 : jk_kIN RX2 62 yX1_init Fr_X1_init 0 := ⟨kc_X1_init, rfl, rfl, rfl, ⟨"TwoBarsByTheWindow", jk_n1 73 rfl rfl⟩, jk_t1 74 rfl rfl⟩
set_option maxRecDepth 20000 in
theorem kX2_63 : jk_kV RX2 63 yX2_thingAt Fr_X2_thingAt 1 2 := ⟨kc_X2_thingAt, rfl, jk_t3 48 rfl rfl, jk_t2 228 rfl rfl, jk_t2 229 rfl rfl, rfl⟩
set_option maxRecDepth 20000 in
theorem kX2_67 : jk_kV RX2 67 yX9_become Fr_X9_become 1 9 := ⟨kc_X9_become, rfl, jk_t3 184 rfl rfl, jk_t3 185 rfl rfl, jk_t3 186 rfl rfl, rfl⟩
set_option maxRecDepth 20000 in
theorem kX2_71 : jk_kV RX2 71 yX2_deviceAt Fr_X2_deviceAt 1 2 := ⟨kc_X2_deviceAt, rfl, jk_t3 65 rfl rfl, jk_t3 66 rfl rfl, jk_t3 67 rfl rfl, rfl⟩
set_option maxRecDepth 20000 in
theorem kX2_75 : jk_kV RX2 75 yX1_become Fr_X1_become 1 1 := ⟨kc_X1_become, rfl, jk_t3 188 rfl rfl, jk_t3 189 rfl rfl, jk_t3 190 rfl rfl, rfl⟩
set_option maxRecDepth 20000 in
theorem kX2_78 : jk_kV RX2 78 yX2_channelAt Fr_X2_channelAt 1 2 := ⟨kc_X2_channelAt, rfl, jk_t3 130 rfl rfl, jk_t3 131 rfl rfl, jk_t3 132 rfl rfl, rfl⟩
set_option maxRecDepth 20000 in
theorem kX2_82 : jk_kV RX2 82 yX2_noiseAt Fr_X2_noiseAt 1 2 := ⟨kc_X2_noiseAt, rfl, jk_t3 126 rfl rfl, jk_t3 127 rfl rfl, jk_t3 128 rfl rfl, rfl⟩
set_option maxRecDepth 20000 in
theorem kX2_85 : jk_kV RX2 85 yX2_isCell Fr_X2_isCell 1 2 := ⟨kc_X2_isCell, rfl, jk_t3 8 rfl rfl, jk_t3 9 rfl rfl, jk_t3 10 rfl rfl, rfl⟩
set_option maxRecDepth 20000 in
theorem kX2_118 : jk_kSN RX2 118 yX10_noiseOver Fr_X10_noiseOver 2 := ⟨kc_X10_noiseOver, rfl, ⟨"TwoBarsByTheWindow", jk_n3 134 rfl rfl⟩, jk_t3 135 rfl rfl⟩
set_option maxRecDepth 20000 in
theorem kX3_28 : jk_kI RX3 28 yX0_init Fr_X0_init 1 := ⟨kc_X0_init, rfl, rfl, rfl, jk_t1 211 rfl rfl, jk_t1 178 rfl rfl⟩
set_option maxRecDepth 20000 in
theorem kX3_35 : jk_kV RX3 35 yX2_become Fr_X2_become 1 2 := ⟨kc_X2_become, rfl, jk_t4 123 rfl rfl, jk_t3 181 rfl rfl, jk_t3 182 rfl rfl, rfl⟩
set_option maxRecDepth 20000 in
theorem kX3_40 : jk_kV RX3 40 yX0_lay Fr_X0_lay 0 0 := ⟨kc_X0_lay, rfl, jk_t4 124 rfl rfl, jk_t3 103 rfl rfl, jk_t3 104 rfl rfl, rfl⟩
set_option maxRecDepth 20000 in
theorem kX3_43 : jk_kV RX3 43 yX2_wholeWorth Fr_X2_wholeWorth 0 2 := ⟨kc_X2_wholeWorth, rfl, jk_t4 125 rfl rfl, jk_t4 126 rfl rfl, jk_t4 127 rfl rfl, rfl⟩
set_option maxRecDepth 20000 in
theorem kX3_47 : jk_kV RX3 47 yX2_isCell Fr_X2_isCell 1 2 := ⟨kc_X2_isCell, rfl, jk_t4 137 rfl rfl, jk_t3 9 rfl rfl, jk_t3 10 rfl rfl, rfl⟩
set_option maxRecDepth 20000 in
theorem kX3_51 : jk_kV RX3 51 yX0_reachFrom Fr_X0_reachFrom 1 0 := ⟨kc_X0_reachFrom, rfl, jk_t4 138 rfl rfl, jk_t4 104 rfl rfl, jk_t4 105 rfl rfl, rfl⟩
set_option maxRecDepth 20000 in
theorem kX3_55 : jk_kV RX3 55 yX3_reachFromAll Fr_X3_reachFromAll 0 3 := ⟨kc_X3_reachFromAll, rfl, jk_t4 133 rfl rfl, jk_t4 135 rfl rfl, jk_ts 13 rfl rfl, rfl⟩
set_option maxRecDepth 20000 in
theorem kX3_61 : jk_kV RX3 61 yX0_servedBy Fr_X0_servedBy 2 0 := ⟨kc_X0_servedBy, rfl, jk_t4 139 rfl rfl, jk_t4 108 rfl rfl, jk_t4 109 rfl rfl, rfl⟩
set_option maxRecDepth 20000 in
theorem kX3_71 : jk_kV RX3 71 yX2_thingAt Fr_X2_thingAt 1 2 := ⟨kc_X2_thingAt, rfl, jk_t4 189 rfl rfl, jk_t2 228 rfl rfl, jk_t2 229 rfl rfl, rfl⟩
set_option maxRecDepth 20000 in
theorem kX3_83 : jk_kV RX3 83 yX0_servedNow Fr_X0_servedNow 0 0 := ⟨kc_X0_servedNow, rfl, jk_t4 190 rfl rfl, jk_t4 100 rfl rfl, jk_t4 101 rfl rfl, rfl⟩
set_option maxRecDepth 20000 in
theorem kX3_86 : jk_kV RX3 86 yX9_become Fr_X9_become 1 9 := ⟨kc_X9_become, rfl, jk_t4 191 rfl rfl, jk_t3 185 rfl rfl, jk_t3 186 rfl rfl, rfl⟩
set_option maxRecDepth 20000 in
theorem kX3_89 : jk_kV RX3 89 yX3_findDoors Fr_X3_findDoors 0 3 := ⟨kc_X3_findDoors, rfl, jk_t4 200 rfl rfl, jk_t4 202 rfl rfl, jk_ts 16 rfl rfl, rfl⟩
set_option maxRecDepth 20000 in
theorem kX3_96 : jk_kV RX3 96 yX0_layLoss Fr_X0_layLoss 0 0 := ⟨kc_X0_layLoss, rfl, jk_t4 205 rfl rfl, jk_t3 107 rfl rfl, jk_t3 108 rfl rfl, rfl⟩
set_option maxRecDepth 20000 in
theorem kX3_99 : jk_kV RX3 99 yX9_isOne Fr_X9_isOne 1 9 := ⟨kc_X9_isOne, rfl, jk_t4 204 rfl rfl, jk_t3 17 rfl rfl, jk_t3 18 rfl rfl, rfl⟩
set_option maxRecDepth 20000 in
theorem kX3_105 : jk_kV RX3 105 yX0_layHum Fr_X0_layHum 0 0 := ⟨kc_X0_layHum, rfl, jk_t5 30 rfl rfl, jk_t3 119 rfl rfl, jk_t3 120 rfl rfl, rfl⟩
set_option maxRecDepth 20000 in
theorem kX4_35 : jk_kS RX4 35 yX4_bodyOf Fr_X4_bodyOf 2 := ⟨kc_X4_bodyOf, rfl, jk_t5 107 rfl rfl, jk_t5 108 rfl rfl⟩
set_option maxRecDepth 20000 in
theorem kX4_39 : jk_kSN RX4 39 yX10_kindAbove Fr_X10_kindAbove 1 := ⟨kc_X10_kindAbove, rfl, ⟨"TwoBarsByTheWindow", jk_n5 112 rfl rfl⟩, jk_t3 23 rfl rfl⟩
set_option maxRecDepth 20000 in
theorem kX5_17 : jk_kIN RX5 17 yX8_init Fr_X8_init 0 := ⟨kc_X8_init, rfl, rfl, rfl, ⟨"TwoBarsByTheWindow", jk_n2 35 rfl rfl⟩, jk_t2 36 rfl rfl⟩
set_option maxRecDepth 20000 in
theorem kX5_33 : jk_kV RX5 33 yX5_readItem Fr_X5_readItem 0 5 := ⟨kc_X5_readItem, rfl, jk_t3 196 rfl rfl, jk_t3 198 rfl rfl, jk_ts 4 rfl rfl, rfl⟩
set_option maxRecDepth 20000 in
theorem kX5_40 : jk_kV RX5 40 yX5_isHere Fr_X5_isHere 1 5 := ⟨kc_X5_isHere, rfl, jk_t4 48 rfl rfl, jk_t4 50 rfl rfl, jk_ts 9 rfl rfl, rfl⟩
set_option maxRecDepth 20000 in
theorem kX5_44 : jk_kV RX5 44 yX5_readWord Fr_X5_readWord 0 5 := ⟨kc_X5_readWord, rfl, jk_t3 200 rfl rfl, jk_t3 202 rfl rfl, jk_ts 5 rfl rfl, rfl⟩
set_option maxRecDepth 20000 in
theorem kX5_48 : jk_kV RX5 48 yX5_hasRoom Fr_X5_hasRoom 1 5 := ⟨kc_X5_hasRoom, rfl, jk_t4 35 rfl rfl, jk_t4 37 rfl rfl, jk_ts 7 rfl rfl, rfl⟩
set_option maxRecDepth 20000 in
theorem kX5_52 : jk_kS RX5 52 yX5_sortOf Fr_X5_sortOf 2 := ⟨kc_X5_sortOf, rfl, jk_t4 39 rfl rfl, jk_t4 40 rfl rfl⟩
set_option maxRecDepth 20000 in
theorem kX5_56 : jk_kV RX5 56 yX5_readNumber Fr_X5_readNumber 2 5 := ⟨kc_X5_readNumber, rfl, jk_t4 44 rfl rfl, jk_t4 46 rfl rfl, jk_ts 8 rfl rfl, rfl⟩
set_option maxRecDepth 20000 in
theorem kX5_60 : jk_kV RX5 60 yX5_apply Fr_X5_apply 1 5 := ⟨kc_X5_apply, rfl, jk_t4 57 rfl rfl, jk_t4 59 rfl rfl, jk_ts 11 rfl rfl, rfl⟩
set_option maxRecDepth 20000 in
theorem kX5_64 : jk_kS RX5 64 yX5_lettersOf Fr_X5_lettersOf 1 := ⟨kc_X5_lettersOf, rfl, jk_t3 204 rfl rfl, jk_t3 205 rfl rfl⟩
set_option maxRecDepth 20000 in
theorem kX5_68 : jk_kVs RX5 68 yJ0_length_8abf5 Fr_J0_length_8abf5 0 := ⟨kc_J0_length_8abf5, rfl, jk_t3 217 rfl rfl, jk_t3 218 rfl rfl, jk_t3 219 rfl rfl, rfl⟩
set_option maxRecDepth 20000 in
theorem kX5_73 : jk_kVs RX5 73 yJ0_charAt_5068e Fr_J0_charAt_5068e 1 := ⟨kc_J0_charAt_5068e, rfl, jk_t3 227 rfl rfl, jk_t3 228 rfl rfl, jk_t3 229 rfl rfl, rfl⟩
set_option maxRecDepth 20000 in
theorem kX5_77 : jk_kV RX5 77 yX5_isAt Fr_X5_isAt 2 5 := ⟨kc_X5_isAt, rfl, jk_t4 25 rfl rfl, jk_t4 27 rfl rfl, jk_ts 6 rfl rfl, rfl⟩
set_option maxRecDepth 20000 in
theorem kX5_86 : jk_kV RX5 86 yX5_digitHere Fr_X5_digitHere 0 5 := ⟨kc_X5_digitHere, rfl, jk_t4 52 rfl rfl, jk_t4 54 rfl rfl, jk_ts 10 rfl rfl, rfl⟩
set_option maxRecDepth 20000 in
theorem kX5_89 : jk_kV RX5 89 yX2_may Fr_X2_may 2 2 := ⟨kc_X2_may, rfl, jk_t4 56 rfl rfl, jk_t3 5 rfl rfl, jk_t3 6 rfl rfl, rfl⟩
set_option maxRecDepth 20000 in
theorem kX5_94 : jk_kV RX5 94 yX8_has Fr_X8_has 1 8 := ⟨kc_X8_has, rfl, jk_t4 29 rfl rfl, jk_t2 184 rfl rfl, jk_t2 185 rfl rfl, rfl⟩
set_option maxRecDepth 20000 in
theorem kX5_97 : jk_kV RX5 97 yX8_tells Fr_X8_tells 1 8 := ⟨kc_X8_tells, rfl, jk_t4 30 rfl rfl, jk_t4 31 rfl rfl, jk_t4 32 rfl rfl, rfl⟩
set_option maxRecDepth 20000 in
theorem kX5_110 : jk_kV RX5 110 yX2_thingAt Fr_X2_thingAt 1 2 := ⟨kc_X2_thingAt, rfl, jk_t4 61 rfl rfl, jk_t2 228 rfl rfl, jk_t2 229 rfl rfl, rfl⟩
set_option maxRecDepth 20000 in
theorem kX5_117 : jk_kV RX5 117 yX2_addThing Fr_X2_addThing 3 2 := ⟨kc_X2_addThing, rfl, jk_t4 62 rfl rfl, jk_t3 45 rfl rfl, jk_t3 46 rfl rfl, rfl⟩
set_option maxRecDepth 20000 in
theorem kX5_121 : jk_kV RX5 121 yX2_place Fr_X2_place 2 2 := ⟨kc_X2_place, rfl, jk_t4 63 rfl rfl, jk_t3 78 rfl rfl, jk_t3 79 rfl rfl, rfl⟩
set_option maxRecDepth 20000 in
theorem kX5_131 : jk_kV RX5 131 yX2_addNeighbour Fr_X2_addNeighbour 2 2 := ⟨kc_X2_addNeighbour, rfl, jk_t4 64 rfl rfl, jk_t3 54 rfl rfl, jk_t3 55 rfl rfl, rfl⟩
set_option maxRecDepth 20000 in
theorem kX5_134 : jk_kV RX5 134 yX2_addDevice Fr_X2_addDevice 3 2 := ⟨kc_X2_addDevice, rfl, jk_t4 65 rfl rfl, jk_t3 62 rfl rfl, jk_t3 63 rfl rfl, rfl⟩
set_option maxRecDepth 20000 in
theorem kX6_34 : jk_kV RX6 34 yX2_channelAt Fr_X2_channelAt 1 2 := ⟨kc_X2_channelAt, rfl, jk_t4 157 rfl rfl, jk_t3 131 rfl rfl, jk_t3 132 rfl rfl, rfl⟩
set_option maxRecDepth 20000 in
theorem kX6_38 : jk_kV RX6 38 yX6_quietestFor Fr_X6_quietestFor 1 6 := ⟨kc_X6_quietestFor, rfl, jk_t4 162 rfl rfl, jk_t4 164 rfl rfl, jk_ts 14 rfl rfl, rfl⟩
set_option maxRecDepth 20000 in
theorem kX6_41 : jk_kV RX6 41 yX6_madeOn Fr_X6_madeOn 2 6 := ⟨kc_X6_madeOn, rfl, jk_t4 166 rfl rfl, jk_t4 168 rfl rfl, jk_ts 15 rfl rfl, rfl⟩
set_option maxRecDepth 20000 in
theorem kX6_47 : jk_kSN RX6 47 yX10_noiseOver Fr_X10_noiseOver 2 := ⟨kc_X10_noiseOver, rfl, ⟨"TwoBarsByTheWindow", jk_n4 170 rfl rfl⟩, jk_t3 135 rfl rfl⟩
set_option maxRecDepth 20000 in
theorem kX6_50 : jk_kV RX6 50 yX2_noiseAt Fr_X2_noiseAt 1 2 := ⟨kc_X2_noiseAt, rfl, jk_t4 171 rfl rfl, jk_t3 127 rfl rfl, jk_t3 128 rfl rfl, rfl⟩
set_option maxRecDepth 20000 in
theorem kX6_53 : jk_kV RX6 53 yX6_channelAt Fr_X6_channelAt 1 6 := ⟨kc_X6_channelAt, rfl, jk_t4 172 rfl rfl, jk_t4 173 rfl rfl, jk_t4 174 rfl rfl, rfl⟩
set_option maxRecDepth 20000 in
theorem kX7_30 : jk_kV RX7 30 yX0_lay Fr_X0_lay 0 0 := ⟨kc_X0_lay, rfl, jk_t4 230 rfl rfl, jk_t3 103 rfl rfl, jk_t3 104 rfl rfl, rfl⟩
set_option maxRecDepth 20000 in
theorem kX7_35 : jk_kV RX7 35 yX2_isCell Fr_X2_isCell 1 2 := ⟨kc_X2_isCell, rfl, jk_t4 231 rfl rfl, jk_t3 9 rfl rfl, jk_t3 10 rfl rfl, rfl⟩
set_option maxRecDepth 20000 in
theorem kX7_41 : jk_kV RX7 41 yX7_agrees Fr_X7_agrees 3 7 := ⟨kc_X7_agrees, rfl, jk_t4 232 rfl rfl, jk_t4 234 rfl rfl, jk_ts 18 rfl rfl, rfl⟩
set_option maxRecDepth 20000 in
theorem kX7_45 : jk_kV RX7 45 yX8_tells Fr_X8_tells 1 8 := ⟨kc_X8_tells, rfl, jk_t4 236 rfl rfl, jk_t4 31 rfl rfl, jk_t4 32 rfl rfl, rfl⟩
set_option maxRecDepth 20000 in
theorem kX7_51 : jk_kV RX7 51 yX0_strengthFrom Fr_X0_strengthFrom 2 0 := ⟨kc_X0_strengthFrom, rfl, jk_t4 237 rfl rfl, jk_t3 151 rfl rfl, jk_t3 152 rfl rfl, rfl⟩
set_option maxRecDepth 20000 in
theorem kX7_55 : jk_kSN RX7 55 yX10_barsBy Fr_X10_barsBy 1 := ⟨kc_X10_barsBy, rfl, ⟨"TwoBarsByTheWindow", jk_n4 238 rfl rfl⟩, jk_t3 173 rfl rfl⟩
set_option maxRecDepth 20000 in
theorem kX7_58 : jk_kV RX7 58 yX7_worstLeft Fr_X7_worstLeft 1 7 := ⟨kc_X7_worstLeft, rfl, jk_t5 11 rfl rfl, jk_t5 13 rfl rfl, jk_ts 19 rfl rfl, rfl⟩
set_option maxRecDepth 20000 in
theorem kX7_61 : jk_kS RX7 61 yJ7_fill_53178 Fr_J7_fill_53178 2 := ⟨kc_J7_fill_53178, rfl, jk_t5 15 rfl rfl, jk_t3 111 rfl rfl⟩
set_option maxRecDepth 20000 in
theorem kX7_67 : jk_kV RX7 67 yX7_fitting Fr_X7_fitting 1 7 := ⟨kc_X7_fitting, rfl, jk_t5 16 rfl rfl, jk_t5 0 rfl rfl, jk_t5 1 rfl rfl, rfl⟩
set_option maxRecDepth 20000 in
theorem kX8_25 : jk_kV RX8 25 yX8_clear Fr_X8_clear 0 8 := ⟨kc_X8_clear, rfl, jk_t2 159 rfl rfl, jk_t2 160 rfl rfl, jk_t2 161 rfl rfl, rfl⟩
set_option maxRecDepth 20000 in
theorem kX8_37 : jk_kS RX8 37 yJ7_fill_d0a16 Fr_J7_fill_d0a16 2 := ⟨kc_J7_fill_d0a16, rfl, jk_t2 169 rfl rfl, jk_t2 170 rfl rfl⟩
set_option maxRecDepth 20000 in
theorem kX8_43 : jk_kV RX8 43 yX8_has Fr_X8_has 1 8 := ⟨kc_X8_has, rfl, jk_t2 191 rfl rfl, jk_t2 184 rfl rfl, jk_t2 185 rfl rfl, rfl⟩
set_option maxRecDepth 20000 in
theorem kX8_47 : jk_kV RX8 47 yX8_cut Fr_X8_cut 1 8 := ⟨kc_X8_cut, rfl, jk_t2 192 rfl rfl, jk_t2 194 rfl rfl, jk_ts 2 rfl rfl, rfl⟩
set_option maxRecDepth 20000 in
theorem kX8_51 : jk_kV RX8 51 yX8_hasRun Fr_X8_hasRun 2 8 := ⟨kc_X8_hasRun, rfl, jk_t2 211 rfl rfl, jk_t2 204 rfl rfl, jk_t2 205 rfl rfl, rfl⟩
set_option maxRecDepth 20000 in
theorem kX9_29 : jk_kSN RX9 29 yX10_kindAbove Fr_X10_kindAbove 1 := ⟨kc_X10_kindAbove, rfl, ⟨"TwoBarsByTheWindow", jk_n3 22 rfl rfl⟩, jk_t3 23 rfl rfl⟩
set_option maxRecDepth 20000 in
theorem kL_9 : jk_kI RL 9 yX10_init Fr_X10_init 0 := ⟨kc_X10_init, rfl, rfl, rfl, jk_t1 22 rfl rfl, jk_t1 23 rfl rfl⟩
set_option maxRecDepth 20000 in
theorem kL_12 : jk_kI RL 12 yX11_init Fr_X11_init 0 := ⟨kc_X11_init, rfl, rfl, rfl, jk_t5 141 rfl rfl, jk_t5 142 rfl rfl⟩
set_option maxRecDepth 20000 in
theorem kL_13 : jk_kV RL 13 yX10_row Fr_X10_row 3 10 := ⟨kc_X10_row, rfl, jk_t2 143 rfl rfl, jk_t2 144 rfl rfl, jk_t2 145 rfl rfl, rfl⟩
set_option maxRecDepth 20000 in
theorem kL_17 : jk_kV RL 17 yX11_row Fr_X11_row 3 11 := ⟨kc_X11_row, rfl, jk_t6 59 rfl rfl, jk_t6 60 rfl rfl, jk_t6 61 rfl rfl, rfl⟩
set_option maxRecDepth 20000 in
theorem kL_20 : jk_kV RL 20 yX10_set Fr_X10_set 3 10 := ⟨kc_X10_set, rfl, jk_t2 172 rfl rfl, jk_t2 173 rfl rfl, jk_t2 174 rfl rfl, rfl⟩
set_option maxRecDepth 20000 in
theorem kL_24 : jk_kV RL 24 yX11_set Fr_X11_set 3 11 := ⟨kc_X11_set, rfl, jk_t6 71 rfl rfl, jk_t6 72 rfl rfl, jk_t6 73 rfl rfl, rfl⟩
set_option maxRecDepth 20000 in
theorem kL_25 : jk_kV RL 25 yX10_copy Fr_X10_copy 5 10 := ⟨kc_X10_copy, rfl, jk_t2 196 rfl rfl, jk_t2 197 rfl rfl, jk_t2 198 rfl rfl, rfl⟩
set_option maxRecDepth 20000 in
theorem kL_29 : jk_kV RL 29 yX11_copy Fr_X11_copy 5 11 := ⟨kc_X11_copy, rfl, jk_t6 75 rfl rfl, jk_t6 76 rfl rfl, jk_t6 77 rfl rfl, rfl⟩
set_option maxRecDepth 20000 in
theorem kL_30 : jk_kV RL 30 yX10_element Fr_X10_element 2 10 := ⟨kc_X10_element, rfl, jk_t2 215 rfl rfl, jk_t2 216 rfl rfl, jk_t2 217 rfl rfl, rfl⟩
set_option maxRecDepth 20000 in
theorem kL_34 : jk_kV RL 34 yX11_element Fr_X11_element 2 11 := ⟨kc_X11_element, rfl, jk_t6 79 rfl rfl, jk_t6 80 rfl rfl, jk_t6 81 rfl rfl, rfl⟩
set_option maxRecDepth 20000 in
theorem kL_35 : jk_kV RL 35 yX10_show Fr_X10_show 2 10 := ⟨kc_X10_show, rfl, jk_t2 223 rfl rfl, jk_t2 224 rfl rfl, jk_t2 225 rfl rfl, rfl⟩
set_option maxRecDepth 20000 in
theorem kL_39 : jk_kV RL 39 yX11_show Fr_X11_show 2 11 := ⟨kc_X11_show, rfl, jk_t6 83 rfl rfl, jk_t6 84 rfl rfl, jk_t6 85 rfl rfl, rfl⟩
set_option maxRecDepth 20000 in
theorem kL_40 : jk_kV RL 40 yX10_holds Fr_X10_holds 1 10 := ⟨kc_X10_holds, rfl, jk_t2 236 rfl rfl, jk_t2 237 rfl rfl, jk_t2 238 rfl rfl, rfl⟩
set_option maxRecDepth 20000 in
theorem kL_44 : jk_kV RL 44 yX11_holds Fr_X11_holds 1 11 := ⟨kc_X11_holds, rfl, jk_t6 91 rfl rfl, jk_t6 92 rfl rfl, jk_t6 93 rfl rfl, rfl⟩
set_option maxRecDepth 20000 in
theorem kL_45 : jk_kV RL 45 yX10_says Fr_X10_says 2 10 := ⟨kc_X10_says, rfl, jk_t3 0 rfl rfl, jk_t3 1 rfl rfl, jk_t3 2 rfl rfl, rfl⟩
set_option maxRecDepth 20000 in
theorem kL_48 : jk_kV RL 48 yX11_says Fr_X11_says 2 11 := ⟨kc_X11_says, rfl, jk_t6 95 rfl rfl, jk_t6 96 rfl rfl, jk_t6 97 rfl rfl, rfl⟩
set_option maxRecDepth 20000 in
theorem kL_49 : jk_kV RL 49 yX10_side Fr_X10_side 1 10 := ⟨kc_X10_side, rfl, jk_t3 35 rfl rfl, jk_t3 36 rfl rfl, jk_t3 37 rfl rfl, rfl⟩
set_option maxRecDepth 20000 in
theorem kL_52 : jk_kV RL 52 yX11_side Fr_X11_side 1 11 := ⟨kc_X11_side, rfl, jk_t6 115 rfl rfl, jk_t6 116 rfl rfl, jk_t6 117 rfl rfl, rfl⟩
set_option maxRecDepth 20000 in
theorem kL_53 : jk_kV RL 53 yX10_thing Fr_X10_thing 3 10 := ⟨kc_X10_thing, rfl, jk_t3 39 rfl rfl, jk_t3 40 rfl rfl, jk_t3 41 rfl rfl, rfl⟩
set_option maxRecDepth 20000 in
theorem kL_56 : jk_kV RL 56 yX11_thing Fr_X11_thing 3 11 := ⟨kc_X11_thing, rfl, jk_t6 123 rfl rfl, jk_t6 124 rfl rfl, jk_t6 125 rfl rfl, rfl⟩
set_option maxRecDepth 20000 in
theorem kL_57 : jk_kV RL 57 yX10_neighbour Fr_X10_neighbour 2 10 := ⟨kc_X10_neighbour, rfl, jk_t3 49 rfl rfl, jk_t3 50 rfl rfl, jk_t3 51 rfl rfl, rfl⟩
set_option maxRecDepth 20000 in
theorem kL_60 : jk_kV RL 60 yX11_neighbour Fr_X11_neighbour 2 11 := ⟨kc_X11_neighbour, rfl, jk_t6 135 rfl rfl, jk_t6 136 rfl rfl, jk_t6 137 rfl rfl, rfl⟩
set_option maxRecDepth 20000 in
theorem kL_61 : jk_kV RL 61 yX10_device Fr_X10_device 3 10 := ⟨kc_X10_device, rfl, jk_t3 57 rfl rfl, jk_t3 58 rfl rfl, jk_t3 59 rfl rfl, rfl⟩
set_option maxRecDepth 20000 in
theorem kL_64 : jk_kV RL 64 yX11_device Fr_X11_device 3 11 := ⟨kc_X11_device, rfl, jk_t6 143 rfl rfl, jk_t6 144 rfl rfl, jk_t6 145 rfl rfl, rfl⟩
set_option maxRecDepth 20000 in
theorem kL_65 : jk_kV RL 65 yX10_box Fr_X10_box 2 10 := ⟨kc_X10_box, rfl, jk_t3 69 rfl rfl, jk_t3 70 rfl rfl, jk_t3 71 rfl rfl, rfl⟩
set_option maxRecDepth 20000 in
theorem kL_68 : jk_kV RL 68 yX11_box Fr_X11_box 2 11 := ⟨kc_X11_box, rfl, jk_t6 151 rfl rfl, jk_t6 152 rfl rfl, jk_t6 153 rfl rfl, rfl⟩
set_option maxRecDepth 20000 in
theorem kL_69 : jk_kV RL 69 yX10_ask Fr_X10_ask 2 10 := ⟨kc_X10_ask, rfl, jk_t3 81 rfl rfl, jk_t3 82 rfl rfl, jk_t3 83 rfl rfl, rfl⟩
set_option maxRecDepth 20000 in
theorem kL_72 : jk_kV RL 72 yX11_ask Fr_X11_ask 2 11 := ⟨kc_X11_ask, rfl, jk_t6 159 rfl rfl, jk_t6 160 rfl rfl, jk_t6 161 rfl rfl, rfl⟩
set_option maxRecDepth 20000 in
theorem kL_73 : jk_kV RL 73 yX10_shut Fr_X10_shut 2 10 := ⟨kc_X10_shut, rfl, jk_t3 85 rfl rfl, jk_t3 86 rfl rfl, jk_t3 87 rfl rfl, rfl⟩
set_option maxRecDepth 20000 in
theorem kL_77 : jk_kV RL 77 yX11_shut Fr_X11_shut 2 11 := ⟨kc_X11_shut, rfl, jk_t6 171 rfl rfl, jk_t6 172 rfl rfl, jk_t6 173 rfl rfl, rfl⟩
set_option maxRecDepth 20000 in
theorem kL_78 : jk_kV RL 78 yX10_move Fr_X10_move 2 10 := ⟨kc_X10_move, rfl, jk_t3 89 rfl rfl, jk_t3 90 rfl rfl, jk_t3 91 rfl rfl, rfl⟩
set_option maxRecDepth 20000 in
theorem kL_81 : jk_kV RL 81 yX11_move Fr_X11_move 2 11 := ⟨kc_X11_move, rfl, jk_t6 175 rfl rfl, jk_t6 176 rfl rfl, jk_t6 177 rfl rfl, rfl⟩
set_option maxRecDepth 20000 in
theorem kL_82 : jk_kV RL 82 yX10_thingOf Fr_X10_thingOf 2 10 := ⟨kc_X10_thingOf, rfl, jk_t3 93 rfl rfl, jk_t3 94 rfl rfl, jk_t3 95 rfl rfl, rfl⟩
set_option maxRecDepth 20000 in
theorem kL_85 : jk_kV RL 85 yX11_thingOf Fr_X11_thingOf 2 11 := ⟨kc_X11_thingOf, rfl, jk_t6 179 rfl rfl, jk_t6 180 rfl rfl, jk_t6 181 rfl rfl, rfl⟩
set_option maxRecDepth 20000 in
theorem kL_86 : jk_kV RL 86 yX10_deviceOf Fr_X10_deviceOf 2 10 := ⟨kc_X10_deviceOf, rfl, jk_t3 97 rfl rfl, jk_t3 98 rfl rfl, jk_t3 99 rfl rfl, rfl⟩
set_option maxRecDepth 20000 in
theorem kL_89 : jk_kV RL 89 yX11_deviceOf Fr_X11_deviceOf 2 11 := ⟨kc_X11_deviceOf, rfl, jk_t6 183 rfl rfl, jk_t6 184 rfl rfl, jk_t6 185 rfl rfl, rfl⟩
set_option maxRecDepth 20000 in
theorem kL_90 : jk_kV RL 90 yX10_house Fr_X10_house 1 10 := ⟨kc_X10_house, rfl, jk_t3 176 rfl rfl, jk_t3 177 rfl rfl, jk_t3 178 rfl rfl, rfl⟩
set_option maxRecDepth 20000 in
theorem kL_93 : jk_kV RL 93 yX11_house Fr_X11_house 1 11 := ⟨kc_X11_house, rfl, jk_t6 215 rfl rfl, jk_t6 216 rfl rfl, jk_t6 217 rfl rfl, rfl⟩
set_option maxRecDepth 20000 in
theorem kL_94 : jk_kV RL 94 yX10_fault Fr_X10_fault 0 10 := ⟨kc_X10_fault, rfl, jk_t4 67 rfl rfl, jk_t4 68 rfl rfl, jk_t4 69 rfl rfl, rfl⟩
set_option maxRecDepth 20000 in
theorem kL_98 : jk_kV RL 98 yX11_fault Fr_X11_fault 0 11 := ⟨kc_X11_fault, rfl, jk_t7 19 rfl rfl, jk_t7 20 rfl rfl, jk_t7 21 rfl rfl, rfl⟩
set_option maxRecDepth 20000 in
theorem kL_99 : jk_kV RL 99 yX10_bars Fr_X10_bars 3 10 := ⟨kc_X10_bars, rfl, jk_t4 71 rfl rfl, jk_t4 72 rfl rfl, jk_t4 73 rfl rfl, rfl⟩
set_option maxRecDepth 20000 in
theorem kL_102 : jk_kV RL 102 yX11_bars Fr_X11_bars 3 11 := ⟨kc_X11_bars, rfl, jk_t7 23 rfl rfl, jk_t7 24 rfl rfl, jk_t7 25 rfl rfl, rfl⟩
set_option maxRecDepth 20000 in
theorem kL_103 : jk_kV RL 103 yX10_way Fr_X10_way 3 10 := ⟨kc_X10_way, rfl, jk_t4 77 rfl rfl, jk_t4 78 rfl rfl, jk_t4 79 rfl rfl, rfl⟩
set_option maxRecDepth 20000 in
theorem kL_106 : jk_kV RL 106 yX11_way Fr_X11_way 3 11 := ⟨kc_X11_way, rfl, jk_t7 27 rfl rfl, jk_t7 28 rfl rfl, jk_t7 29 rfl rfl, rfl⟩
set_option maxRecDepth 20000 in
theorem kL_107 : jk_kV RL 107 yX10_hum Fr_X10_hum 2 10 := ⟨kc_X10_hum, rfl, jk_t4 83 rfl rfl, jk_t4 84 rfl rfl, jk_t4 85 rfl rfl, rfl⟩
set_option maxRecDepth 20000 in
theorem kL_110 : jk_kV RL 110 yX11_hum Fr_X11_hum 2 11 := ⟨kc_X11_hum, rfl, jk_t7 31 rfl rfl, jk_t7 32 rfl rfl, jk_t7 33 rfl rfl, rfl⟩
set_option maxRecDepth 20000 in
theorem kL_111 : jk_kV RL 111 yX10_filled Fr_X10_filled 1 10 := ⟨kc_X10_filled, rfl, jk_t4 89 rfl rfl, jk_t4 90 rfl rfl, jk_t4 91 rfl rfl, rfl⟩
set_option maxRecDepth 20000 in
theorem kL_114 : jk_kV RL 114 yX11_filled Fr_X11_filled 1 11 := ⟨kc_X11_filled, rfl, jk_t7 35 rfl rfl, jk_t7 36 rfl rfl, jk_t7 37 rfl rfl, rfl⟩
set_option maxRecDepth 20000 in
theorem kL_115 : jk_kV RL 115 yX10_put Fr_X10_put 1 10 := ⟨kc_X10_put, rfl, jk_t4 115 rfl rfl, jk_t4 116 rfl rfl, jk_t4 117 rfl rfl, rfl⟩
set_option maxRecDepth 20000 in
theorem kL_118 : jk_kV RL 118 yX11_put Fr_X11_put 1 11 := ⟨kc_X11_put, rfl, jk_t7 47 rfl rfl, jk_t7 48 rfl rfl, jk_t7 49 rfl rfl, rfl⟩
set_option maxRecDepth 20000 in
theorem kL_119 : jk_kV RL 119 yX10_channel Fr_X10_channel 0 10 := ⟨kc_X10_channel, rfl, jk_t4 144 rfl rfl, jk_t4 145 rfl rfl, jk_t4 146 rfl rfl, rfl⟩
set_option maxRecDepth 20000 in
theorem kL_122 : jk_kV RL 122 yX11_channel Fr_X11_channel 0 11 := ⟨kc_X11_channel, rfl, jk_t7 59 rfl rfl, jk_t7 60 rfl rfl, jk_t7 61 rfl rfl, rfl⟩
set_option maxRecDepth 20000 in
theorem kL_123 : jk_kV RL 123 yX10_rests Fr_X10_rests 0 10 := ⟨kc_X10_rests, rfl, jk_t4 148 rfl rfl, jk_t4 149 rfl rfl, jk_t4 150 rfl rfl, rfl⟩
set_option maxRecDepth 20000 in
theorem kL_126 : jk_kV RL 126 yX11_rests Fr_X11_rests 0 11 := ⟨kc_X11_rests, rfl, jk_t7 63 rfl rfl, jk_t7 64 rfl rfl, jk_t7 65 rfl rfl, rfl⟩
set_option maxRecDepth 20000 in
theorem kL_127 : jk_kV RL 127 yX10_goesTo Fr_X10_goesTo 2 10 := ⟨kc_X10_goesTo, rfl, jk_t4 176 rfl rfl, jk_t4 177 rfl rfl, jk_t4 178 rfl rfl, rfl⟩
set_option maxRecDepth 20000 in
theorem kL_130 : jk_kV RL 130 yX11_goesTo Fr_X11_goesTo 2 11 := ⟨kc_X11_goesTo, rfl, jk_t7 79 rfl rfl, jk_t7 80 rfl rfl, jk_t7 81 rfl rfl, rfl⟩
set_option maxRecDepth 20000 in
theorem kL_131 : jk_kV RL 131 yX10_moved Fr_X10_moved 0 10 := ⟨kc_X10_moved, rfl, jk_t4 181 rfl rfl, jk_t4 182 rfl rfl, jk_t4 183 rfl rfl, rfl⟩
set_option maxRecDepth 20000 in
theorem kL_134 : jk_kV RL 134 yX11_moved Fr_X11_moved 0 11 := ⟨kc_X11_moved, rfl, jk_t7 83 rfl rfl, jk_t7 84 rfl rfl, jk_t7 85 rfl rfl, rfl⟩
set_option maxRecDepth 20000 in
theorem kL_135 : jk_kV RL 135 yX10_doors Fr_X10_doors 0 10 := ⟨kc_X10_doors, rfl, jk_t4 192 rfl rfl, jk_t4 193 rfl rfl, jk_t4 194 rfl rfl, rfl⟩
set_option maxRecDepth 20000 in
theorem kL_138 : jk_kV RL 138 yX11_doors Fr_X11_doors 0 11 := ⟨kc_X11_doors, rfl, jk_t7 87 rfl rfl, jk_t7 88 rfl rfl, jk_t7 89 rfl rfl, rfl⟩
set_option maxRecDepth 20000 in
theorem kL_139 : jk_kV RL 139 yX10_count Fr_X10_count 1 10 := ⟨kc_X10_count, rfl, jk_t4 206 rfl rfl, jk_t4 207 rfl rfl, jk_t4 208 rfl rfl, rfl⟩
set_option maxRecDepth 20000 in
theorem kL_142 : jk_kV RL 142 yX11_count Fr_X11_count 1 11 := ⟨kc_X11_count, rfl, jk_t7 91 rfl rfl, jk_t7 92 rfl rfl, jk_t7 93 rfl rfl, rfl⟩
set_option maxRecDepth 20000 in
theorem kL_143 : jk_kV RL 143 yX10_fits Fr_X10_fits 3 10 := ⟨kc_X10_fits, rfl, jk_t4 214 rfl rfl, jk_t4 215 rfl rfl, jk_t4 216 rfl rfl, rfl⟩
set_option maxRecDepth 20000 in
theorem kL_146 : jk_kV RL 146 yX11_fits Fr_X11_fits 3 11 := ⟨kc_X11_fits, rfl, jk_t7 99 rfl rfl, jk_t7 100 rfl rfl, jk_t7 101 rfl rfl, rfl⟩
set_option maxRecDepth 20000 in
theorem kL_147 : jk_kV RL 147 yX10_next Fr_X10_next 2 10 := ⟨kc_X10_next, rfl, jk_t5 3 rfl rfl, jk_t5 4 rfl rfl, jk_t5 5 rfl rfl, rfl⟩
set_option maxRecDepth 20000 in
theorem kL_150 : jk_kV RL 150 yX11_next Fr_X11_next 2 11 := ⟨kc_X11_next, rfl, jk_t7 115 rfl rfl, jk_t7 116 rfl rfl, jk_t7 117 rfl rfl, rfl⟩
set_option maxRecDepth 20000 in
theorem kL_151 : jk_kV RL 151 yX10_near Fr_X10_near 2 10 := ⟨kc_X10_near, rfl, jk_t5 18 rfl rfl, jk_t5 19 rfl rfl, jk_t5 20 rfl rfl, rfl⟩
set_option maxRecDepth 20000 in
theorem kL_154 : jk_kV RL 154 yX11_near Fr_X11_near 2 11 := ⟨kc_X11_near, rfl, jk_t7 123 rfl rfl, jk_t7 124 rfl rfl, jk_t7 125 rfl rfl, rfl⟩
set_option maxRecDepth 20000 in
theorem kL_155 : jk_kV RL 155 yX10_minute Fr_X10_minute 0 10 := ⟨kc_X10_minute, rfl, jk_t5 22 rfl rfl, jk_t5 23 rfl rfl, jk_t5 24 rfl rfl, rfl⟩
set_option maxRecDepth 20000 in
theorem kL_158 : jk_kV RL 158 yX11_minute Fr_X11_minute 0 11 := ⟨kc_X11_minute, rfl, jk_t7 127 rfl rfl, jk_t7 128 rfl rfl, jk_t7 129 rfl rfl, rfl⟩
set_option maxRecDepth 20000 in
theorem kL_159 : jk_kV RL 159 yX10_blame Fr_X10_blame 1 10 := ⟨kc_X10_blame, rfl, jk_t5 31 rfl rfl, jk_t5 32 rfl rfl, jk_t5 33 rfl rfl, rfl⟩
set_option maxRecDepth 20000 in
theorem kL_162 : jk_kV RL 162 yX11_blame Fr_X11_blame 1 11 := ⟨kc_X11_blame, rfl, jk_t7 131 rfl rfl, jk_t7 132 rfl rfl, jk_t7 133 rfl rfl, rfl⟩
set_option maxRecDepth 20000 in
theorem kL_163 : jk_kV RL 163 yX10_judge Fr_X10_judge 2 10 := ⟨kc_X10_judge, rfl, jk_t5 35 rfl rfl, jk_t5 36 rfl rfl, jk_t5 37 rfl rfl, rfl⟩
set_option maxRecDepth 20000 in
theorem kL_166 : jk_kV RL 166 yX11_judge Fr_X11_judge 2 11 := ⟨kc_X11_judge, rfl, jk_t7 135 rfl rfl, jk_t7 136 rfl rfl, jk_t7 137 rfl rfl, rfl⟩
set_option maxRecDepth 20000 in
theorem kL_167 : jk_kV RL 167 yX10_hops Fr_X10_hops 3 10 := ⟨kc_X10_hops, rfl, jk_t5 43 rfl rfl, jk_t5 44 rfl rfl, jk_t5 45 rfl rfl, rfl⟩
set_option maxRecDepth 20000 in
theorem kL_170 : jk_kV RL 170 yX11_hops Fr_X11_hops 3 11 := ⟨kc_X11_hops, rfl, jk_t7 143 rfl rfl, jk_t7 144 rfl rfl, jk_t7 145 rfl rfl, rfl⟩
set_option maxRecDepth 20000 in
theorem kL_171 : jk_kV RL 171 yX10_evening Fr_X10_evening 2 10 := ⟨kc_X10_evening, rfl, jk_t5 59 rfl rfl, jk_t5 60 rfl rfl, jk_t5 61 rfl rfl, rfl⟩
set_option maxRecDepth 20000 in
theorem kL_174 : jk_kV RL 174 yX11_evening Fr_X11_evening 2 11 := ⟨kc_X11_evening, rfl, jk_t7 155 rfl rfl, jk_t7 156 rfl rfl, jk_t7 157 rfl rfl, rfl⟩
set_option maxRecDepth 20000 in
theorem kL_175 : jk_kV RL 175 yX10_weeks Fr_X10_weeks 1 10 := ⟨kc_X10_weeks, rfl, jk_t5 68 rfl rfl, jk_t5 69 rfl rfl, jk_t5 70 rfl rfl, rfl⟩
set_option maxRecDepth 20000 in
theorem kL_178 : jk_kV RL 178 yX11_weeks Fr_X11_weeks 1 11 := ⟨kc_X11_weeks, rfl, jk_t7 163 rfl rfl, jk_t7 164 rfl rfl, jk_t7 165 rfl rfl, rfl⟩
set_option maxRecDepth 20000 in
theorem kL_179 : jk_kV RL 179 yX10_seed Fr_X10_seed 1 10 := ⟨kc_X10_seed, rfl, jk_t5 85 rfl rfl, jk_t5 86 rfl rfl, jk_t5 87 rfl rfl, rfl⟩
set_option maxRecDepth 20000 in
theorem kL_182 : jk_kV RL 182 yX11_seed Fr_X11_seed 1 11 := ⟨kc_X11_seed, rfl, jk_t7 172 rfl rfl, jk_t7 173 rfl rfl, jk_t7 174 rfl rfl, rfl⟩
set_option maxRecDepth 20000 in
theorem kL_183 : jk_kV RL 183 yX10_act Fr_X10_act 3 10 := ⟨kc_X10_act, rfl, jk_t5 89 rfl rfl, jk_t5 90 rfl rfl, jk_t5 91 rfl rfl, rfl⟩
set_option maxRecDepth 20000 in
theorem kL_186 : jk_kV RL 186 yX11_act Fr_X11_act 3 11 := ⟨kc_X11_act, rfl, jk_t7 176 rfl rfl, jk_t7 177 rfl rfl, jk_t7 178 rfl rfl, rfl⟩
set_option maxRecDepth 20000 in
theorem kL_187 : jk_kV RL 187 yX10_trace Fr_X10_trace 1 10 := ⟨kc_X10_trace, rfl, jk_t5 119 rfl rfl, jk_t5 120 rfl rfl, jk_t5 121 rfl rfl, rfl⟩
set_option maxRecDepth 20000 in
theorem kL_190 : jk_kV RL 190 yX11_trace Fr_X11_trace 1 11 := ⟨kc_X11_trace, rfl, jk_t7 196 rfl rfl, jk_t7 197 rfl rfl, jk_t7 198 rfl rfl, rfl⟩
set_option maxRecDepth 20000 in
theorem kL_191 : jk_kV RL 191 yX10_image Fr_X10_image 0 10 := ⟨kc_X10_image, rfl, jk_t5 127 rfl rfl, jk_t5 128 rfl rfl, jk_t5 129 rfl rfl, rfl⟩
set_option maxRecDepth 20000 in
theorem kL_194 : jk_kV RL 194 yX11_image Fr_X11_image 0 11 := ⟨kc_X11_image, rfl, jk_t7 200 rfl rfl, jk_t7 201 rfl rfl, jk_t7 202 rfl rfl, rfl⟩
set_option maxRecDepth 20000 in
theorem kL_195 : jk_kV RL 195 yX10_restore Fr_X10_restore 0 10 := ⟨kc_X10_restore, rfl, jk_t5 131 rfl rfl, jk_t5 132 rfl rfl, jk_t5 133 rfl rfl, rfl⟩
set_option maxRecDepth 20000 in
theorem kL_198 : jk_kV RL 198 yX11_restore Fr_X11_restore 0 11 := ⟨kc_X11_restore, rfl, jk_t7 204 rfl rfl, jk_t7 205 rfl rfl, jk_t7 206 rfl rfl, rfl⟩
set_option maxRecDepth 20000 in
theorem kL_199 : jk_kV RL 199 yX10_status Fr_X10_status 1 10 := ⟨kc_X10_status, rfl, jk_t5 135 rfl rfl, jk_t5 136 rfl rfl, jk_t5 137 rfl rfl, rfl⟩
set_option maxRecDepth 20000 in
theorem kL_202 : jk_kV RL 202 yX11_status Fr_X11_status 1 11 := ⟨kc_X11_status, rfl, jk_t7 208 rfl rfl, jk_t7 209 rfl rfl, jk_t7 210 rfl rfl, rfl⟩
set_option maxRecDepth 20000 in
theorem kX11_126 : jk_kV RX11 126 yX11_isShelf Fr_X11_isShelf 1 11 := ⟨kc_X11_isShelf, rfl, jk_t6 63 rfl rfl, jk_t6 65 rfl rfl, jk_ts 25 rfl rfl, rfl⟩
set_option maxRecDepth 20000 in
theorem kX11_130 : jk_kV RX11 130 yX11_no Fr_X11_no 1 11 := ⟨kc_X11_no, rfl, jk_t6 67 rfl rfl, jk_t6 69 rfl rfl, jk_ts 26 rfl rfl, rfl⟩
set_option maxRecDepth 20000 in
theorem kX11_134 : jk_kV RX11 134 yX11_isThing Fr_X11_isThing 1 11 := ⟨kc_X11_isThing, rfl, jk_t6 87 rfl rfl, jk_t6 89 rfl rfl, jk_ts 27 rfl rfl, rfl⟩
set_option maxRecDepth 20000 in
theorem kX11_137 : jk_kV RX11 137 yX11_hums Fr_X11_hums 2 11 := ⟨kc_X11_hums, rfl, jk_t6 99 rfl rfl, jk_t6 101 rfl rfl, jk_ts 28 rfl rfl, rfl⟩
set_option maxRecDepth 20000 in
theorem kX11_141 : jk_kV RX11 141 yX11_loss Fr_X11_loss 1 11 := ⟨kc_X11_loss, rfl, jk_t6 111 rfl rfl, jk_t6 113 rfl rfl, jk_ts 31 rfl rfl, rfl⟩
set_option maxRecDepth 20000 in
theorem kX11_150 : jk_kV RX11 150 yX11_isFrom Fr_X11_isFrom 3 11 := ⟨kc_X11_isFrom, rfl, jk_t6 119 rfl rfl, jk_t6 121 rfl rfl, jk_ts 32 rfl rfl, rfl⟩
set_option maxRecDepth 20000 in
theorem kX11_154 : jk_kV RX11 154 yX11_isCell Fr_X11_isCell 1 11 := ⟨kc_X11_isCell, rfl, jk_t6 127 rfl rfl, jk_t6 129 rfl rfl, jk_ts 33 rfl rfl, rfl⟩
set_option maxRecDepth 20000 in
theorem kX11_157 : jk_kV RX11 157 yX11_addsThing Fr_X11_addsThing 3 11 := ⟨kc_X11_addsThing, rfl, jk_t6 131 rfl rfl, jk_t6 133 rfl rfl, jk_ts 34 rfl rfl, rfl⟩
set_option maxRecDepth 20000 in
theorem kX11_161 : jk_kV RX11 161 yX11_addsNeighbour Fr_X11_addsNeighbour 2 11 := ⟨kc_X11_addsNeighbour, rfl, jk_t6 139 rfl rfl, jk_t6 141 rfl rfl, jk_ts 35 rfl rfl, rfl⟩
set_option maxRecDepth 20000 in
theorem kX11_164 : jk_kV RX11 164 yX11_addsDevice Fr_X11_addsDevice 3 11 := ⟨kc_X11_addsDevice, rfl, jk_t6 147 rfl rfl, jk_t6 149 rfl rfl, jk_ts 36 rfl rfl, rfl⟩
set_option maxRecDepth 20000 in
theorem kX11_167 : jk_kV RX11 167 yX11_noTen Fr_X11_noTen 1 11 := ⟨kc_X11_noTen, rfl, jk_t6 155 rfl rfl, jk_t6 157 rfl rfl, jk_ts 37 rfl rfl, rfl⟩
set_option maxRecDepth 20000 in
theorem kX11_173 : jk_kV RX11 173 yX11_isAsked Fr_X11_isAsked 2 11 := ⟨kc_X11_isAsked, rfl, jk_t6 163 rfl rfl, jk_t6 165 rfl rfl, jk_ts 38 rfl rfl, rfl⟩
set_option maxRecDepth 20000 in
theorem kX11_177 : jk_kV RX11 177 yX11_tells Fr_X11_tells 2 11 := ⟨kc_X11_tells, rfl, jk_t6 167 rfl rfl, jk_t6 169 rfl rfl, jk_ts 39 rfl rfl, rfl⟩
set_option maxRecDepth 20000 in
theorem kX11_181 : jk_kV RX11 181 yX11_looks Fr_X11_looks 0 11 := ⟨kc_X11_looks, rfl, jk_t6 187 rfl rfl, jk_t6 189 rfl rfl, jk_ts 40 rfl rfl, rfl⟩
set_option maxRecDepth 20000 in
theorem kX11_184 : jk_kV RX11 184 yX11_pace Fr_X11_pace 2 11 := ⟨kc_X11_pace, rfl, jk_t6 195 rfl rfl, jk_t6 197 rfl rfl, jk_ts 42 rfl rfl, rfl⟩
set_option maxRecDepth 20000 in
theorem kX11_187 : jk_kV RX11 187 yX11_best Fr_X11_best 1 11 := ⟨kc_X11_best, rfl, jk_t6 211 rfl rfl, jk_t6 213 rfl rfl, jk_ts 46 rfl rfl, rfl⟩
set_option maxRecDepth 20000 in
theorem kX11_205 : jk_kV RX11 205 yX11_isDigit Fr_X11_isDigit 0 11 := ⟨kc_X11_isDigit, rfl, jk_t7 11 rfl rfl, jk_t7 13 rfl rfl, jk_ts 55 rfl rfl, rfl⟩
set_option maxRecDepth 20000 in
theorem kX11_209 : jk_kV RX11 209 yX11_wrong Fr_X11_wrong 1 11 := ⟨kc_X11_wrong, rfl, jk_t6 239 rfl rfl, jk_t7 1 rfl rfl, jk_ts 52 rfl rfl, rfl⟩
set_option maxRecDepth 20000 in
theorem kX11_212 : jk_kV RX11 212 yX11_stands Fr_X11_stands 1 11 := ⟨kc_X11_stands, rfl, jk_t6 235 rfl rfl, jk_t6 237 rfl rfl, jk_ts 51 rfl rfl, rfl⟩
set_option maxRecDepth 20000 in
theorem kX11_215 : jk_kV RX11 215 yX11_word Fr_X11_word 0 11 := ⟨kc_X11_word, rfl, jk_t7 3 rfl rfl, jk_t7 5 rfl rfl, jk_ts 53 rfl rfl, rfl⟩
set_option maxRecDepth 20000 in
theorem kX11_219 : jk_kV RX11 219 yX11_reads Fr_X11_reads 0 11 := ⟨kc_X11_reads, rfl, jk_t7 7 rfl rfl, jk_t7 9 rfl rfl, jk_ts 54 rfl rfl, rfl⟩
set_option maxRecDepth 20000 in
theorem kX11_222 : jk_kV RX11 222 yX11_isSo Fr_X11_isSo 2 11 := ⟨kc_X11_isSo, rfl, jk_t7 15 rfl rfl, jk_t7 17 rfl rfl, jk_ts 56 rfl rfl, rfl⟩
set_option maxRecDepth 20000 in
theorem kX11_225 : jk_kV RX11 225 yX11_carries Fr_X11_carries 5 11 := ⟨kc_X11_carries, rfl, jk_t6 227 rfl rfl, jk_t6 229 rfl rfl, jk_ts 49 rfl rfl, rfl⟩
set_option maxRecDepth 20000 in
theorem kX11_229 : jk_kV RX11 229 yX11_wanted Fr_X11_wanted 1 11 := ⟨kc_X11_wanted, rfl, jk_t6 219 rfl rfl, jk_t6 221 rfl rfl, jk_ts 47 rfl rfl, rfl⟩
set_option maxRecDepth 20000 in
theorem kX11_232 : jk_kV RX11 232 yX11_all Fr_X11_all 2 11 := ⟨kc_X11_all, rfl, jk_t6 223 rfl rfl, jk_t6 225 rfl rfl, jk_ts 48 rfl rfl, rfl⟩
set_option maxRecDepth 20000 in
theorem kX11_236 : jk_kV RX11 236 yX11_item Fr_X11_item 0 11 := ⟨kc_X11_item, rfl, jk_t6 231 rfl rfl, jk_t6 233 rfl rfl, jk_ts 50 rfl rfl, rfl⟩
set_option maxRecDepth 20000 in
theorem kX11_239 : jk_kV RX11 239 yX11_apart Fr_X11_apart 2 11 := ⟨kc_X11_apart, rfl, jk_t6 107 rfl rfl, jk_t6 109 rfl rfl, jk_ts 30 rfl rfl, rfl⟩
set_option maxRecDepth 20000 in
theorem kX11_242 : jk_kV RX11 242 yX11_far Fr_X11_far 2 11 := ⟨kc_X11_far, rfl, jk_t6 103 rfl rfl, jk_t6 105 rfl rfl, jk_ts 29 rfl rfl, rfl⟩
set_option maxRecDepth 20000 in
theorem kX11_248 : jk_kV RX11 248 yX11_dinOf Fr_X11_dinOf 3 11 := ⟨kc_X11_dinOf, rfl, jk_t6 191 rfl rfl, jk_t6 193 rfl rfl, jk_ts 41 rfl rfl, rfl⟩
set_option maxRecDepth 20000 in
theorem kX11_251 : jk_kV RX11 251 yX11_wayLoss Fr_X11_wayLoss 2 11 := ⟨kc_X11_wayLoss, rfl, jk_t6 207 rfl rfl, jk_t6 209 rfl rfl, jk_ts 45 rfl rfl, rfl⟩
set_option maxRecDepth 20000 in
theorem kX11_254 : jk_kV RX11 254 yX11_strength Fr_X11_strength 2 11 := ⟨kc_X11_strength, rfl, jk_t6 203 rfl rfl, jk_t6 205 rfl rfl, jk_ts 44 rfl rfl, rfl⟩
set_option maxRecDepth 20000 in
theorem kX11_257 : jk_kV RX11 257 yX11_barsAt Fr_X11_barsAt 2 11 := ⟨kc_X11_barsAt, rfl, jk_t6 199 rfl rfl, jk_t6 201 rfl rfl, jk_ts 43 rfl rfl, rfl⟩
set_option maxRecDepth 20000 in
theorem kX11_260 : jk_kV RX11 260 yX11_filledNow Fr_X11_filledNow 0 11 := ⟨kc_X11_filledNow, rfl, jk_t7 39 rfl rfl, jk_t7 41 rfl rfl, jk_ts 57 rfl rfl, rfl⟩
set_option maxRecDepth 20000 in
theorem kX11_263 : jk_kV RX11 263 yX11_served Fr_X11_served 0 11 := ⟨kc_X11_served, rfl, jk_t7 43 rfl rfl, jk_t7 45 rfl rfl, jk_ts 58 rfl rfl, rfl⟩
set_option maxRecDepth 20000 in
theorem kX11_269 : jk_kV RX11 269 yX11_bestPlace Fr_X11_bestPlace 1 11 := ⟨kc_X11_bestPlace, rfl, jk_t7 55 rfl rfl, jk_t7 57 rfl rfl, jk_ts 60 rfl rfl, rfl⟩
set_option maxRecDepth 20000 in
theorem kX11_272 : jk_kV RX11 272 yX11_bestTwo Fr_X11_bestTwo 0 11 := ⟨kc_X11_bestTwo, rfl, jk_t7 51 rfl rfl, jk_t7 53 rfl rfl, jk_ts 59 rfl rfl, rfl⟩
set_option maxRecDepth 20000 in
theorem kX11_275 : jk_kV RX11 275 yX11_madeAt Fr_X11_madeAt 2 11 := ⟨kc_X11_madeAt, rfl, jk_t7 75 rfl rfl, jk_t7 77 rfl rfl, jk_ts 63 rfl rfl, rfl⟩
set_option maxRecDepth 20000 in
theorem kX11_278 : jk_kV RX11 278 yX11_doesRound Fr_X11_doesRound 0 11 := ⟨kc_X11_doesRound, rfl, jk_t7 71 rfl rfl, jk_t7 73 rfl rfl, jk_ts 62 rfl rfl, rfl⟩
set_option maxRecDepth 20000 in
theorem kX11_281 : jk_kV RX11 281 yX11_goes Fr_X11_goes 1 11 := ⟨kc_X11_goes, rfl, jk_t7 67 rfl rfl, jk_t7 69 rfl rfl, jk_ts 61 rfl rfl, rfl⟩
set_option maxRecDepth 20000 in
theorem kX11_284 : jk_kV RX11 284 yX11_better Fr_X11_better 1 11 := ⟨kc_X11_better, rfl, jk_t7 95 rfl rfl, jk_t7 97 rfl rfl, jk_ts 64 rfl rfl, rfl⟩
set_option maxRecDepth 20000 in
theorem kX11_287 : jk_kV RX11 287 yX11_intAt Fr_X11_intAt 2 11 := ⟨kc_X11_intAt, rfl, jk_t7 107 rfl rfl, jk_t7 109 rfl rfl, jk_ts 66 rfl rfl, rfl⟩
set_option maxRecDepth 20000 in
theorem kX11_293 : jk_kV RX11 293 yX11_barsOfFits Fr_X11_barsOfFits 2 11 := ⟨kc_X11_barsOfFits, rfl, jk_t7 103 rfl rfl, jk_t7 105 rfl rfl, jk_ts 65 rfl rfl, rfl⟩
set_option maxRecDepth 20000 in
theorem kX11_296 : jk_kV RX11 296 yX11_findsFits Fr_X11_findsFits 2 11 := ⟨kc_X11_findsFits, rfl, jk_t7 111 rfl rfl, jk_t7 113 rfl rfl, jk_ts 67 rfl rfl, rfl⟩
set_option maxRecDepth 20000 in
theorem kX11_299 : jk_kV RX11 299 yX11_worstAt Fr_X11_worstAt 1 11 := ⟨kc_X11_worstAt, rfl, jk_t7 119 rfl rfl, jk_t7 121 rfl rfl, jk_ts 68 rfl rfl, rfl⟩
set_option maxRecDepth 20000 in
theorem kX11_302 : jk_kV RX11 302 yX11_wrongIn Fr_X11_wrongIn 2 11 := ⟨kc_X11_wrongIn, rfl, jk_t7 139 rfl rfl, jk_t7 141 rfl rfl, jk_ts 69 rfl rfl, rfl⟩
set_option maxRecDepth 20000 in
theorem kX11_305 : jk_kV RX11 305 yX11_letsGo Fr_X11_letsGo 3 11 := ⟨kc_X11_letsGo, rfl, jk_t7 151 rfl rfl, jk_t7 153 rfl rfl, jk_ts 71 rfl rfl, rfl⟩
set_option maxRecDepth 20000 in
theorem kX11_308 : jk_kV RX11 308 yX11_hopsBy Fr_X11_hopsBy 3 11 := ⟨kc_X11_hopsBy, rfl, jk_t7 147 rfl rfl, jk_t7 149 rfl rfl, jk_ts 70 rfl rfl, rfl⟩
set_option maxRecDepth 20000 in
theorem kX11_311 : jk_kV RX11 311 yX11_passes Fr_X11_passes 1 11 := ⟨kc_X11_passes, rfl, jk_t7 159 rfl rfl, jk_t7 161 rfl rfl, jk_ts 72 rfl rfl, rfl⟩
set_option maxRecDepth 20000 in
theorem kX11_315 : jk_kV RX11 315 yX11_draw Fr_X11_draw 1 11 := ⟨kc_X11_draw, rfl, jk_t7 167 rfl rfl, jk_t7 169 rfl rfl, jk_ts 73 rfl rfl, rfl⟩
set_option maxRecDepth 20000 in
theorem kX11_321 : jk_kV RX11 321 yX11_body Fr_X11_body 1 11 := ⟨kc_X11_body, rfl, jk_t7 184 rfl rfl, jk_t7 186 rfl rfl, jk_ts 75 rfl rfl, rfl⟩
set_option maxRecDepth 20000 in
theorem kX11_325 : jk_kV RX11 325 yX11_standing Fr_X11_standing 2 11 := ⟨kc_X11_standing, rfl, jk_t7 180 rfl rfl, jk_t7 182 rfl rfl, jk_ts 74 rfl rfl, rfl⟩
set_option maxRecDepth 20000 in
theorem kX11_328 : jk_kV RX11 328 yX11_taking Fr_X11_taking 2 11 := ⟨kc_X11_taking, rfl, jk_t7 188 rfl rfl, jk_t7 190 rfl rfl, jk_ts 76 rfl rfl, rfl⟩
set_option maxRecDepth 20000 in
theorem kX11_331 : jk_kV RX11 331 yX11_humsTo Fr_X11_humsTo 2 11 := ⟨kc_X11_humsTo, rfl, jk_t7 192 rfl rfl, jk_t7 194 rfl rfl, jk_ts 77 rfl rfl, rfl⟩
set_option maxRecDepth 20000 in
theorem kJ0_335 : jk_kVs RJ0 335 yJ0_coder_7d493 Fr_J0_coder_7d493 0 := ⟨kc_J0_coder_7d493, rfl, jk_t3 221 rfl rfl, jk_t3 222 rfl rfl, jk_t3 223 rfl rfl, rfl⟩
set_option maxRecDepth 20000 in
theorem kJ0_492 : jk_kVs RJ0 492 yJ0_isLatin1_aae02 Fr_J0_isLatin1_aae02 0 := ⟨kc_J0_isLatin1_aae02, rfl, jk_t3 231 rfl rfl, jk_t3 232 rfl rfl, jk_t3 233 rfl rfl, rfl⟩
set_option maxRecDepth 20000 in
theorem kJ0_495 : jk_kS RJ0 495 yJ1_charAt_3b067 Fr_J1_charAt_3b067 2 := ⟨kc_J1_charAt_3b067, rfl, jk_t3 235 rfl rfl, jk_t3 236 rfl rfl⟩
set_option maxRecDepth 20000 in
theorem kJ0_498 : jk_kS RJ0 498 yJ2_charAt_3b067 Fr_J2_charAt_3b067 2 := ⟨kc_J2_charAt_3b067, rfl, jk_t4 6 rfl rfl, jk_t4 7 rfl rfl⟩
set_option maxRecDepth 20000 in
theorem kJ0_1059 : jk_kS RJ0 1059 yJ3_checkIndex_8e157 Fr_J3_checkIndex_8e157 3 := ⟨kc_J3_checkIndex_8e157, rfl, jk_t4 3 rfl rfl, jk_t4 4 rfl rfl⟩
set_option maxRecDepth 20000 in
theorem kJ1_9 : jk_kS RJ1 9 yJ0_checkIndex_df160 Fr_J0_checkIndex_df160 2 := ⟨kc_J0_checkIndex_df160, rfl, jk_t3 238 rfl rfl, jk_t3 239 rfl rfl⟩
set_option maxRecDepth 20000 in
theorem kJ2_48 : jk_kS RJ2 48 yJ2_length_9d52b Fr_J2_length_9d52b 1 := ⟨kc_J2_length_9d52b, rfl, jk_t4 12 rfl rfl, jk_t4 13 rfl rfl⟩
set_option maxRecDepth 20000 in
theorem kJ2_67 : jk_kS RJ2 67 yJ2_checkIndex_2214a Fr_J2_checkIndex_2214a 2 := ⟨kc_J2_checkIndex_2214a, rfl, jk_t4 9 rfl rfl, jk_t4 10 rfl rfl⟩
set_option maxRecDepth 20000 in
theorem kJ2_71 : jk_kS RJ2 71 yJ2_getChar_3b067 Fr_J2_getChar_3b067 2 := ⟨kc_J2_getChar_3b067, rfl, jk_t4 16 rfl rfl, jk_t4 17 rfl rfl⟩
set_option maxRecDepth 20000 in
theorem kJ2_414 : jk_kS RJ2 414 yJ0_checkIndex_df160 Fr_J0_checkIndex_df160 2 := ⟨kc_J0_checkIndex_df160, rfl, jk_t4 15 rfl rfl, jk_t3 239 rfl rfl⟩
set_option maxRecDepth 20000 in
theorem nwL_7 : jk_nwC RL 7 10 := ⟨RX10, TX10, 13, cf_10, jk_t1 20 rfl rfl, jk_t1 21 rfl rfl, jk_t1 1 rfl rfl, by decide +kernel⟩
set_option maxRecDepth 20000 in
theorem clL_7 : Cond.classLink RL 7 RX10 ∈ jk_gt := jk_t1 20 rfl rfl
set_option maxRecDepth 20000 in
theorem nwX10_7 : jk_nwC RX10 7 2 := ⟨RX2, TX2, 14, cf_2, jk_t1 28 rfl rfl, jk_t1 29 rfl rfl, jk_t1 2 rfl rfl, by decide +kernel⟩
set_option maxRecDepth 20000 in
theorem clX10_7 : Cond.classLink RX10 7 RX2 ∈ jk_gt := jk_t1 28 rfl rfl
set_option maxRecDepth 20000 in
theorem nwX2_42 : jk_nwC RX2 42 9 := ⟨RX9, TX9, 4, cf_9, jk_t1 34 rfl rfl, jk_t1 38 rfl rfl, jk_t1 3 rfl rfl, by decide +kernel⟩
set_option maxRecDepth 20000 in
theorem clX2_42 : Cond.classLink RX2 42 RX9 ∈ jk_gt := jk_t1 34 rfl rfl
set_option maxRecDepth 20000 in
theorem nwX2_48 : jk_nwC RX2 48 1 := ⟨RX1, TX1, 4, cf_1, jk_t1 36 rfl rfl, jk_t1 72 rfl rfl, jk_t1 4 rfl rfl, by decide +kernel⟩
set_option maxRecDepth 20000 in
theorem clX2_48 : Cond.classLink RX2 48 RX1 ∈ jk_gt := jk_t1 36 rfl rfl
set_option maxRecDepth 20000 in
theorem nwX10_22 : jk_nwC RX10 22 0 := ⟨RX0, TX0, 7, cf_0, jk_t1 175 rfl rfl, jk_t1 176 rfl rfl, jk_t1 5 rfl rfl, by decide +kernel⟩
set_option maxRecDepth 20000 in
theorem clX10_22 : Cond.classLink RX10 22 RX0 ∈ jk_gt := jk_t1 175 rfl rfl
set_option maxRecDepth 20000 in
theorem nwX10_31 : jk_nwC RX10 31 3 := ⟨RX3, TX3, 5, cf_3, jk_t1 204 rfl rfl, jk_t1 205 rfl rfl, jk_t1 6 rfl rfl, by decide +kernel⟩
set_option maxRecDepth 20000 in
theorem clX10_31 : Cond.classLink RX10 31 RX3 ∈ jk_gt := jk_t1 204 rfl rfl
set_option maxRecDepth 20000 in
theorem nwX3_26 : jk_nwC RX3 26 0 := ⟨RX0, TX0, 7, cf_0, jk_t1 210 rfl rfl, jk_t1 176 rfl rfl, jk_t1 5 rfl rfl, by decide +kernel⟩
set_option maxRecDepth 20000 in
theorem clX3_26 : Cond.classLink RX3 26 RX0 ∈ jk_gt := jk_t1 210 rfl rfl
set_option maxRecDepth 20000 in
theorem nwX10_40 : jk_nwC RX10 40 7 := ⟨RX7, TX7, 5, cf_7, jk_t1 228 rfl rfl, jk_t1 229 rfl rfl, jk_t1 7 rfl rfl, by decide +kernel⟩
set_option maxRecDepth 20000 in
theorem clX10_40 : Cond.classLink RX10 40 RX7 ∈ jk_gt := jk_t1 228 rfl rfl
set_option maxRecDepth 20000 in
theorem nwX10_49 : jk_nwC RX10 49 6 := ⟨RX6, TX6, 3, cf_6, jk_t2 11 rfl rfl, jk_t2 12 rfl rfl, jk_t1 8 rfl rfl, by decide +kernel⟩
set_option maxRecDepth 20000 in
theorem clX10_49 : Cond.classLink RX10 49 RX6 ∈ jk_gt := jk_t2 11 rfl rfl
set_option maxRecDepth 20000 in
theorem nwX10_56 : jk_nwC RX10 56 5 := ⟨RX5, TX5, 5, cf_5, jk_t2 27 rfl rfl, jk_t2 28 rfl rfl, jk_t1 9 rfl rfl, by decide +kernel⟩
set_option maxRecDepth 20000 in
theorem clX10_56 : Cond.classLink RX10 56 RX5 ∈ jk_gt := jk_t2 27 rfl rfl
set_option maxRecDepth 20000 in
theorem nwX5_15 : jk_nwC RX5 15 8 := ⟨RX8, TX8, 4, cf_8, jk_t2 33 rfl rfl, jk_t2 34 rfl rfl, jk_t1 10 rfl rfl, by decide +kernel⟩
set_option maxRecDepth 20000 in
theorem clX5_15 : Cond.classLink RX5 15 RX8 ∈ jk_gt := jk_t2 33 rfl rfl
set_option maxRecDepth 20000 in
theorem nwX10_63 : jk_nwC RX10 63 4 := ⟨RX4, TX4, 5, cf_4, jk_t2 74 rfl rfl, jk_t2 75 rfl rfl, jk_t1 11 rfl rfl, by decide +kernel⟩
set_option maxRecDepth 20000 in
theorem clX10_63 : Cond.classLink RX10 63 RX4 ∈ jk_gt := jk_t2 74 rfl rfl
set_option maxRecDepth 20000 in
theorem nwX10_70 : jk_nwC RX10 70 8 := ⟨RX8, TX8, 4, cf_8, jk_t2 100 rfl rfl, jk_t2 34 rfl rfl, jk_t1 10 rfl rfl, by decide +kernel⟩
set_option maxRecDepth 20000 in
theorem clX10_70 : Cond.classLink RX10 70 RX8 ∈ jk_gt := jk_t2 100 rfl rfl
set_option maxRecDepth 20000 in
theorem nwL_10 : jk_nwC RL 10 11 := ⟨RX11, TX11, 51, cf_11, jk_t5 139 rfl rfl, jk_t5 140 rfl rfl, jk_t1 12 rfl rfl, by decide +kernel⟩
set_option maxRecDepth 20000 in
theorem clL_10 : Cond.classLink RL 10 RX11 ∈ jk_gt := jk_t5 139 rfl rfl
set_option maxRecDepth 20000 in
theorem ao_9 : Cond.arrayOver (.object RX9) ∈ jk_ns := jk_n1 35 rfl rfl
set_option maxRecDepth 20000 in
theorem ao_1 : Cond.arrayOver (.object RX1) ∈ jk_ns := jk_n1 37 rfl rfl
set_option maxRecDepth 20000 in
theorem ao_8 : Cond.arrayOver (.object RX8) ∈ jk_ns := jk_n2 101 rfl rfl
set_option maxRecDepth 20000 in
theorem ac_int : Cond.arrayClass .int ∈ jk_gt := jk_t1 71 rfl rfl
set_option maxRecDepth 20000 in
theorem ac_long : Cond.arrayClass .long ∈ jk_gt := jk_t2 56 rfl rfl
set_option maxRecDepth 20000 in
theorem ac_byte : Cond.arrayClass .byte ∈ jk_gt := jk_t4 66 rfl rfl
set_option maxRecDepth 20000 in
theorem mt_max : Cond.static Lib.Math.max.name ∈ jk_gt ∧ Cond.initialized "java/lang/Math" ∈ jk_gt ∧ Cond.code Lib.Math.max.name Lib.Math.max.code 2 (some .int) ∈ jk_gt := ⟨jk_t2 167 rfl rfl, jk_t1 13 rfl rfl, jk_t2 168 rfl rfl⟩
set_option maxRecDepth 20000 in
theorem mt_min : Cond.static Lib.Math.min.name ∈ jk_gt ∧ Cond.initialized "java/lang/Math" ∈ jk_gt ∧ Cond.code Lib.Math.min.name Lib.Math.min.code 2 (some .int) ∈ jk_gt := ⟨jk_t2 164 rfl rfl, jk_t1 13 rfl rfl, jk_t2 165 rfl rfl⟩
set_option maxRecDepth 20000 in
theorem mt_abs : Cond.static Lib.Math.abs.name ∈ jk_gt ∧ Cond.initialized "java/lang/Math" ∈ jk_gt ∧ Cond.code Lib.Math.abs.name Lib.Math.abs.code 1 (some .int) ∈ jk_gt := ⟨jk_t3 138 rfl rfl, jk_t1 13 rfl rfl, jk_t3 139 rfl rfl⟩
set_option maxRecDepth 20000 in
theorem mX10_1 : Cond.methodLink RX10 1 Lib.objectInit ∈ jk_gt := jk_t1 25 rfl rfl
set_option maxRecDepth 20000 in
theorem mX2_3 : Cond.methodLink RX2 3 Lib.objectInit ∈ jk_gt := jk_t1 33 rfl rfl
set_option maxRecDepth 20000 in
theorem mX9_3 : Cond.methodLink RX9 3 Lib.objectInit ∈ jk_gt := jk_t1 42 rfl rfl
set_option maxRecDepth 20000 in
theorem mX1_1 : Cond.methodLink RX1 1 Lib.objectInit ∈ jk_gt := jk_t1 76 rfl rfl
set_option maxRecDepth 20000 in
theorem mX0_3 : Cond.methodLink RX0 3 Lib.objectInit ∈ jk_gt := jk_t1 180 rfl rfl
set_option maxRecDepth 20000 in
theorem mX3_3 : Cond.methodLink RX3 3 Lib.objectInit ∈ jk_gt := jk_t1 209 rfl rfl
set_option maxRecDepth 20000 in
theorem mX7_3 : Cond.methodLink RX7 3 Lib.objectInit ∈ jk_gt := jk_t1 233 rfl rfl
set_option maxRecDepth 20000 in
theorem mX6_3 : Cond.methodLink RX6 3 Lib.objectInit ∈ jk_gt := jk_t2 16 rfl rfl
set_option maxRecDepth 20000 in
theorem mX5_3 : Cond.methodLink RX5 3 Lib.objectInit ∈ jk_gt := jk_t2 32 rfl rfl
set_option maxRecDepth 20000 in
theorem mX8_3 : Cond.methodLink RX8 3 Lib.objectInit ∈ jk_gt := jk_t2 38 rfl rfl
set_option maxRecDepth 20000 in
theorem mX4_3 : Cond.methodLink RX4 3 Lib.objectInit ∈ jk_gt := jk_t2 79 rfl rfl
set_option maxRecDepth 20000 in
theorem mX8_28 : Cond.methodLink RX8 28 Lib.Math.min.name ∈ jk_gt := jk_t2 163 rfl rfl
set_option maxRecDepth 20000 in
theorem mX8_34 : Cond.methodLink RX8 34 Lib.Math.max.name ∈ jk_gt := jk_t2 166 rfl rfl
set_option maxRecDepth 20000 in
theorem mX8_55 : Cond.methodLink RX8 55 arraycopyName ∈ jk_gt := jk_t2 212 rfl rfl
set_option maxRecDepth 20000 in
theorem mX9_33 : Cond.methodLink RX9 33 Lib.Math.max.name ∈ jk_gt := jk_t3 30 rfl rfl
set_option maxRecDepth 20000 in
theorem mX10_388 : Cond.methodLink RX10 388 Lib.Math.abs.name ∈ jk_gt := jk_t3 137 rfl rfl
set_option maxRecDepth 20000 in
theorem mX10_240 : Cond.methodLink RX10 240 Lib.Math.max.name ∈ jk_gt := jk_t3 140 rfl rfl
set_option maxRecDepth 20000 in
theorem mX0_90 : Cond.methodLink RX0 90 Lib.Math.min.name ∈ jk_gt := jk_t3 165 rfl rfl
set_option maxRecDepth 20000 in
theorem mX0_104 : Cond.methodLink RX0 104 Lib.Math.max.name ∈ jk_gt := jk_t3 171 rfl rfl
set_option maxRecDepth 20000 in
theorem mX10_318 : Cond.methodLink RX10 318 Lib.Math.min.name ∈ jk_gt := jk_t3 175 rfl rfl
set_option maxRecDepth 20000 in
theorem mX5_81 : Cond.methodLink RX5 81 Lib.Math.max.name ∈ jk_gt := jk_t4 34 rfl rfl
set_option maxRecDepth 20000 in
theorem mX6_28 : Cond.methodLink RX6 28 Lib.Math.min.name ∈ jk_gt := jk_t4 156 rfl rfl
set_option maxRecDepth 20000 in
theorem mX7_70 : Cond.methodLink RX7 70 Lib.Math.max.name ∈ jk_gt := jk_t5 17 rfl rfl
set_option maxRecDepth 20000 in
theorem mX11_1 : Cond.methodLink RX11 1 Lib.objectInit ∈ jk_gt := jk_t5 144 rfl rfl
set_option maxRecDepth 20000 in
theorem ob_init : Cond.instanceMethod Lib.objectInit ∈ jk_gt ∧ Cond.code Lib.objectInit ⟨#[0xb1]⟩ 1 none ∈ jk_gt := ⟨jk_t1 26 rfl rfl, jk_t1 27 rfl rfl⟩
set_option maxRecDepth 20000 in
theorem ar_copy : Cond.native arraycopyName ∈ jk_gt ∧ Cond.static arraycopyName ∈ jk_gt ∧ Cond.initialized "java/lang/System" ∈ jk_gt := ⟨jk_t2 214 rfl rfl, jk_t2 213 rfl rfl, jk_t1 15 rfl rfl⟩
set_option maxRecDepth 20000 in
theorem sX10_391 : Cond.fieldLink RX10 391 RX10 "ABOVE" "[I" ∈ jk_gt := jk_t3 25 rfl rfl
set_option maxRecDepth 20000 in
theorem sJ0_38 : Cond.fieldLink RJ0 38 RJ0 "COMPACT_STRINGS" "Z" ∈ jk_gt := jk_t3 225 rfl rfl
set_option maxRecDepth 20000 in
theorem sJ0_1053 : Cond.fieldLink RJ0 1053 RJ3 "SIOOBE_FORMATTER" "Ljava/util/function/BiFunction;" ∈ jk_gt := jk_t4 1 rfl rfl
set_option maxRecDepth 20000 in
theorem sX5_146 : Cond.fieldLink RX5 146 RX5 "SORTS" "[I" ∈ jk_gt := jk_t4 42 rfl rfl
set_option maxRecDepth 20000 in
theorem sX4_32 : Cond.fieldLink RX4 32 RX4 "BODIES" "[I" ∈ jk_gt := jk_t5 110 rfl rfl
set_option maxRecDepth 20000 in
theorem sJ0_9 : Cond.fieldLink RJ0 9 "java/lang/String" "value" "[B" ∈ jk_gt := jk_t7 213 rfl rfl
set_option maxRecDepth 20000 in
theorem sJ0_15 : Cond.fieldLink RJ0 15 "java/lang/String" "coder" "B" ∈ jk_gt := jk_t7 214 rfl rfl
set_option maxRecDepth 20000 in
theorem sX2_89 : Cond.fieldLinkNest RX2 89 RX10 "LEAST" "[I" "TwoBarsByTheWindow" ∈ jk_ns := jk_n3 12 rfl rfl
set_option maxRecDepth 20000 in
theorem sX2_92 : Cond.fieldLinkNest RX2 92 RX10 "MOST" "[I" "TwoBarsByTheWindow" ∈ jk_ns := jk_n3 14 rfl rfl
set_option maxRecDepth 20000 in
theorem sX9_25 : Cond.fieldLinkNest RX9 25 RX10 "ABOVE" "[I" "TwoBarsByTheWindow" ∈ jk_ns := jk_n3 20 rfl rfl
set_option maxRecDepth 20000 in
theorem ckX2_122 : Cond.constant RX2 122 (1103515245 : Int32) ∈ jk_gt := jk_t5 80 rfl rfl
set_option maxRecDepth 20000 in
theorem ckX11_314 : Cond.constant RX11 314 (1103515245 : Int32) ∈ jk_gt := jk_t7 171 rfl rfl
set_option maxRecDepth 20000 in
theorem ckL_18 : Cond.constantLong RL 18 (4294967295 : Int64) ∈ jk_gt := jk_t7 212 rfl rfl
