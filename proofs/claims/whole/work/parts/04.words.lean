theorem gI0 {w : Cond} (h : w ∈ k2_sels lw_privs) : w ∈ lw_tbl := List.mem_append_left _ h
theorem gI1 {w : Cond} (h : w ∈ tables_1_1) : w ∈ lw_tbl := List.mem_append_right _ (List.mem_append_left _ h)
theorem gI2 {w : Cond} (h : w ∈ tables_1_2) : w ∈ lw_tbl := List.mem_append_right _ (List.mem_append_right _ (List.mem_append_left _ h))
theorem gI3 {w : Cond} (h : w ∈ tables_1_3) : w ∈ lw_tbl := List.mem_append_right _ (List.mem_append_right _ (List.mem_append_right _ (List.mem_append_left _ h)))
theorem gI4 {w : Cond} (h : w ∈ tables_1_4) : w ∈ lw_tbl := List.mem_append_right _ (List.mem_append_right _ (List.mem_append_right _ (List.mem_append_right _ (List.mem_append_left _ h))))
theorem gI5 {w : Cond} (h : w ∈ tables_1_5) : w ∈ lw_tbl := List.mem_append_right _ (List.mem_append_right _ (List.mem_append_right _ (List.mem_append_right _ (List.mem_append_right _ (List.mem_append_left _ h)))))
theorem gI6 {w : Cond} (h : w ∈ tables_1_6) : w ∈ lw_tbl := List.mem_append_right _ (List.mem_append_right _ (List.mem_append_right _ (List.mem_append_right _ (List.mem_append_right _ (List.mem_append_right _ (List.mem_append_left _ h))))))
theorem gI7 {w : Cond} (h : w ∈ tables_1_7) : w ∈ lw_tbl := List.mem_append_right _ (List.mem_append_right _ (List.mem_append_right _ (List.mem_append_right _ (List.mem_append_right _ (List.mem_append_right _ (List.mem_append_right _ (List.mem_append_left _ h)))))))
theorem gI8 {w : Cond} (h : w ∈ tables_1_8) : w ∈ lw_tbl := List.mem_append_right _ (List.mem_append_right _ (List.mem_append_right _ (List.mem_append_right _ (List.mem_append_right _ (List.mem_append_right _ (List.mem_append_right _ (List.mem_append_right _ h)))))))
def mX0_init : gM := (yX0_init, cX0_init, 1, none, [])
def mX0_copyFrom : gM := (yX0_copyFrom, cX0_copyFrom, 2, none, [])
def mX0_index : gM := (yX0_index, cX0_index, 2, some (.int), [])
def mX0_tell : gM := (yX0_tell, cX0_tell, 4, none, [])
def mX0_setRule : gM := (yX0_setRule, cX0_setRule, 5, none, [])
def mX0_valueOf : gM := (yX0_valueOf, cX0_valueOf, 6, some (.int), [])
def mX0_ruleCount : gM := (yX0_ruleCount, cX0_ruleCount, 5, some (.int), [])
def mX0_leaderGlyph : gM := (yX0_leaderGlyph, cX0_leaderGlyph, 4, some (.int), [])
def mX0_leaderSide : gM := (yX0_leaderSide, cX0_leaderSide, 4, some (.int), [])
def mX0_leadsTo : gM := (yX0_leadsTo, cX0_leadsTo, 5, some (.boolean), [])
def mX0_followerCount : gM := (yX0_followerCount, cX0_followerCount, 6, some (.int), [])
def mX0_ruleSum : gM := (yX0_ruleSum, cX0_ruleSum, 3, some (.int), [])
def mX1_init : gM := (yX1_init, cX1_init, 1, none, [])
def mX1_copyFrom : gM := (yX1_copyFrom, cX1_copyFrom, 2, none, [])
def mX1_advanceOf : gM := (yX1_advanceOf, cX1_advanceOf, 2, some (.int), [])
def mX1_advanceSum : gM := (yX1_advanceSum, cX1_advanceSum, 3, some (.int), [])
def mX1_kernedPairSum : gM := (yX1_kernedPairSum, cX1_kernedPairSum, 4, some (.int), [])
def mX2_init : gM := (yX2_init, cX2_init, 1, none, [])
def mX2_faultIn : gM := (yX2_faultIn, cX2_faultIn, 3, some (.int), [])
def mX2_code : gM := (yX2_code, cX2_code, 1, some (.int), [])
def mX2_fitsIntoGlyph : gM := (yX2_fitsIntoGlyph, cX2_fitsIntoGlyph, 2, some (.boolean), [])
def mX2_drawInto : gM := (yX2_drawInto, cX2_drawInto, 8, none, [])
def mX2_accepts : gM := (yX2_accepts, cX2_accepts, 2, some (.boolean), [])
def mX2_acceptsCode : gM := (yX2_acceptsCode, cX2_acceptsCode, 2, some (.boolean), [])
def mX2_acceptsOpening : gM := (yX2_acceptsOpening, cX2_acceptsOpening, 2, some (.boolean), [])
def mX2_beginCoordinate : gM := (yX2_beginCoordinate, cX2_beginCoordinate, 2, none, [])
def mX2_acceptsMinus : gM := (yX2_acceptsMinus, cX2_acceptsMinus, 2, some (.boolean), [])
def mX2_acceptsFirstDigit : gM := (yX2_acceptsFirstDigit, cX2_acceptsFirstDigit, 2, some (.boolean), [])
def mX2_acceptsNextDigit : gM := (yX2_acceptsNextDigit, cX2_acceptsNextDigit, 2, some (.boolean), [])
def mX2_acceptsEndOfNumber : gM := (yX2_acceptsEndOfNumber, cX2_acceptsEndOfNumber, 2, some (.boolean), [])
def mX2_acceptsComma : gM := (yX2_acceptsComma, cX2_acceptsComma, 2, some (.boolean), [])
def mX2_acceptsEndOfPoint : gM := (yX2_acceptsEndOfPoint, cX2_acceptsEndOfPoint, 2, some (.boolean), [])
def mX2_signedValue : gM := (yX2_signedValue, cX2_signedValue, 1, some (.int), [])
def mX2_isDigit : gM := (yX2_isDigit, cX2_isDigit, 1, some (.boolean), [])
def mX3_init : gM := (yX3_init, cX3_init, 2, none, [])
def mX3_size : gM := (yX3_size, cX3_size, 1, some (.int), [])
def mX3_remember : gM := (yX3_remember, cX3_remember, 3, none, [])
def mX3_takeBack : gM := (yX3_takeBack, cX3_takeBack, 3, none, [])
def mX3_forget : gM := (yX3_forget, cX3_forget, 1, none, [])
def mX3_slot : gM := (yX3_slot, cX3_slot, 2, some (.object "TypeDesigner$Design"), [])
def mX4_init : gM := (yX4_init, cX4_init, 1, none, [])
def mX4_copyFrom : gM := (yX4_copyFrom, cX4_copyFrom, 2, none, [])
def mX4_classOf : gM := (yX4_classOf, cX4_classOf, 3, some (.int), [])
def mX4_putIntoClass : gM := (yX4_putIntoClass, cX4_putIntoClass, 5, none, [])
def mX4_areClasses : gM := (yX4_areClasses, cX4_areClasses, 2, some (.boolean), [])
def mX4_isClassKernTold : gM := (yX4_isClassKernTold, cX4_isClassKernTold, 3, some (.boolean), [])
def mX4_isPairTold : gM := (yX4_isPairTold, cX4_isPairTold, 3, some (.boolean), [])
def mX4_isToldForClassesOf : gM := (yX4_isToldForClassesOf, cX4_isToldForClassesOf, 3, some (.boolean), [])
def mX4_tellClasses : gM := (yX4_tellClasses, cX4_tellClasses, 4, none, [])
def mX4_tellPair : gM := (yX4_tellPair, cX4_tellPair, 4, none, [])
def mX4_dropClasses : gM := (yX4_dropClasses, cX4_dropClasses, 4, some (.int), [])
def mX4_dropPair : gM := (yX4_dropPair, cX4_dropPair, 4, some (.int), [])
def mX4_classKernCount : gM := (yX4_classKernCount, cX4_classKernCount, 1, some (.int), [])
def mX4_pairKernCount : gM := (yX4_pairKernCount, cX4_pairKernCount, 1, some (.int), [])
def mX4_kernOf : gM := (yX4_kernOf, cX4_kernOf, 3, some (.int), [])
def mX5_init : gM := (yX5_init, cX5_init, 1, none, [])
def mX5_copyFrom : gM := (yX5_copyFrom, cX5_copyFrom, 2, none, [])
def mX5_glyphCount : gM := (yX5_glyphCount, cX5_glyphCount, 1, some (.int), [])
def mX5_isFull : gM := (yX5_isFull, cX5_isFull, 1, some (.boolean), [])
def mX5_codeOf : gM := (yX5_codeOf, cX5_codeOf, 2, some (.int), [])
def mX5_glyphWith : gM := (yX5_glyphWith, cX5_glyphWith, 3, some (.int), [])
def mX5_addEmptyGlyph : gM := (yX5_addEmptyGlyph, cX5_addEmptyGlyph, 3, some (.int), [])
def mX5_contourCount : gM := (yX5_contourCount, cX5_contourCount, 2, some (.int), [])
def mX5_pointCount : gM := (yX5_pointCount, cX5_pointCount, 3, some (.int), [])
def mX5_xOf : gM := (yX5_xOf, cX5_xOf, 4, some (.int), [])
def mX5_yOf : gM := (yX5_yOf, cX5_yOf, 4, some (.int), [])
def mX5_setPoint : gM := (yX5_setPoint, cX5_setPoint, 6, none, [])
def mX5_removeContours : gM := (yX5_removeContours, cX5_removeContours, 2, none, [])
def mX5_addEmptyContour : gM := (yX5_addEmptyContour, cX5_addEmptyContour, 3, some (.int), [])
def mX5_addPoint : gM := (yX5_addPoint, cX5_addPoint, 6, none, [])
def mX5_addBox : gM := (yX5_addBox, cX5_addBox, 7, some (.int), [])
def mX5_moveAll : gM := (yX5_moveAll, cX5_moveAll, 6, none, [])
def mX5_least : gM := (yX5_least, cX5_least, 3, some (.int), [])
def mX5_greatest : gM := (yX5_greatest, cX5_greatest, 3, some (.int), [])
def mX5_extreme : gM := (yX5_extreme, cX5_extreme, 8, some (.int), [])
def mX5_twiceArea : gM := (yX5_twiceArea, cX5_twiceArea, 6, some (.int), [])
def mX5_twiceAreaOf : gM := (yX5_twiceAreaOf, cX5_twiceAreaOf, 4, some (.int), [])
def mX5_pointCountOf : gM := (yX5_pointCountOf, cX5_pointCountOf, 4, some (.int), [])
def mX5_contourSum : gM := (yX5_contourSum, cX5_contourSum, 3, some (.int), [])
def mX5_pointSum : gM := (yX5_pointSum, cX5_pointSum, 3, some (.int), [])
def mX5_blackBits : gM := (yX5_blackBits, cX5_blackBits, 16, some (.long), [])
def mX5_bitsBefore : gM := (yX5_bitsBefore, cX5_bitsBefore, 12, some (.long), [])
def mX5_nextPoint : gM := (yX5_nextPoint, cX5_nextPoint, 4, some (.int), [])
def mX5_contourIndex : gM := (yX5_contourIndex, cX5_contourIndex, 2, some (.int), [])
def mX5_pointIndex : gM := (yX5_pointIndex, cX5_pointIndex, 3, some (.int), [])
def mX6_init : gM := (yX6_init, cX6_init, 1, none, [])
def mX6_isProof : gM := (yX6_isProof, cX6_isProof, 3, some (.boolean), [])
def mX6_take : gM := (yX6_take, cX6_take, 4, none, [])
def mX6_forget : gM := (yX6_forget, cX6_forget, 1, none, [])
def mX6_length : gM := (yX6_length, cX6_length, 1, some (.int), [])
def mX6_set : gM := (yX6_set, cX6_set, 5, none, [])
def mX6_width : gM := (yX6_width, cX6_width, 1, some (.int), [])
def mX6_placeOf : gM := (yX6_placeOf, cX6_placeOf, 2, some (.int), [])
def mX6_breakLines : gM := (yX6_breakLines, cX6_breakLines, 4, none, [])
def mX6_lineCount : gM := (yX6_lineCount, cX6_lineCount, 1, some (.int), [])
def mX6_lineWidth : gM := (yX6_lineWidth, cX6_lineWidth, 2, some (.int), [])
def mX6_lineStart : gM := (yX6_lineStart, cX6_lineStart, 2, some (.int), [])
def mX6_lineWords : gM := (yX6_lineWords, cX6_lineWords, 2, some (.int), [])
def mX6_leastMeasureFor : gM := (yX6_leastMeasureFor, cX6_leastMeasureFor, 4, some (.int), [])
def mX6_isSpace : gM := (yX6_isSpace, cX6_isSpace, 2, some (.boolean), [])
def mX6_putWord : gM := (yX6_putWord, cX6_putWord, 5, none, [])
def mX7_init : gM := (yX7_init, cX7_init, 4, none, [])
def mX7_get : gM := (yX7_get, cX7_get, 2, some (.int), [])
def mX7_put : gM := (yX7_put, cX7_put, 3, none, [])
def mX7_copyFrom : gM := (yX7_copyFrom, cX7_copyFrom, 2, none, [])
def mX8_init : gM := (yX8_init, cX8_init, 1, none, [])
def mX8_copyFrom : gM := (yX8_copyFrom, cX8_copyFrom, 2, none, [])
def mX8_countOf : gM := (yX8_countOf, cX8_countOf, 2, some (.int), [])
def mX8_leftOf : gM := (yX8_leftOf, cX8_leftOf, 3, some (.int), [])
def mX8_rightOf : gM := (yX8_rightOf, cX8_rightOf, 3, some (.int), [])
def mX8_put : gM := (yX8_put, cX8_put, 5, none, [])
def mX8_isTaken : gM := (yX8_isTaken, cX8_isTaken, 5, some (.boolean), [])
def mX8_insert : gM := (yX8_insert, cX8_insert, 5, some (.int), [])
def mX8_takeOut : gM := (yX8_takeOut, cX8_takeOut, 5, some (.int), [])
def mX8_sum : gM := (yX8_sum, cX8_sum, 3, some (.int), [])
def mX8_placeOn : gM := (yX8_placeOn, cX8_placeOn, 10, some (.int), [])
def mX8_rounded : gM := (yX8_rounded, cX8_rounded, 2, some (.int), [])
def mX9_init : gM := (yX9_init, cX9_init, 1, none, [])
def mX9_length : gM := (yX9_length, cX9_length, 1, some (.int), [])
def mX9_isFull : gM := (yX9_isFull, cX9_isFull, 1, some (.boolean), [])
def mX9_signAt : gM := (yX9_signAt, cX9_signAt, 2, some (.int), [])
def mX9_add : gM := (yX9_add, cX9_add, 2, none, [])
def mX9_clear : gM := (yX9_clear, cX9_clear, 1, none, [])
def mX10_init : gM := (yX10_init, cX10_init, 1, none, [])
def mX10_addGlyph : gM := (yX10_addGlyph, cX10_addGlyph, 2, some (.int), [])
def mX10_addContour : gM := (yX10_addContour, cX10_addContour, 6, some (.int), [])
def mX10_movePoint : gM := (yX10_movePoint, cX10_movePoint, 10, some (.int), [])
def mX10_shift : gM := (yX10_shift, cX10_shift, 5, some (.int), [])
def mX10_glyph : gM := (yX10_glyph, cX10_glyph, 3, some (.int), [])
def mX10_find : gM := (yX10_find, cX10_find, 3, some (.int), [])
def mX10_points : gM := (yX10_points, cX10_points, 3, some (.int), [])
def mX10_point : gM := (yX10_point, cX10_point, 5, some (.int), [])
def mX10_area : gM := (yX10_area, cX10_area, 3, some (.int), [])
def mX10_setSide : gM := (yX10_setSide, cX10_setSide, 5, some (.int), [])
def mX10_follow : gM := (yX10_follow, cX10_follow, 7, some (.int), [])
def mX10_side : gM := (yX10_side, cX10_side, 4, some (.int), [])
def mX10_followers : gM := (yX10_followers, cX10_followers, 3, some (.int), [])
def mX10_setClass : gM := (yX10_setClass, cX10_setClass, 5, some (.int), [])
def mX10_kernClasses : gM := (yX10_kernClasses, cX10_kernClasses, 4, some (.int), [])
def mX10_kernPair : gM := (yX10_kernPair, cX10_kernPair, 4, some (.int), [])
def mX10_dropKern : gM := (yX10_dropKern, cX10_dropKern, 5, some (.int), [])
def mX10_kern : gM := (yX10_kern, cX10_kern, 3, some (.int), [])
def mX10_why : gM := (yX10_why, cX10_why, 5, some (.int), [])
def mX10_addStem : gM := (yX10_addStem, cX10_addStem, 4, some (.int), [])
def mX10_removeStem : gM := (yX10_removeStem, cX10_removeStem, 3, some (.int), [])
def mX10_stem : gM := (yX10_stem, cX10_stem, 4, some (.int), [])
def mX10_place : gM := (yX10_place, cX10_place, 4, some (.int), [])
def mX10_isBlack : gM := (yX10_isBlack, cX10_isBlack, 5, some (.boolean), [])
def mX10_blackPixels : gM := (yX10_blackPixels, cX10_blackPixels, 5, some (.int), [])
def mX10_setProof : gM := (yX10_setProof, cX10_setProof, 4, some (.int), [])
def mX10_append : gM := (yX10_append, cX10_append, 2, none, [])
def mX10_takeProof : gM := (yX10_takeProof, cX10_takeProof, 2, some (.int), [])
def mX10_proofWidth : gM := (yX10_proofWidth, cX10_proofWidth, 1, some (.int), [])
def mX10_position : gM := (yX10_position, cX10_position, 2, some (.int), [])
def mX10_lines : gM := (yX10_lines, cX10_lines, 2, some (.int), [])
def mX10_line : gM := (yX10_line, cX10_line, 4, some (.int), [])
def mX10_leastMeasure : gM := (yX10_leastMeasure, cX10_leastMeasure, 3, some (.int), [])
def mX10_meanAdvance : gM := (yX10_meanAdvance, cX10_meanAdvance, 2, some (.double), [])
def mX10_account : gM := (yX10_account, cX10_account, 2, some (.int), [])
def mX10_readGlyph : gM := (yX10_readGlyph, cX10_readGlyph, 3, some (.int), [])
def mX10_faultPosition : gM := (yX10_faultPosition, cX10_faultPosition, 1, some (.int), [])
def mX10_undo : gM := (yX10_undo, cX10_undo, 1, some (.int), [])
def mX10_save : gM := (yX10_save, cX10_save, 1, none, [])
def mX10_restore : gM := (yX10_restore, cX10_restore, 1, none, [])
def mX10_isWithin : gM := (yX10_isWithin, cX10_isWithin, 6, some (.boolean), [])
def mX10_requireGlyph : gM := (yX10_requireGlyph, cX10_requireGlyph, 2, none, [])
def mX10_requireContour : gM := (yX10_requireContour, cX10_requireContour, 3, none, [])
def mX10_requirePoint : gM := (yX10_requirePoint, cX10_requirePoint, 4, none, [])
def mX10_requireSide : gM := (yX10_requireSide, cX10_requireSide, 3, none, [])
def mX10_requireStem : gM := (yX10_requireStem, cX10_requireStem, 3, none, [])
def mX10_requireCoordinates : gM := (yX10_requireCoordinates, cX10_requireCoordinates, 4, none, [])
def mX10_requireKern : gM := (yX10_requireKern, cX10_requireKern, 1, none, [])
def mX10_requireGrid : gM := (yX10_requireGrid, cX10_requireGrid, 2, none, [])
def mX10_requireMeasure : gM := (yX10_requireMeasure, cX10_requireMeasure, 1, none, [])
def mX11_init : gM := (yX11_init, cX11_init, 1, none, [])
def mX11_thrown : gM := (yX11_thrown, cX11_thrown, 1, some (.int), [])
def mX11_in : gM := (yX11_in, cX11_in, 4, some (.boolean), [])
def mX11_isCoordinate : gM := (yX11_isCoordinate, cX11_isCoordinate, 2, some (.boolean), [])
def mX11_at : gM := (yX11_at, cX11_at, 2, some (.int), [])
def mX11_of : gM := (yX11_of, cX11_of, 3, some (.int), [])
def mX11_isGlyph : gM := (yX11_isGlyph, cX11_isGlyph, 2, some (.boolean), [])
def mX11_isContour : gM := (yX11_isContour, cX11_isContour, 3, some (.boolean), [])
def mX11_isPoint : gM := (yX11_isPoint, cX11_isPoint, 4, some (.boolean), [])
def mX11_pointAt : gM := (yX11_pointAt, cX11_pointAt, 3, some (.int), [])
def mX11_change : gM := (yX11_change, cX11_change, 1, none, [])
def mX11_withCode : gM := (yX11_withCode, cX11_withCode, 3, some (.int), [])
def mX11_newGlyph : gM := (yX11_newGlyph, cX11_newGlyph, 4, some (.int), [])
def mX11_addGlyph : gM := (yX11_addGlyph, cX11_addGlyph, 2, some (.int), [])
def mX11_setPoint : gM := (yX11_setPoint, cX11_setPoint, 6, none, [])
def mX11_addContour : gM := (yX11_addContour, cX11_addContour, 8, some (.int), [])
def mX11_movePoint : gM := (yX11_movePoint, cX11_movePoint, 11, some (.int), [])
def mX11_pointsOf : gM := (yX11_pointsOf, cX11_pointsOf, 4, some (.int), [])
def mX11_edge : gM := (yX11_edge, cX11_edge, 8, some (.int), [])
def mX11_shift : gM := (yX11_shift, cX11_shift, 7, some (.int), [])
def mX11_areaOf : gM := (yX11_areaOf, cX11_areaOf, 8, some (.int), [])
def mX11_areas : gM := (yX11_areas, cX11_areas, 4, some (.int), [])
def mX11_glyph : gM := (yX11_glyph, cX11_glyph, 3, some (.int), [])
def mX11_find : gM := (yX11_find, cX11_find, 3, some (.int), [])
def mX11_points : gM := (yX11_points, cX11_points, 3, some (.int), [])
def mX11_point : gM := (yX11_point, cX11_point, 5, some (.int), [])
def mX11_area : gM := (yX11_area, cX11_area, 3, some (.int), [])
def mX11_sideAt : gM := (yX11_sideAt, cX11_sideAt, 2, some (.int), [])
def mX11_followed : gM := (yX11_followed, cX11_followed, 3, some (.int), [])
def mX11_rulesOf : gM := (yX11_rulesOf, cX11_rulesOf, 4, some (.int), [])
def mX11_bearing : gM := (yX11_bearing, cX11_bearing, 4, some (.int), [])
def mX11_advance : gM := (yX11_advance, cX11_advance, 2, some (.int), [])
def mX11_isSide : gM := (yX11_isSide, cX11_isSide, 3, some (.boolean), [])
def mX11_setSide : gM := (yX11_setSide, cX11_setSide, 6, some (.int), [])
def mX11_leadsTo : gM := (yX11_leadsTo, cX11_leadsTo, 4, some (.boolean), [])
def mX11_follow : gM := (yX11_follow, cX11_follow, 7, some (.int), [])
def mX11_side : gM := (yX11_side, cX11_side, 6, some (.int), [])
def mX11_followers : gM := (yX11_followers, cX11_followers, 5, some (.int), [])
def mX11_setClass : gM := (yX11_setClass, cX11_setClass, 6, some (.int), [])
def mX11_isKern : gM := (yX11_isKern, cX11_isKern, 1, some (.boolean), [])
def mX11_isClass : gM := (yX11_isClass, cX11_isClass, 1, some (.boolean), [])
def mX11_classKerns : gM := (yX11_classKerns, cX11_classKerns, 3, some (.int), [])
def mX11_kernClasses : gM := (yX11_kernClasses, cX11_kernClasses, 4, some (.int), [])
def mX11_pairOf : gM := (yX11_pairOf, cX11_pairOf, 4, some (.int), [])
def mX11_kernPair : gM := (yX11_kernPair, cX11_kernPair, 5, some (.int), [])
def mX11_isToldFor : gM := (yX11_isToldFor, cX11_isToldFor, 3, some (.boolean), [])
def mX11_dropKern : gM := (yX11_dropKern, cX11_dropKern, 6, some (.int), [])
def mX11_hasClassKern : gM := (yX11_hasClassKern, cX11_hasClassKern, 3, some (.boolean), [])
def mX11_kernOf : gM := (yX11_kernOf, cX11_kernOf, 4, some (.int), [])
def mX11_kern : gM := (yX11_kern, cX11_kern, 3, some (.int), [])
def mX11_why : gM := (yX11_why, cX11_why, 4, some (.int), [])
def mX11_addStem : gM := (yX11_addStem, cX11_addStem, 9, some (.int), [])
def mX11_isStem : gM := (yX11_isStem, cX11_isStem, 3, some (.boolean), [])
def mX11_removeStem : gM := (yX11_removeStem, cX11_removeStem, 4, some (.int), [])
def mX11_stem : gM := (yX11_stem, cX11_stem, 4, some (.int), [])
def mX11_rounded : gM := (yX11_rounded, cX11_rounded, 2, some (.int), [])
def mX11_placeOf : gM := (yX11_placeOf, cX11_placeOf, 10, some (.int), [])
def mX11_place : gM := (yX11_place, cX11_place, 4, some (.int), [])
def mX11_crosses : gM := (yX11_crosses, cX11_crosses, 18, some (.boolean), [])
def mX11_black : gM := (yX11_black, cX11_black, 11, some (.boolean), [])
def mX11_isBlack : gM := (yX11_isBlack, cX11_isBlack, 5, some (.boolean), [])
def mX11_blackPixels : gM := (yX11_blackPixels, cX11_blackPixels, 6, some (.int), [])
def mX11_setProof : gM := (yX11_setProof, cX11_setProof, 4, some (.int), [])
def mX11_append : gM := (yX11_append, cX11_append, 2, none, [])
def mX11_takeProof : gM := (yX11_takeProof, cX11_takeProof, 3, some (.int), [])
def mX11_widthOf : gM := (yX11_widthOf, cX11_widthOf, 2, some (.int), [])
def mX11_stepOver : gM := (yX11_stepOver, cX11_stepOver, 3, some (.int), [])
def mX11_begins : gM := (yX11_begins, cX11_begins, 4, some (.int), [])
def mX11_proofWidth : gM := (yX11_proofWidth, cX11_proofWidth, 1, some (.int), [])
def mX11_position : gM := (yX11_position, cX11_position, 2, some (.int), [])
def mX11_findWords : gM := (yX11_findWords, cX11_findWords, 4, none, [])
def mX11_more : gM := (yX11_more, cX11_more, 2, some (.int), [])
def mX11_breakLines : gM := (yX11_breakLines, cX11_breakLines, 5, none, [])
def mX11_isMeasure : gM := (yX11_isMeasure, cX11_isMeasure, 1, some (.boolean), [])
def mX11_lines : gM := (yX11_lines, cX11_lines, 2, some (.int), [])
def mX11_line : gM := (yX11_line, cX11_line, 4, some (.int), [])
def mX11_tried : gM := (yX11_tried, cX11_tried, 4, some (.int), [])
def mX11_leastMeasure : gM := (yX11_leastMeasure, cX11_leastMeasure, 6, some (.int), [])
def mX11_advances : gM := (yX11_advances, cX11_advances, 3, some (.int), [])
def mX11_meanAdvance : gM := (yX11_meanAdvance, cX11_meanAdvance, 1, some (.double), [])
def mX11_sumOf : gM := (yX11_sumOf, cX11_sumOf, 4, some (.int), [])
def mX11_kernedPairs : gM := (yX11_kernedPairs, cX11_kernedPairs, 4, some (.int), [])
def mX11_account : gM := (yX11_account, cX11_account, 2, some (.int), [])
def mX11_here : gM := (yX11_here, cX11_here, 1, some (.int), [])
def mX11_wants : gM := (yX11_wants, cX11_wants, 2, none, [])
def mX11_isDigit : gM := (yX11_isDigit, cX11_isDigit, 1, some (.boolean), [])
def mX11_coordinate : gM := (yX11_coordinate, cX11_coordinate, 4, some (.int), [])
def mX11_readContour : gM := (yX11_readContour, cX11_readContour, 6, none, [])
def mX11_readGlyph : gM := (yX11_readGlyph, cX11_readGlyph, 4, some (.int), [])
def mX11_faultPosition : gM := (yX11_faultPosition, cX11_faultPosition, 1, some (.int), [])
def mX11_undo : gM := (yX11_undo, cX11_undo, 1, some (.int), [])
def mX11_save : gM := (yX11_save, cX11_save, 1, none, [])
def mX11_restore : gM := (yX11_restore, cX11_restore, 1, none, [])
def mJ13_bitCount_95d88 : gM := (yJ13_bitCount_95d88, cJ13_bitCount_95d88, 2, some (.int), [])
def mJ9_floorDiv_7cf53 : gM := (yJ9_floorDiv_7cf53, cJ9_floorDiv_7cf53, 3, some (.int), [])
def mJ9_max_7cf53 : gM := (yJ9_max_7cf53, cJ9_max_7cf53, 2, some (.int), [])
def mJ9_min_7cf53 : gM := (yJ9_min_7cf53, cJ9_min_7cf53, 2, some (.int), [])
def mL_addGlyph : gM := (yL_addGlyph, cL_addGlyph, 4, some (.int), [(0, 9, 12, 13), (0, 9, 15, 15)])
def mL_addContour : gM := (yL_addContour, cL_addContour, 8, some (.int), [(0, 16, 19, 21), (0, 16, 23, 13), (0, 16, 27, 15)])
def mL_movePoint : gM := (yL_movePoint, cL_movePoint, 8, some (.int), [(0, 16, 19, 21), (0, 16, 23, 13)])
def mL_shift : gM := (yL_shift, cL_shift, 6, some (.int), [(0, 12, 15, 21), (0, 12, 19, 13)])
def mL_glyph : gM := (yL_glyph, cL_glyph, 5, some (.int), [(0, 10, 13, 21), (0, 10, 17, 13)])
def mL_find : gM := (yL_find, cL_find, 4, some (.int), [(0, 9, 12, 37)])
def mL_points : gM := (yL_points, cL_points, 5, some (.int), [(0, 10, 13, 21)])
def mL_point : gM := (yL_point, cL_point, 7, some (.int), [(0, 14, 17, 21)])
def mL_area : gM := (yL_area, cL_area, 5, some (.int), [(0, 10, 13, 21)])
def mL_setSide : gM := (yL_setSide, cL_setSide, 6, some (.int), [(0, 12, 15, 21), (0, 12, 19, 13)])
def mL_follow : gM := (yL_follow, cL_follow, 8, some (.int), [(0, 16, 19, 21), (0, 16, 23, 13), (0, 16, 27, 55)])
def mL_side : gM := (yL_side, cL_side, 6, some (.int), [(0, 12, 15, 21), (0, 12, 19, 13)])
def mL_followers : gM := (yL_followers, cL_followers, 5, some (.int), [(0, 10, 13, 21)])
def mL_setClass : gM := (yL_setClass, cL_setClass, 6, some (.int), [(0, 12, 15, 21), (0, 12, 19, 13)])
def mL_kernClasses : gM := (yL_kernClasses, cL_kernClasses, 6, some (.int), [(0, 12, 15, 21), (0, 12, 19, 13)])
def mL_kernPair : gM := (yL_kernPair, cL_kernPair, 6, some (.int), [(0, 12, 15, 21), (0, 12, 19, 13), (0, 12, 23, 15)])
def mL_dropKern : gM := (yL_dropKern, cL_dropKern, 6, some (.int), [(0, 12, 15, 37)])
def mL_kern : gM := (yL_kern, cL_kern, 5, some (.int), [(0, 10, 13, 21)])
def mL_why : gM := (yL_why, cL_why, 5, some (.int), [(0, 10, 13, 21)])
def mL_addStem : gM := (yL_addStem, cL_addStem, 6, some (.int), [(0, 12, 15, 21), (0, 12, 19, 13), (0, 12, 23, 15)])
def mL_removeStem : gM := (yL_removeStem, cL_removeStem, 5, some (.int), [(0, 10, 13, 21)])
def mL_stem : gM := (yL_stem, cL_stem, 6, some (.int), [(0, 12, 15, 21)])
def mL_place : gM := (yL_place, cL_place, 6, some (.int), [(0, 12, 15, 21), (0, 12, 19, 13)])
def mL_isBlack : gM := (yL_isBlack, cL_isBlack, 7, some (.int), [(0, 21, 24, 21), (0, 21, 28, 13)])
def mL_blackPixels : gM := (yL_blackPixels, cL_blackPixels, 5, some (.int), [(0, 10, 13, 21), (0, 10, 17, 13)])
def mL_setProof : gM := (yL_setProof, cL_setProof, 5, some (.int), [(0, 10, 13, 13)])
def mL_append : gM := (yL_append, cL_append, 3, some (.int), [(0, 5, 8, 15)])
def mL_takeProof : gM := (yL_takeProof, cL_takeProof, 3, some (.int), [(0, 8, 11, 13)])
def mL_proofWidth : gM := (yL_proofWidth, cL_proofWidth, 3, some (.int), [(0, 8, 11, 37)])
def mL_position : gM := (yL_position, cL_position, 4, some (.int), [(0, 9, 12, 37)])
def mL_lines : gM := (yL_lines, cL_lines, 4, some (.int), [(0, 9, 12, 13)])
def mL_line : gM := (yL_line, cL_line, 6, some (.int), [(0, 12, 15, 13), (0, 12, 19, 37)])
def mL_leastMeasure : gM := (yL_leastMeasure, cL_leastMeasure, 4, some (.int), [(0, 9, 12, 13), (0, 9, 15, 37)])
def mL_meanAdvance : gM := (yL_meanAdvance, cL_meanAdvance, 3, some (.int), [(0, 7, 10, 133)])
def mL_account : gM := (yL_account, cL_account, 4, some (.int), [(0, 9, 12, 13)])
def mL_readGlyph : gM := (yL_readGlyph, cL_readGlyph, 3, some (.int), [(0, 8, 11, 13), (0, 8, 14, 15)])
def mL_undo : gM := (yL_undo, cL_undo, 3, some (.int), [(0, 8, 11, 15)])
def mL_restore : gM := (yL_restore, cL_restore, 2, some (.int), [(0, 4, 7, 15)])
theorem gin0 : ∀ w ∈ u_ws RX0 TX0 3, w ∈ gTg := (List.forall_mem_cons.mpr ⟨gH.tg ⟨gI1 (List.mem_of_getElem? (i := 88) rfl), rfl⟩, (List.forall_mem_cons.mpr ⟨gH.tg ⟨gI1 (List.mem_of_getElem? (i := 90) rfl), rfl⟩, (List.forall_mem_cons.mpr ⟨gH.tg ⟨gI1 (List.mem_of_getElem? (i := 92) rfl), rfl⟩, (fun _ h => nomatch h)⟩)⟩)⟩)
theorem gft0 : gFT RX0 TX0 3 tyX0 := ⟨tyX0_ok, nmX0⟩
theorem gin1 : ∀ w ∈ u_ws RX1 TX1 6, w ∈ gTg := (List.forall_mem_cons.mpr ⟨gH.tg ⟨gI1 (List.mem_of_getElem? (i := 155) rfl), rfl⟩, (List.forall_mem_cons.mpr ⟨gH.tg ⟨gI1 (List.mem_of_getElem? (i := 157) rfl), rfl⟩, (List.forall_mem_cons.mpr ⟨gH.tg ⟨gI1 (List.mem_of_getElem? (i := 159) rfl), rfl⟩, (List.forall_mem_cons.mpr ⟨gH.tg ⟨gI1 (List.mem_of_getElem? (i := 161) rfl), rfl⟩, (List.forall_mem_cons.mpr ⟨gH.tg ⟨gI1 (List.mem_of_getElem? (i := 163) rfl), rfl⟩, (List.forall_mem_cons.mpr ⟨gH.tg ⟨gI1 (List.mem_of_getElem? (i := 165) rfl), rfl⟩, (fun _ h => nomatch h)⟩)⟩)⟩)⟩)⟩)⟩)
theorem gft1 : gFT RX1 TX1 6 tyX1 := ⟨tyX1_ok, nmX1⟩
theorem gin2 : ∀ w ∈ u_ws RX2 TX2 12, w ∈ gTg := (List.forall_mem_cons.mpr ⟨gH.tg ⟨gI1 (List.mem_of_getElem? (i := 222) rfl), rfl⟩, (List.forall_mem_cons.mpr ⟨gH.tg ⟨gI1 (List.mem_of_getElem? (i := 224) rfl), rfl⟩, (List.forall_mem_cons.mpr ⟨gH.tg ⟨gI1 (List.mem_of_getElem? (i := 226) rfl), rfl⟩, (List.forall_mem_cons.mpr ⟨gH.tg ⟨gI1 (List.mem_of_getElem? (i := 228) rfl), rfl⟩, (List.forall_mem_cons.mpr ⟨gH.tg ⟨gI1 (List.mem_of_getElem? (i := 230) rfl), rfl⟩, (List.forall_mem_cons.mpr ⟨gH.tg ⟨gI1 (List.mem_of_getElem? (i := 232) rfl), rfl⟩, (List.forall_mem_cons.mpr ⟨gH.tg ⟨gI1 (List.mem_of_getElem? (i := 234) rfl), rfl⟩, (List.forall_mem_cons.mpr ⟨gH.tg ⟨gI1 (List.mem_of_getElem? (i := 236) rfl), rfl⟩, (List.forall_mem_cons.mpr ⟨gH.tg ⟨gI1 (List.mem_of_getElem? (i := 238) rfl), rfl⟩, (List.forall_mem_cons.mpr ⟨gH.tg ⟨gI2 (List.mem_of_getElem? (i := 0) rfl), rfl⟩, (List.forall_mem_cons.mpr ⟨gH.tg ⟨gI2 (List.mem_of_getElem? (i := 2) rfl), rfl⟩, (List.forall_mem_cons.mpr ⟨gH.tg ⟨gI2 (List.mem_of_getElem? (i := 4) rfl), rfl⟩, (fun _ h => nomatch h)⟩)⟩)⟩)⟩)⟩)⟩)⟩)⟩)⟩)⟩)⟩)⟩)
theorem gft2 : gFT RX2 TX2 12 tyX2 := ⟨tyX2_ok, nmX2⟩
theorem gin3 : ∀ w ∈ u_ws RX3 TX3 3, w ∈ gTg := (List.forall_mem_cons.mpr ⟨gH.tg ⟨gI1 (List.mem_of_getElem? (i := 180) rfl), rfl⟩, (List.forall_mem_cons.mpr ⟨gH.tg ⟨gI1 (List.mem_of_getElem? (i := 182) rfl), rfl⟩, (List.forall_mem_cons.mpr ⟨gH.tg ⟨gI1 (List.mem_of_getElem? (i := 184) rfl), rfl⟩, (fun _ h => nomatch h)⟩)⟩)⟩)
theorem gft3 : gFT RX3 TX3 3 tyX3 := ⟨tyX3_ok, nmX3⟩
theorem gin4 : ∀ w ∈ u_ws RX4 TX4 6, w ∈ gTg := (List.forall_mem_cons.mpr ⟨gH.tg ⟨gI1 (List.mem_of_getElem? (i := 109) rfl), rfl⟩, (List.forall_mem_cons.mpr ⟨gH.tg ⟨gI1 (List.mem_of_getElem? (i := 111) rfl), rfl⟩, (List.forall_mem_cons.mpr ⟨gH.tg ⟨gI1 (List.mem_of_getElem? (i := 113) rfl), rfl⟩, (List.forall_mem_cons.mpr ⟨gH.tg ⟨gI1 (List.mem_of_getElem? (i := 115) rfl), rfl⟩, (List.forall_mem_cons.mpr ⟨gH.tg ⟨gI1 (List.mem_of_getElem? (i := 117) rfl), rfl⟩, (List.forall_mem_cons.mpr ⟨gH.tg ⟨gI1 (List.mem_of_getElem? (i := 119) rfl), rfl⟩, (fun _ h => nomatch h)⟩)⟩)⟩)⟩)⟩)⟩)
theorem gft4 : gFT RX4 TX4 6 tyX4 := ⟨tyX4_ok, nmX4⟩
theorem gin5 : ∀ w ∈ u_ws RX5 TX5 6, w ∈ gTg := (List.forall_mem_cons.mpr ⟨gH.tg ⟨gI1 (List.mem_of_getElem? (i := 64) rfl), rfl⟩, (List.forall_mem_cons.mpr ⟨gH.tg ⟨gI1 (List.mem_of_getElem? (i := 66) rfl), rfl⟩, (List.forall_mem_cons.mpr ⟨gH.tg ⟨gI1 (List.mem_of_getElem? (i := 68) rfl), rfl⟩, (List.forall_mem_cons.mpr ⟨gH.tg ⟨gI1 (List.mem_of_getElem? (i := 70) rfl), rfl⟩, (List.forall_mem_cons.mpr ⟨gH.tg ⟨gI1 (List.mem_of_getElem? (i := 72) rfl), rfl⟩, (List.forall_mem_cons.mpr ⟨gH.tg ⟨gI1 (List.mem_of_getElem? (i := 74) rfl), rfl⟩, (fun _ h => nomatch h)⟩)⟩)⟩)⟩)⟩)⟩)
theorem gft5 : gFT RX5 TX5 6 tyX5 := ⟨tyX5_ok, nmX5⟩
theorem gin6 : ∀ w ∈ u_ws RX6 TX6 10, w ∈ gTg := (List.forall_mem_cons.mpr ⟨gH.tg ⟨gI2 (List.mem_of_getElem? (i := 25) rfl), rfl⟩, (List.forall_mem_cons.mpr ⟨gH.tg ⟨gI2 (List.mem_of_getElem? (i := 27) rfl), rfl⟩, (List.forall_mem_cons.mpr ⟨gH.tg ⟨gI2 (List.mem_of_getElem? (i := 29) rfl), rfl⟩, (List.forall_mem_cons.mpr ⟨gH.tg ⟨gI2 (List.mem_of_getElem? (i := 31) rfl), rfl⟩, (List.forall_mem_cons.mpr ⟨gH.tg ⟨gI2 (List.mem_of_getElem? (i := 33) rfl), rfl⟩, (List.forall_mem_cons.mpr ⟨gH.tg ⟨gI2 (List.mem_of_getElem? (i := 35) rfl), rfl⟩, (List.forall_mem_cons.mpr ⟨gH.tg ⟨gI2 (List.mem_of_getElem? (i := 37) rfl), rfl⟩, (List.forall_mem_cons.mpr ⟨gH.tg ⟨gI2 (List.mem_of_getElem? (i := 39) rfl), rfl⟩, (List.forall_mem_cons.mpr ⟨gH.tg ⟨gI2 (List.mem_of_getElem? (i := 41) rfl), rfl⟩, (List.forall_mem_cons.mpr ⟨gH.tg ⟨gI2 (List.mem_of_getElem? (i := 43) rfl), rfl⟩, (fun _ h => nomatch h)⟩)⟩)⟩)⟩)⟩)⟩)⟩)⟩)⟩)⟩)
theorem gft6 : gFT RX6 TX6 10 tyX6 := ⟨tyX6_ok, nmX6⟩
theorem gin7 : ∀ w ∈ u_ws RX7 TX7 1, w ∈ gTg := (List.forall_mem_cons.mpr ⟨gH.tg ⟨gI1 (List.mem_of_getElem? (i := 54) rfl), rfl⟩, (fun _ h => nomatch h)⟩)
theorem gft7 : gFT RX7 TX7 1 tyX7 := ⟨tyX7_ok, nmX7⟩
theorem gin8 : ∀ w ∈ u_ws RX8 TX8 3, w ∈ gTg := (List.forall_mem_cons.mpr ⟨gH.tg ⟨gI1 (List.mem_of_getElem? (i := 133) rfl), rfl⟩, (List.forall_mem_cons.mpr ⟨gH.tg ⟨gI1 (List.mem_of_getElem? (i := 135) rfl), rfl⟩, (List.forall_mem_cons.mpr ⟨gH.tg ⟨gI1 (List.mem_of_getElem? (i := 137) rfl), rfl⟩, (fun _ h => nomatch h)⟩)⟩)⟩)
theorem gft8 : gFT RX8 TX8 3 tyX8 := ⟨tyX8_ok, nmX8⟩
theorem gin9 : ∀ w ∈ u_ws RX9 TX9 2, w ∈ gTg := (List.forall_mem_cons.mpr ⟨gH.tg ⟨gI1 (List.mem_of_getElem? (i := 197) rfl), rfl⟩, (List.forall_mem_cons.mpr ⟨gH.tg ⟨gI1 (List.mem_of_getElem? (i := 199) rfl), rfl⟩, (fun _ h => nomatch h)⟩)⟩)
theorem gft9 : gFT RX9 TX9 2 tyX9 := ⟨tyX9_ok, nmX9⟩
theorem gin10 : ∀ w ∈ u_ws RX10 TX10 8, w ∈ gTg := (List.forall_mem_cons.mpr ⟨gH.tg ⟨gI2 (List.mem_of_getElem? (i := 54) rfl), rfl⟩, (List.forall_mem_cons.mpr ⟨gH.tg ⟨gI2 (List.mem_of_getElem? (i := 56) rfl), rfl⟩, (List.forall_mem_cons.mpr ⟨gH.tg ⟨gI2 (List.mem_of_getElem? (i := 58) rfl), rfl⟩, (List.forall_mem_cons.mpr ⟨gH.tg ⟨gI2 (List.mem_of_getElem? (i := 60) rfl), rfl⟩, (List.forall_mem_cons.mpr ⟨gH.tg ⟨gI2 (List.mem_of_getElem? (i := 62) rfl), rfl⟩, (List.forall_mem_cons.mpr ⟨gH.tg ⟨gI2 (List.mem_of_getElem? (i := 64) rfl), rfl⟩, (List.forall_mem_cons.mpr ⟨gH.tg ⟨gI2 (List.mem_of_getElem? (i := 66) rfl), rfl⟩, (List.forall_mem_cons.mpr ⟨gH.tg ⟨gI2 (List.mem_of_getElem? (i := 68) rfl), rfl⟩, (fun _ h => nomatch h)⟩)⟩)⟩)⟩)⟩)⟩)⟩)⟩)
theorem gft10 : gFT RX10 TX10 8 tyX10 := ⟨tyX10_ok, nmX10⟩
theorem gin11 : ∀ w ∈ u_ws RX11 TX11 25, w ∈ gTg := (List.forall_mem_cons.mpr ⟨gH.tg ⟨gI6 (List.mem_of_getElem? (i := 212) rfl), rfl⟩, (List.forall_mem_cons.mpr ⟨gH.tg ⟨gI6 (List.mem_of_getElem? (i := 214) rfl), rfl⟩, (List.forall_mem_cons.mpr ⟨gH.tg ⟨gI6 (List.mem_of_getElem? (i := 216) rfl), rfl⟩, (List.forall_mem_cons.mpr ⟨gH.tg ⟨gI6 (List.mem_of_getElem? (i := 218) rfl), rfl⟩, (List.forall_mem_cons.mpr ⟨gH.tg ⟨gI6 (List.mem_of_getElem? (i := 220) rfl), rfl⟩, (List.forall_mem_cons.mpr ⟨gH.tg ⟨gI6 (List.mem_of_getElem? (i := 222) rfl), rfl⟩, (List.forall_mem_cons.mpr ⟨gH.tg ⟨gI6 (List.mem_of_getElem? (i := 224) rfl), rfl⟩, (List.forall_mem_cons.mpr ⟨gH.tg ⟨gI6 (List.mem_of_getElem? (i := 226) rfl), rfl⟩, (List.forall_mem_cons.mpr ⟨gH.tg ⟨gI6 (List.mem_of_getElem? (i := 228) rfl), rfl⟩, (List.forall_mem_cons.mpr ⟨gH.tg ⟨gI6 (List.mem_of_getElem? (i := 230) rfl), rfl⟩, (List.forall_mem_cons.mpr ⟨gH.tg ⟨gI6 (List.mem_of_getElem? (i := 232) rfl), rfl⟩, (List.forall_mem_cons.mpr ⟨gH.tg ⟨gI6 (List.mem_of_getElem? (i := 234) rfl), rfl⟩, (List.forall_mem_cons.mpr ⟨gH.tg ⟨gI6 (List.mem_of_getElem? (i := 236) rfl), rfl⟩, (List.forall_mem_cons.mpr ⟨gH.tg ⟨gI6 (List.mem_of_getElem? (i := 238) rfl), rfl⟩, (List.forall_mem_cons.mpr ⟨gH.tg ⟨gI7 (List.mem_of_getElem? (i := 0) rfl), rfl⟩, (List.forall_mem_cons.mpr ⟨gH.tg ⟨gI7 (List.mem_of_getElem? (i := 2) rfl), rfl⟩, (List.forall_mem_cons.mpr ⟨gH.tg ⟨gI7 (List.mem_of_getElem? (i := 4) rfl), rfl⟩, (List.forall_mem_cons.mpr ⟨gH.tg ⟨gI7 (List.mem_of_getElem? (i := 6) rfl), rfl⟩, (List.forall_mem_cons.mpr ⟨gH.tg ⟨gI7 (List.mem_of_getElem? (i := 8) rfl), rfl⟩, (List.forall_mem_cons.mpr ⟨gH.tg ⟨gI7 (List.mem_of_getElem? (i := 10) rfl), rfl⟩, (List.forall_mem_cons.mpr ⟨gH.tg ⟨gI7 (List.mem_of_getElem? (i := 12) rfl), rfl⟩, (List.forall_mem_cons.mpr ⟨gH.tg ⟨gI7 (List.mem_of_getElem? (i := 14) rfl), rfl⟩, (List.forall_mem_cons.mpr ⟨gH.tg ⟨gI7 (List.mem_of_getElem? (i := 16) rfl), rfl⟩, (List.forall_mem_cons.mpr ⟨gH.tg ⟨gI7 (List.mem_of_getElem? (i := 18) rfl), rfl⟩, (List.forall_mem_cons.mpr ⟨gH.tg ⟨gI7 (List.mem_of_getElem? (i := 20) rfl), rfl⟩, (fun _ h => nomatch h)⟩)⟩)⟩)⟩)⟩)⟩)⟩)⟩)⟩)⟩)⟩)⟩)⟩)⟩)⟩)⟩)⟩)⟩)⟩)⟩)⟩)⟩)⟩)⟩)⟩)
theorem gft11 : gFT RX11 TX11 25 tyX11 := ⟨tyX11_ok, nmX11⟩
theorem fX7_7 : gFR RX7 7 7 0 RX7 TX7 1 := ⟨rfl, by decide, gin7, Or.inl ⟨gI1 (List.mem_of_getElem? (i := 53) rfl), rfl⟩, rfl⟩
theorem fX5_14 : gFR RX5 14 5 0 RX5 TX5 6 := ⟨rfl, by decide, gin5, Or.inl ⟨gI1 (List.mem_of_getElem? (i := 58) rfl), rfl⟩, rfl⟩
theorem fX5_20 : gFR RX5 20 5 1 RX5 TX5 6 := ⟨rfl, by decide, gin5, Or.inl ⟨gI1 (List.mem_of_getElem? (i := 59) rfl), rfl⟩, rfl⟩
theorem fX5_23 : gFR RX5 23 5 2 RX5 TX5 6 := ⟨rfl, by decide, gin5, Or.inl ⟨gI1 (List.mem_of_getElem? (i := 60) rfl), rfl⟩, rfl⟩
theorem fX5_26 : gFR RX5 26 5 3 RX5 TX5 6 := ⟨rfl, by decide, gin5, Or.inl ⟨gI1 (List.mem_of_getElem? (i := 61) rfl), rfl⟩, rfl⟩
theorem fX5_29 : gFR RX5 29 5 4 RX5 TX5 6 := ⟨rfl, by decide, gin5, Or.inl ⟨gI1 (List.mem_of_getElem? (i := 62) rfl), rfl⟩, rfl⟩
theorem fX5_32 : gFR RX5 32 5 5 RX5 TX5 6 := ⟨rfl, by decide, gin5, Or.inl ⟨gI1 (List.mem_of_getElem? (i := 63) rfl), rfl⟩, rfl⟩
theorem fX0_14 : gFR RX0 14 0 0 RX0 TX0 3 := ⟨rfl, by decide, gin0, Or.inl ⟨gI1 (List.mem_of_getElem? (i := 85) rfl), rfl⟩, rfl⟩
theorem fX0_20 : gFR RX0 20 0 1 RX0 TX0 3 := ⟨rfl, by decide, gin0, Or.inl ⟨gI1 (List.mem_of_getElem? (i := 86) rfl), rfl⟩, rfl⟩
theorem fX0_23 : gFR RX0 23 0 2 RX0 TX0 3 := ⟨rfl, by decide, gin0, Or.inl ⟨gI1 (List.mem_of_getElem? (i := 87) rfl), rfl⟩, rfl⟩
theorem fX4_14 : gFR RX4 14 4 0 RX4 TX4 6 := ⟨rfl, by decide, gin4, Or.inl ⟨gI1 (List.mem_of_getElem? (i := 103) rfl), rfl⟩, rfl⟩
theorem fX4_20 : gFR RX4 20 4 1 RX4 TX4 6 := ⟨rfl, by decide, gin4, Or.inl ⟨gI1 (List.mem_of_getElem? (i := 104) rfl), rfl⟩, rfl⟩
theorem fX4_23 : gFR RX4 23 4 2 RX4 TX4 6 := ⟨rfl, by decide, gin4, Or.inl ⟨gI1 (List.mem_of_getElem? (i := 105) rfl), rfl⟩, rfl⟩
theorem fX4_26 : gFR RX4 26 4 3 RX4 TX4 6 := ⟨rfl, by decide, gin4, Or.inl ⟨gI1 (List.mem_of_getElem? (i := 106) rfl), rfl⟩, rfl⟩
theorem fX4_29 : gFR RX4 29 4 4 RX4 TX4 6 := ⟨rfl, by decide, gin4, Or.inl ⟨gI1 (List.mem_of_getElem? (i := 107) rfl), rfl⟩, rfl⟩
theorem fX4_33 : gFR RX4 33 4 5 RX4 TX4 6 := ⟨rfl, by decide, gin4, Or.inl ⟨gI1 (List.mem_of_getElem? (i := 108) rfl), rfl⟩, rfl⟩
theorem fX8_14 : gFR RX8 14 8 0 RX8 TX8 3 := ⟨rfl, by decide, gin8, Or.inl ⟨gI1 (List.mem_of_getElem? (i := 130) rfl), rfl⟩, rfl⟩
theorem fX8_20 : gFR RX8 20 8 1 RX8 TX8 3 := ⟨rfl, by decide, gin8, Or.inl ⟨gI1 (List.mem_of_getElem? (i := 131) rfl), rfl⟩, rfl⟩
theorem fX8_23 : gFR RX8 23 8 2 RX8 TX8 3 := ⟨rfl, by decide, gin8, Or.inl ⟨gI1 (List.mem_of_getElem? (i := 132) rfl), rfl⟩, rfl⟩
theorem fX1_12 : gFR RX1 12 1 0 RX1 TX1 6 := ⟨rfl, by decide, gin1, Or.inl ⟨gI1 (List.mem_of_getElem? (i := 140) rfl), rfl⟩, rfl⟩
theorem fX10_70 : gFR RX10 70 1 0 RX1 TX1 6 := ⟨rfl, by decide, gin1, Or.inr ⟨"TypeDesigner", ⟨gI1 (List.mem_of_getElem? (i := 141) rfl), rfl⟩⟩, rfl⟩
theorem fX1_21 : gFR RX1 21 1 1 RX1 TX1 6 := ⟨rfl, by decide, gin1, Or.inl ⟨gI1 (List.mem_of_getElem? (i := 142) rfl), rfl⟩, rfl⟩
theorem fX10_199 : gFR RX10 199 1 1 RX1 TX1 6 := ⟨rfl, by decide, gin1, Or.inr ⟨"TypeDesigner", ⟨gI1 (List.mem_of_getElem? (i := 143) rfl), rfl⟩⟩, rfl⟩
theorem fX1_28 : gFR RX1 28 1 2 RX1 TX1 6 := ⟨rfl, by decide, gin1, Or.inl ⟨gI1 (List.mem_of_getElem? (i := 144) rfl), rfl⟩, rfl⟩
theorem fX6_83 : gFR RX6 83 1 2 RX1 TX1 6 := ⟨rfl, by decide, gin1, Or.inr ⟨"TypeDesigner", ⟨gI1 (List.mem_of_getElem? (i := 145) rfl), rfl⟩⟩, rfl⟩
theorem fX10_153 : gFR RX10 153 1 2 RX1 TX1 6 := ⟨rfl, by decide, gin1, Or.inr ⟨"TypeDesigner", ⟨gI1 (List.mem_of_getElem? (i := 146) rfl), rfl⟩⟩, rfl⟩
theorem fX1_35 : gFR RX1 35 1 3 RX1 TX1 6 := ⟨rfl, by decide, gin1, Or.inl ⟨gI1 (List.mem_of_getElem? (i := 147) rfl), rfl⟩, rfl⟩
theorem fX10_162 : gFR RX10 162 1 3 RX1 TX1 6 := ⟨rfl, by decide, gin1, Or.inr ⟨"TypeDesigner", ⟨gI1 (List.mem_of_getElem? (i := 148) rfl), rfl⟩⟩, rfl⟩
theorem fX1_39 : gFR RX1 39 1 4 RX1 TX1 6 := ⟨rfl, by decide, gin1, Or.inl ⟨gI1 (List.mem_of_getElem? (i := 149) rfl), rfl⟩, rfl⟩
theorem fX6_65 : gFR RX6 65 1 4 RX1 TX1 6 := ⟨rfl, by decide, gin1, Or.inr ⟨"TypeDesigner", ⟨gI1 (List.mem_of_getElem? (i := 150) rfl), rfl⟩⟩, rfl⟩
theorem fX10_361 : gFR RX10 361 1 4 RX1 TX1 6 := ⟨rfl, by decide, gin1, Or.inr ⟨"TypeDesigner", ⟨gI1 (List.mem_of_getElem? (i := 151) rfl), rfl⟩⟩, rfl⟩
theorem fX1_43 : gFR RX1 43 1 5 RX1 TX1 6 := ⟨rfl, by decide, gin1, Or.inl ⟨gI1 (List.mem_of_getElem? (i := 152) rfl), rfl⟩, rfl⟩
theorem fX6_70 : gFR RX6 70 1 5 RX1 TX1 6 := ⟨rfl, by decide, gin1, Or.inr ⟨"TypeDesigner", ⟨gI1 (List.mem_of_getElem? (i := 153) rfl), rfl⟩⟩, rfl⟩
theorem fX10_358 : gFR RX10 358 1 5 RX1 TX1 6 := ⟨rfl, by decide, gin1, Or.inr ⟨"TypeDesigner", ⟨gI1 (List.mem_of_getElem? (i := 154) rfl), rfl⟩⟩, rfl⟩
theorem fX3_11 : gFR RX3 11 3 0 RX3 TX3 3 := ⟨rfl, by decide, gin3, Or.inl ⟨gI1 (List.mem_of_getElem? (i := 177) rfl), rfl⟩, rfl⟩
theorem fX3_17 : gFR RX3 17 3 1 RX3 TX3 3 := ⟨rfl, by decide, gin3, Or.inl ⟨gI1 (List.mem_of_getElem? (i := 178) rfl), rfl⟩, rfl⟩
theorem fX3_21 : gFR RX3 21 3 2 RX3 TX3 3 := ⟨rfl, by decide, gin3, Or.inl ⟨gI1 (List.mem_of_getElem? (i := 179) rfl), rfl⟩, rfl⟩
theorem fX9_14 : gFR RX9 14 9 0 RX9 TX9 2 := ⟨rfl, by decide, gin9, Or.inl ⟨gI1 (List.mem_of_getElem? (i := 195) rfl), rfl⟩, rfl⟩
theorem fX9_20 : gFR RX9 20 9 1 RX9 TX9 2 := ⟨rfl, by decide, gin9, Or.inl ⟨gI1 (List.mem_of_getElem? (i := 196) rfl), rfl⟩, rfl⟩
theorem fX2_14 : gFR RX2 14 2 0 RX2 TX2 12 := ⟨rfl, by decide, gin2, Or.inl ⟨gI1 (List.mem_of_getElem? (i := 210) rfl), rfl⟩, rfl⟩
theorem fX2_20 : gFR RX2 20 2 1 RX2 TX2 12 := ⟨rfl, by decide, gin2, Or.inl ⟨gI1 (List.mem_of_getElem? (i := 211) rfl), rfl⟩, rfl⟩
theorem fX2_23 : gFR RX2 23 2 2 RX2 TX2 12 := ⟨rfl, by decide, gin2, Or.inl ⟨gI1 (List.mem_of_getElem? (i := 212) rfl), rfl⟩, rfl⟩
theorem fX2_26 : gFR RX2 26 2 3 RX2 TX2 12 := ⟨rfl, by decide, gin2, Or.inl ⟨gI1 (List.mem_of_getElem? (i := 213) rfl), rfl⟩, rfl⟩
theorem fX2_30 : gFR RX2 30 2 4 RX2 TX2 12 := ⟨rfl, by decide, gin2, Or.inl ⟨gI1 (List.mem_of_getElem? (i := 214) rfl), rfl⟩, rfl⟩
theorem fX2_33 : gFR RX2 33 2 5 RX2 TX2 12 := ⟨rfl, by decide, gin2, Or.inl ⟨gI1 (List.mem_of_getElem? (i := 215) rfl), rfl⟩, rfl⟩
theorem fX2_36 : gFR RX2 36 2 6 RX2 TX2 12 := ⟨rfl, by decide, gin2, Or.inl ⟨gI1 (List.mem_of_getElem? (i := 216) rfl), rfl⟩, rfl⟩
theorem fX2_39 : gFR RX2 39 2 7 RX2 TX2 12 := ⟨rfl, by decide, gin2, Or.inl ⟨gI1 (List.mem_of_getElem? (i := 217) rfl), rfl⟩, rfl⟩
theorem fX2_42 : gFR RX2 42 2 8 RX2 TX2 12 := ⟨rfl, by decide, gin2, Or.inl ⟨gI1 (List.mem_of_getElem? (i := 218) rfl), rfl⟩, rfl⟩
theorem fX2_46 : gFR RX2 46 2 9 RX2 TX2 12 := ⟨rfl, by decide, gin2, Or.inl ⟨gI1 (List.mem_of_getElem? (i := 219) rfl), rfl⟩, rfl⟩
theorem fX2_49 : gFR RX2 49 2 10 RX2 TX2 12 := ⟨rfl, by decide, gin2, Or.inl ⟨gI1 (List.mem_of_getElem? (i := 220) rfl), rfl⟩, rfl⟩
theorem fX2_52 : gFR RX2 52 2 11 RX2 TX2 12 := ⟨rfl, by decide, gin2, Or.inl ⟨gI1 (List.mem_of_getElem? (i := 221) rfl), rfl⟩, rfl⟩
theorem fX6_14 : gFR RX6 14 6 0 RX6 TX6 10 := ⟨rfl, by decide, gin6, Or.inl ⟨gI2 (List.mem_of_getElem? (i := 15) rfl), rfl⟩, rfl⟩
theorem fX6_20 : gFR RX6 20 6 1 RX6 TX6 10 := ⟨rfl, by decide, gin6, Or.inl ⟨gI2 (List.mem_of_getElem? (i := 16) rfl), rfl⟩, rfl⟩
theorem fX6_23 : gFR RX6 23 6 2 RX6 TX6 10 := ⟨rfl, by decide, gin6, Or.inl ⟨gI2 (List.mem_of_getElem? (i := 17) rfl), rfl⟩, rfl⟩
theorem fX6_26 : gFR RX6 26 6 3 RX6 TX6 10 := ⟨rfl, by decide, gin6, Or.inl ⟨gI2 (List.mem_of_getElem? (i := 18) rfl), rfl⟩, rfl⟩
theorem fX6_29 : gFR RX6 29 6 4 RX6 TX6 10 := ⟨rfl, by decide, gin6, Or.inl ⟨gI2 (List.mem_of_getElem? (i := 19) rfl), rfl⟩, rfl⟩
theorem fX6_32 : gFR RX6 32 6 5 RX6 TX6 10 := ⟨rfl, by decide, gin6, Or.inl ⟨gI2 (List.mem_of_getElem? (i := 20) rfl), rfl⟩, rfl⟩
theorem fX6_35 : gFR RX6 35 6 6 RX6 TX6 10 := ⟨rfl, by decide, gin6, Or.inl ⟨gI2 (List.mem_of_getElem? (i := 21) rfl), rfl⟩, rfl⟩
theorem fX6_39 : gFR RX6 39 6 7 RX6 TX6 10 := ⟨rfl, by decide, gin6, Or.inl ⟨gI2 (List.mem_of_getElem? (i := 22) rfl), rfl⟩, rfl⟩
theorem fX6_42 : gFR RX6 42 6 8 RX6 TX6 10 := ⟨rfl, by decide, gin6, Or.inl ⟨gI2 (List.mem_of_getElem? (i := 23) rfl), rfl⟩, rfl⟩
theorem fX6_45 : gFR RX6 45 6 9 RX6 TX6 10 := ⟨rfl, by decide, gin6, Or.inl ⟨gI2 (List.mem_of_getElem? (i := 24) rfl), rfl⟩, rfl⟩
theorem fX10_10 : gFR RX10 10 10 0 RX10 TX10 8 := ⟨rfl, by decide, gin10, Or.inl ⟨gI2 (List.mem_of_getElem? (i := 46) rfl), rfl⟩, rfl⟩
theorem fX10_16 : gFR RX10 16 10 1 RX10 TX10 8 := ⟨rfl, by decide, gin10, Or.inl ⟨gI2 (List.mem_of_getElem? (i := 47) rfl), rfl⟩, rfl⟩
theorem fX10_22 : gFR RX10 22 10 2 RX10 TX10 8 := ⟨rfl, by decide, gin10, Or.inl ⟨gI2 (List.mem_of_getElem? (i := 48) rfl), rfl⟩, rfl⟩
theorem fX10_29 : gFR RX10 29 10 3 RX10 TX10 8 := ⟨rfl, by decide, gin10, Or.inl ⟨gI2 (List.mem_of_getElem? (i := 49) rfl), rfl⟩, rfl⟩
theorem fX10_36 : gFR RX10 36 10 4 RX10 TX10 8 := ⟨rfl, by decide, gin10, Or.inl ⟨gI2 (List.mem_of_getElem? (i := 50) rfl), rfl⟩, rfl⟩
theorem fX10_43 : gFR RX10 43 10 5 RX10 TX10 8 := ⟨rfl, by decide, gin10, Or.inl ⟨gI2 (List.mem_of_getElem? (i := 51) rfl), rfl⟩, rfl⟩
theorem fX10_47 : gFR RX10 47 10 6 RX10 TX10 8 := ⟨rfl, by decide, gin10, Or.inl ⟨gI2 (List.mem_of_getElem? (i := 52) rfl), rfl⟩, rfl⟩
theorem fX10_51 : gFR RX10 51 10 7 RX10 TX10 8 := ⟨rfl, by decide, gin10, Or.inl ⟨gI2 (List.mem_of_getElem? (i := 53) rfl), rfl⟩, rfl⟩
theorem fX11_9 : gFR RX11 9 11 0 RX11 TX11 25 := ⟨rfl, by decide, gin11, Or.inl ⟨gI6 (List.mem_of_getElem? (i := 187) rfl), rfl⟩, rfl⟩
theorem fX11_13 : gFR RX11 13 11 1 RX11 TX11 25 := ⟨rfl, by decide, gin11, Or.inl ⟨gI6 (List.mem_of_getElem? (i := 188) rfl), rfl⟩, rfl⟩
theorem fX11_273 : gFR RX11 273 11 2 RX11 TX11 25 := ⟨rfl, by decide, gin11, Or.inl ⟨gI6 (List.mem_of_getElem? (i := 189) rfl), rfl⟩, rfl⟩
theorem fX11_16 : gFR RX11 16 11 3 RX11 TX11 25 := ⟨rfl, by decide, gin11, Or.inl ⟨gI6 (List.mem_of_getElem? (i := 190) rfl), rfl⟩, rfl⟩
theorem fX11_76 : gFR RX11 76 11 4 RX11 TX11 25 := ⟨rfl, by decide, gin11, Or.inl ⟨gI6 (List.mem_of_getElem? (i := 191) rfl), rfl⟩, rfl⟩
theorem fX11_54 : gFR RX11 54 11 5 RX11 TX11 25 := ⟨rfl, by decide, gin11, Or.inl ⟨gI6 (List.mem_of_getElem? (i := 192) rfl), rfl⟩, rfl⟩
theorem fX11_19 : gFR RX11 19 11 6 RX11 TX11 25 := ⟨rfl, by decide, gin11, Or.inl ⟨gI6 (List.mem_of_getElem? (i := 193) rfl), rfl⟩, rfl⟩
theorem fX11_197 : gFR RX11 197 11 7 RX11 TX11 25 := ⟨rfl, by decide, gin11, Or.inl ⟨gI6 (List.mem_of_getElem? (i := 194) rfl), rfl⟩, rfl⟩
theorem fX11_23 : gFR RX11 23 11 8 RX11 TX11 25 := ⟨rfl, by decide, gin11, Or.inl ⟨gI6 (List.mem_of_getElem? (i := 195) rfl), rfl⟩, rfl⟩
theorem fX11_200 : gFR RX11 200 11 9 RX11 TX11 25 := ⟨rfl, by decide, gin11, Or.inl ⟨gI6 (List.mem_of_getElem? (i := 196) rfl), rfl⟩, rfl⟩
theorem fX11_26 : gFR RX11 26 11 10 RX11 TX11 25 := ⟨rfl, by decide, gin11, Or.inl ⟨gI6 (List.mem_of_getElem? (i := 197) rfl), rfl⟩, rfl⟩
theorem fX11_29 : gFR RX11 29 11 11 RX11 TX11 25 := ⟨rfl, by decide, gin11, Or.inl ⟨gI6 (List.mem_of_getElem? (i := 198) rfl), rfl⟩, rfl⟩
theorem fX11_32 : gFR RX11 32 11 12 RX11 TX11 25 := ⟨rfl, by decide, gin11, Or.inl ⟨gI6 (List.mem_of_getElem? (i := 199) rfl), rfl⟩, rfl⟩
theorem fX11_212 : gFR RX11 212 11 13 RX11 TX11 25 := ⟨rfl, by decide, gin11, Or.inl ⟨gI6 (List.mem_of_getElem? (i := 200) rfl), rfl⟩, rfl⟩
theorem fX11_35 : gFR RX11 35 11 14 RX11 TX11 25 := ⟨rfl, by decide, gin11, Or.inl ⟨gI6 (List.mem_of_getElem? (i := 201) rfl), rfl⟩, rfl⟩
theorem fX11_38 : gFR RX11 38 11 15 RX11 TX11 25 := ⟨rfl, by decide, gin11, Or.inl ⟨gI6 (List.mem_of_getElem? (i := 202) rfl), rfl⟩, rfl⟩
theorem fX11_41 : gFR RX11 41 11 16 RX11 TX11 25 := ⟨rfl, by decide, gin11, Or.inl ⟨gI6 (List.mem_of_getElem? (i := 203) rfl), rfl⟩, rfl⟩
theorem fX11_215 : gFR RX11 215 11 17 RX11 TX11 25 := ⟨rfl, by decide, gin11, Or.inl ⟨gI6 (List.mem_of_getElem? (i := 204) rfl), rfl⟩, rfl⟩
theorem fX11_244 : gFR RX11 244 11 18 RX11 TX11 25 := ⟨rfl, by decide, gin11, Or.inl ⟨gI6 (List.mem_of_getElem? (i := 205) rfl), rfl⟩, rfl⟩
theorem fX11_247 : gFR RX11 247 11 19 RX11 TX11 25 := ⟨rfl, by decide, gin11, Or.inl ⟨gI6 (List.mem_of_getElem? (i := 206) rfl), rfl⟩, rfl⟩
theorem fX11_258 : gFR RX11 258 11 20 RX11 TX11 25 := ⟨rfl, by decide, gin11, Or.inl ⟨gI6 (List.mem_of_getElem? (i := 207) rfl), rfl⟩, rfl⟩
theorem fX11_44 : gFR RX11 44 11 21 RX11 TX11 25 := ⟨rfl, by decide, gin11, Or.inl ⟨gI6 (List.mem_of_getElem? (i := 208) rfl), rfl⟩, rfl⟩
theorem fX11_48 : gFR RX11 48 11 22 RX11 TX11 25 := ⟨rfl, by decide, gin11, Or.inl ⟨gI6 (List.mem_of_getElem? (i := 209) rfl), rfl⟩, rfl⟩
theorem fX11_51 : gFR RX11 51 11 23 RX11 TX11 25 := ⟨rfl, by decide, gin11, Or.inl ⟨gI6 (List.mem_of_getElem? (i := 210) rfl), rfl⟩, rfl⟩
theorem fX11_267 : gFR RX11 267 11 24 RX11 TX11 25 := ⟨rfl, by decide, gin11, Or.inl ⟨gI6 (List.mem_of_getElem? (i := 211) rfl), rfl⟩, rfl⟩
theorem bX0_copyFrom : gMB mX0_copyFrom 1 := ⟨rfl, ⟨gI2 (List.mem_of_getElem? (i := 98) rfl), rfl⟩, ⟨gI2 (List.mem_of_getElem? (i := 99) rfl), rfl⟩, ⟨gI1 (List.mem_of_getElem? (i := 5) rfl), rfl⟩, ⟨gI2 (List.mem_of_getElem? (i := 100) rfl), rfl⟩, ⟨⟨by decide +kernel, by decide +kernel, by decide +kernel⟩, by decide⟩⟩
theorem bX0_index : gMSB mX0_index 2 := ⟨rfl, ⟨gI3 (List.mem_of_getElem? (i := 177) rfl), rfl⟩, ⟨gI1 (List.mem_of_getElem? (i := 5) rfl), rfl⟩, ⟨gI3 (List.mem_of_getElem? (i := 178) rfl), rfl⟩, ⟨⟨by decide +kernel, by decide +kernel, by decide +kernel⟩, by decide⟩⟩
theorem bX0_tell : gMB mX0_tell 3 := ⟨rfl, ⟨gI4 (List.mem_of_getElem? (i := 26) rfl), rfl⟩, ⟨gI4 (List.mem_of_getElem? (i := 27) rfl), rfl⟩, ⟨gI1 (List.mem_of_getElem? (i := 5) rfl), rfl⟩, ⟨gI4 (List.mem_of_getElem? (i := 28) rfl), rfl⟩, ⟨⟨by decide +kernel, by decide +kernel, by decide +kernel⟩, by decide⟩⟩
theorem bX0_setRule : gMB mX0_setRule 4 := ⟨rfl, ⟨gI4 (List.mem_of_getElem? (i := 62) rfl), rfl⟩, ⟨gI4 (List.mem_of_getElem? (i := 63) rfl), rfl⟩, ⟨gI1 (List.mem_of_getElem? (i := 5) rfl), rfl⟩, ⟨gI4 (List.mem_of_getElem? (i := 64) rfl), rfl⟩, ⟨⟨by decide +kernel, by decide +kernel, by decide +kernel⟩, by decide⟩⟩
theorem bX0_valueOf : gMB mX0_valueOf 2 := ⟨rfl, ⟨gI3 (List.mem_of_getElem? (i := 173) rfl), rfl⟩, ⟨gI3 (List.mem_of_getElem? (i := 174) rfl), rfl⟩, ⟨gI1 (List.mem_of_getElem? (i := 5) rfl), rfl⟩, ⟨gI3 (List.mem_of_getElem? (i := 175) rfl), rfl⟩, ⟨⟨by decide +kernel, by decide +kernel, by decide +kernel⟩, by decide⟩⟩
theorem bX0_ruleCount : gMB mX0_ruleCount 2 := ⟨rfl, ⟨gI4 (List.mem_of_getElem? (i := 83) rfl), rfl⟩, ⟨gI4 (List.mem_of_getElem? (i := 84) rfl), rfl⟩, ⟨gI1 (List.mem_of_getElem? (i := 5) rfl), rfl⟩, ⟨gI4 (List.mem_of_getElem? (i := 85) rfl), rfl⟩, ⟨⟨by decide +kernel, by decide +kernel, by decide +kernel⟩, by decide⟩⟩
theorem bX0_leaderGlyph : gMB mX0_leaderGlyph 2 := ⟨rfl, ⟨gI4 (List.mem_of_getElem? (i := 75) rfl), rfl⟩, ⟨gI4 (List.mem_of_getElem? (i := 76) rfl), rfl⟩, ⟨gI1 (List.mem_of_getElem? (i := 5) rfl), rfl⟩, ⟨gI4 (List.mem_of_getElem? (i := 77) rfl), rfl⟩, ⟨⟨by decide +kernel, by decide +kernel, by decide +kernel⟩, by decide⟩⟩
theorem bX0_leaderSide : gMB mX0_leaderSide 2 := ⟨rfl, ⟨gI4 (List.mem_of_getElem? (i := 79) rfl), rfl⟩, ⟨gI4 (List.mem_of_getElem? (i := 80) rfl), rfl⟩, ⟨gI1 (List.mem_of_getElem? (i := 5) rfl), rfl⟩, ⟨gI4 (List.mem_of_getElem? (i := 81) rfl), rfl⟩, ⟨⟨by decide +kernel, by decide +kernel, by decide +kernel⟩, by decide⟩⟩
theorem bX0_leadsTo : gMB mX0_leadsTo 2 := ⟨rfl, ⟨gI4 (List.mem_of_getElem? (i := 42) rfl), rfl⟩, ⟨gI4 (List.mem_of_getElem? (i := 43) rfl), rfl⟩, ⟨gI1 (List.mem_of_getElem? (i := 5) rfl), rfl⟩, ⟨gI4 (List.mem_of_getElem? (i := 44) rfl), rfl⟩, ⟨⟨by decide +kernel, by decide +kernel, by decide +kernel⟩, by decide⟩⟩
theorem bX0_followerCount : gMB mX0_followerCount 2 := ⟨rfl, ⟨gI4 (List.mem_of_getElem? (i := 94) rfl), rfl⟩, ⟨gI4 (List.mem_of_getElem? (i := 95) rfl), rfl⟩, ⟨gI1 (List.mem_of_getElem? (i := 5) rfl), rfl⟩, ⟨gI4 (List.mem_of_getElem? (i := 96) rfl), rfl⟩, ⟨⟨by decide +kernel, by decide +kernel, by decide +kernel⟩, by decide⟩⟩
theorem bX0_ruleSum : gMB mX0_ruleSum 0 := ⟨rfl, ⟨gI6 (List.mem_of_getElem? (i := 47) rfl), rfl⟩, ⟨gI6 (List.mem_of_getElem? (i := 48) rfl), rfl⟩, ⟨gI1 (List.mem_of_getElem? (i := 5) rfl), rfl⟩, ⟨gI6 (List.mem_of_getElem? (i := 49) rfl), rfl⟩, ⟨⟨by decide +kernel, by decide +kernel, by decide +kernel⟩, by decide⟩⟩
theorem bX1_copyFrom : gMB mX1_copyFrom 1 := ⟨rfl, ⟨gI2 (List.mem_of_getElem? (i := 80) rfl), rfl⟩, ⟨gI2 (List.mem_of_getElem? (i := 81) rfl), rfl⟩, ⟨gI1 (List.mem_of_getElem? (i := 2) rfl), rfl⟩, ⟨gI2 (List.mem_of_getElem? (i := 82) rfl), rfl⟩, ⟨⟨by decide +kernel, by decide +kernel, by decide +kernel⟩, by decide⟩⟩
theorem bX1_advanceOf : gMB mX1_advanceOf 1 := ⟨rfl, ⟨gI3 (List.mem_of_getElem? (i := 169) rfl), rfl⟩, ⟨gI3 (List.mem_of_getElem? (i := 170) rfl), rfl⟩, ⟨gI1 (List.mem_of_getElem? (i := 2) rfl), rfl⟩, ⟨gI3 (List.mem_of_getElem? (i := 171) rfl), rfl⟩, ⟨⟨by decide +kernel, by decide +kernel, by decide +kernel⟩, by decide⟩⟩
theorem bX1_advanceSum : gMB mX1_advanceSum 0 := ⟨rfl, ⟨gI6 (List.mem_of_getElem? (i := 23) rfl), rfl⟩, ⟨gI6 (List.mem_of_getElem? (i := 24) rfl), rfl⟩, ⟨gI1 (List.mem_of_getElem? (i := 2) rfl), rfl⟩, ⟨gI6 (List.mem_of_getElem? (i := 25) rfl), rfl⟩, ⟨⟨by decide +kernel, by decide +kernel, by decide +kernel⟩, by decide⟩⟩
theorem bX1_kernedPairSum : gMB mX1_kernedPairSum 0 := ⟨rfl, ⟨gI6 (List.mem_of_getElem? (i := 51) rfl), rfl⟩, ⟨gI6 (List.mem_of_getElem? (i := 52) rfl), rfl⟩, ⟨gI1 (List.mem_of_getElem? (i := 2) rfl), rfl⟩, ⟨gI6 (List.mem_of_getElem? (i := 53) rfl), rfl⟩, ⟨⟨by decide +kernel, by decide +kernel, by decide +kernel⟩, by decide⟩⟩
theorem bX2_faultIn : gMB mX2_faultIn 1 := ⟨rfl, ⟨gI6 (List.mem_of_getElem? (i := 67) rfl), rfl⟩, ⟨gI6 (List.mem_of_getElem? (i := 68) rfl), rfl⟩, ⟨gI1 (List.mem_of_getElem? (i := 10) rfl), rfl⟩, ⟨gI6 (List.mem_of_getElem? (i := 69) rfl), rfl⟩, ⟨⟨by decide +kernel, by decide +kernel, by decide +kernel⟩, by decide⟩⟩
theorem bX2_code : gMB mX2_code 0 := ⟨rfl, ⟨gI6 (List.mem_of_getElem? (i := 127) rfl), rfl⟩, ⟨gI6 (List.mem_of_getElem? (i := 128) rfl), rfl⟩, ⟨gI1 (List.mem_of_getElem? (i := 10) rfl), rfl⟩, ⟨gI6 (List.mem_of_getElem? (i := 129) rfl), rfl⟩, ⟨⟨by decide +kernel, by decide +kernel, by decide +kernel⟩, by decide⟩⟩
theorem bX2_fitsIntoGlyph : gMB mX2_fitsIntoGlyph 0 := ⟨rfl, ⟨gI6 (List.mem_of_getElem? (i := 131) rfl), rfl⟩, ⟨gI6 (List.mem_of_getElem? (i := 132) rfl), rfl⟩, ⟨gI1 (List.mem_of_getElem? (i := 10) rfl), rfl⟩, ⟨gI6 (List.mem_of_getElem? (i := 133) rfl), rfl⟩, ⟨⟨by decide +kernel, by decide +kernel, by decide +kernel⟩, by decide⟩⟩
theorem bX2_drawInto : gMB mX2_drawInto 2 := ⟨rfl, ⟨gI6 (List.mem_of_getElem? (i := 139) rfl), rfl⟩, ⟨gI6 (List.mem_of_getElem? (i := 140) rfl), rfl⟩, ⟨gI1 (List.mem_of_getElem? (i := 10) rfl), rfl⟩, ⟨gI6 (List.mem_of_getElem? (i := 141) rfl), rfl⟩, ⟨⟨by decide +kernel, by decide +kernel, by decide +kernel⟩, by decide⟩⟩
theorem bX2_accepts : gMB mX2_accepts 1 := ⟨rfl, ⟨gI6 (List.mem_of_getElem? (i := 74) rfl), rfl⟩, ⟨gI0 (List.mem_of_getElem? (i := 12) rfl), rfl⟩, ⟨gI1 (List.mem_of_getElem? (i := 10) rfl), rfl⟩, ⟨gI6 (List.mem_of_getElem? (i := 75) rfl), rfl⟩, ⟨⟨by decide +kernel, by decide +kernel, by decide +kernel⟩, by decide⟩⟩
theorem bX2_acceptsCode : gMB mX2_acceptsCode 1 := ⟨rfl, ⟨gI6 (List.mem_of_getElem? (i := 78) rfl), rfl⟩, ⟨gI0 (List.mem_of_getElem? (i := 13) rfl), rfl⟩, ⟨gI1 (List.mem_of_getElem? (i := 10) rfl), rfl⟩, ⟨gI6 (List.mem_of_getElem? (i := 79) rfl), rfl⟩, ⟨⟨by decide +kernel, by decide +kernel, by decide +kernel⟩, by decide⟩⟩
theorem bX2_acceptsOpening : gMB mX2_acceptsOpening 1 := ⟨rfl, ⟨gI6 (List.mem_of_getElem? (i := 123) rfl), rfl⟩, ⟨gI0 (List.mem_of_getElem? (i := 22) rfl), rfl⟩, ⟨gI1 (List.mem_of_getElem? (i := 10) rfl), rfl⟩, ⟨gI6 (List.mem_of_getElem? (i := 124) rfl), rfl⟩, ⟨⟨by decide +kernel, by decide +kernel, by decide +kernel⟩, by decide⟩⟩
theorem bX2_beginCoordinate : gMB mX2_beginCoordinate 1 := ⟨rfl, ⟨gI6 (List.mem_of_getElem? (i := 115) rfl), rfl⟩, ⟨gI0 (List.mem_of_getElem? (i := 20) rfl), rfl⟩, ⟨gI1 (List.mem_of_getElem? (i := 10) rfl), rfl⟩, ⟨gI6 (List.mem_of_getElem? (i := 116) rfl), rfl⟩, ⟨⟨by decide +kernel, by decide +kernel, by decide +kernel⟩, by decide⟩⟩
theorem bX2_acceptsMinus : gMB mX2_acceptsMinus 1 := ⟨rfl, ⟨gI6 (List.mem_of_getElem? (i := 85) rfl), rfl⟩, ⟨gI0 (List.mem_of_getElem? (i := 14) rfl), rfl⟩, ⟨gI1 (List.mem_of_getElem? (i := 10) rfl), rfl⟩, ⟨gI6 (List.mem_of_getElem? (i := 86) rfl), rfl⟩, ⟨⟨by decide +kernel, by decide +kernel, by decide +kernel⟩, by decide⟩⟩
theorem bX2_acceptsFirstDigit : gMB mX2_acceptsFirstDigit 1 := ⟨rfl, ⟨gI6 (List.mem_of_getElem? (i := 89) rfl), rfl⟩, ⟨gI0 (List.mem_of_getElem? (i := 15) rfl), rfl⟩, ⟨gI1 (List.mem_of_getElem? (i := 10) rfl), rfl⟩, ⟨gI6 (List.mem_of_getElem? (i := 90) rfl), rfl⟩, ⟨⟨by decide +kernel, by decide +kernel, by decide +kernel⟩, by decide⟩⟩
theorem bX2_acceptsNextDigit : gMB mX2_acceptsNextDigit 1 := ⟨rfl, ⟨gI6 (List.mem_of_getElem? (i := 98) rfl), rfl⟩, ⟨gI0 (List.mem_of_getElem? (i := 16) rfl), rfl⟩, ⟨gI1 (List.mem_of_getElem? (i := 10) rfl), rfl⟩, ⟨gI6 (List.mem_of_getElem? (i := 99) rfl), rfl⟩, ⟨⟨by decide +kernel, by decide +kernel, by decide +kernel⟩, by decide⟩⟩
theorem bX2_acceptsEndOfNumber : gMB mX2_acceptsEndOfNumber 1 := ⟨rfl, ⟨gI6 (List.mem_of_getElem? (i := 102) rfl), rfl⟩, ⟨gI0 (List.mem_of_getElem? (i := 17) rfl), rfl⟩, ⟨gI1 (List.mem_of_getElem? (i := 10) rfl), rfl⟩, ⟨gI6 (List.mem_of_getElem? (i := 103) rfl), rfl⟩, ⟨⟨by decide +kernel, by decide +kernel, by decide +kernel⟩, by decide⟩⟩
theorem bX2_acceptsComma : gMB mX2_acceptsComma 1 := ⟨rfl, ⟨gI6 (List.mem_of_getElem? (i := 119) rfl), rfl⟩, ⟨gI0 (List.mem_of_getElem? (i := 21) rfl), rfl⟩, ⟨gI1 (List.mem_of_getElem? (i := 10) rfl), rfl⟩, ⟨gI6 (List.mem_of_getElem? (i := 120) rfl), rfl⟩, ⟨⟨by decide +kernel, by decide +kernel, by decide +kernel⟩, by decide⟩⟩
theorem bX2_acceptsEndOfPoint : gMB mX2_acceptsEndOfPoint 1 := ⟨rfl, ⟨gI6 (List.mem_of_getElem? (i := 106) rfl), rfl⟩, ⟨gI0 (List.mem_of_getElem? (i := 18) rfl), rfl⟩, ⟨gI1 (List.mem_of_getElem? (i := 10) rfl), rfl⟩, ⟨gI6 (List.mem_of_getElem? (i := 107) rfl), rfl⟩, ⟨⟨by decide +kernel, by decide +kernel, by decide +kernel⟩, by decide⟩⟩
theorem bX2_signedValue : gMB mX2_signedValue 0 := ⟨rfl, ⟨gI6 (List.mem_of_getElem? (i := 110) rfl), rfl⟩, ⟨gI0 (List.mem_of_getElem? (i := 19) rfl), rfl⟩, ⟨gI1 (List.mem_of_getElem? (i := 10) rfl), rfl⟩, ⟨gI6 (List.mem_of_getElem? (i := 111) rfl), rfl⟩, ⟨⟨by decide +kernel, by decide +kernel, by decide +kernel⟩, by decide⟩⟩
theorem bX2_isDigit : gMSB mX2_isDigit 1 := ⟨rfl, ⟨gI6 (List.mem_of_getElem? (i := 92) rfl), rfl⟩, ⟨gI1 (List.mem_of_getElem? (i := 10) rfl), rfl⟩, ⟨gI6 (List.mem_of_getElem? (i := 93) rfl), rfl⟩, ⟨⟨by decide +kernel, by decide +kernel, by decide +kernel⟩, by decide⟩⟩
theorem bX3_size : gMB mX3_size 0 := ⟨rfl, ⟨gI6 (List.mem_of_getElem? (i := 156) rfl), rfl⟩, ⟨gI6 (List.mem_of_getElem? (i := 157) rfl), rfl⟩, ⟨gI1 (List.mem_of_getElem? (i := 8) rfl), rfl⟩, ⟨gI6 (List.mem_of_getElem? (i := 158) rfl), rfl⟩, ⟨⟨by decide +kernel, by decide +kernel, by decide +kernel⟩, by decide⟩⟩
theorem bX3_remember : gMB mX3_remember 1 := ⟨rfl, ⟨gI2 (List.mem_of_getElem? (i := 227) rfl), rfl⟩, ⟨gI2 (List.mem_of_getElem? (i := 228) rfl), rfl⟩, ⟨gI1 (List.mem_of_getElem? (i := 8) rfl), rfl⟩, ⟨gI2 (List.mem_of_getElem? (i := 229) rfl), rfl⟩, ⟨⟨by decide +kernel, by decide +kernel, by decide +kernel⟩, by decide⟩⟩
theorem bX3_takeBack : gMB mX3_takeBack 1 := ⟨rfl, ⟨gI6 (List.mem_of_getElem? (i := 161) rfl), rfl⟩, ⟨gI6 (List.mem_of_getElem? (i := 162) rfl), rfl⟩, ⟨gI1 (List.mem_of_getElem? (i := 8) rfl), rfl⟩, ⟨gI6 (List.mem_of_getElem? (i := 163) rfl), rfl⟩, ⟨⟨by decide +kernel, by decide +kernel, by decide +kernel⟩, by decide⟩⟩
theorem bX3_forget : gMB mX3_forget 0 := ⟨rfl, ⟨gI6 (List.mem_of_getElem? (i := 178) rfl), rfl⟩, ⟨gI6 (List.mem_of_getElem? (i := 179) rfl), rfl⟩, ⟨gI1 (List.mem_of_getElem? (i := 8) rfl), rfl⟩, ⟨gI6 (List.mem_of_getElem? (i := 180) rfl), rfl⟩, ⟨⟨by decide +kernel, by decide +kernel, by decide +kernel⟩, by decide⟩⟩
theorem bX3_slot : gMB mX3_slot 1 := ⟨rfl, ⟨gI2 (List.mem_of_getElem? (i := 232) rfl), rfl⟩, ⟨gI0 (List.mem_of_getElem? (i := 1) rfl), rfl⟩, ⟨gI1 (List.mem_of_getElem? (i := 8) rfl), rfl⟩, ⟨gI2 (List.mem_of_getElem? (i := 233) rfl), rfl⟩, ⟨⟨by decide +kernel, by decide +kernel, by decide +kernel⟩, by decide⟩⟩
theorem bX4_copyFrom : gMB mX4_copyFrom 1 := ⟨rfl, ⟨gI2 (List.mem_of_getElem? (i := 103) rfl), rfl⟩, ⟨gI2 (List.mem_of_getElem? (i := 104) rfl), rfl⟩, ⟨gI1 (List.mem_of_getElem? (i := 6) rfl), rfl⟩, ⟨gI2 (List.mem_of_getElem? (i := 105) rfl), rfl⟩, ⟨⟨by decide +kernel, by decide +kernel, by decide +kernel⟩, by decide⟩⟩
theorem bX4_classOf : gMB mX4_classOf 2 := ⟨rfl, ⟨gI3 (List.mem_of_getElem? (i := 183) rfl), rfl⟩, ⟨gI3 (List.mem_of_getElem? (i := 184) rfl), rfl⟩, ⟨gI1 (List.mem_of_getElem? (i := 6) rfl), rfl⟩, ⟨gI3 (List.mem_of_getElem? (i := 185) rfl), rfl⟩, ⟨⟨by decide +kernel, by decide +kernel, by decide +kernel⟩, by decide⟩⟩
theorem bX4_putIntoClass : gMB mX4_putIntoClass 3 := ⟨rfl, ⟨gI4 (List.mem_of_getElem? (i := 109) rfl), rfl⟩, ⟨gI4 (List.mem_of_getElem? (i := 110) rfl), rfl⟩, ⟨gI1 (List.mem_of_getElem? (i := 6) rfl), rfl⟩, ⟨gI4 (List.mem_of_getElem? (i := 111) rfl), rfl⟩, ⟨⟨by decide +kernel, by decide +kernel, by decide +kernel⟩, by decide⟩⟩
theorem bX4_areClasses : gMSB mX4_areClasses 2 := ⟨rfl, ⟨gI4 (List.mem_of_getElem? (i := 121) rfl), rfl⟩, ⟨gI1 (List.mem_of_getElem? (i := 6) rfl), rfl⟩, ⟨gI4 (List.mem_of_getElem? (i := 122) rfl), rfl⟩, ⟨⟨by decide +kernel, by decide +kernel, by decide +kernel⟩, by decide⟩⟩
theorem bX4_isClassKernTold : gMB mX4_isClassKernTold 2 := ⟨rfl, ⟨gI4 (List.mem_of_getElem? (i := 136) rfl), rfl⟩, ⟨gI4 (List.mem_of_getElem? (i := 137) rfl), rfl⟩, ⟨gI1 (List.mem_of_getElem? (i := 6) rfl), rfl⟩, ⟨gI4 (List.mem_of_getElem? (i := 138) rfl), rfl⟩, ⟨⟨by decide +kernel, by decide +kernel, by decide +kernel⟩, by decide⟩⟩
theorem bX4_isPairTold : gMB mX4_isPairTold 2 := ⟨rfl, ⟨gI4 (List.mem_of_getElem? (i := 156) rfl), rfl⟩, ⟨gI4 (List.mem_of_getElem? (i := 157) rfl), rfl⟩, ⟨gI1 (List.mem_of_getElem? (i := 6) rfl), rfl⟩, ⟨gI4 (List.mem_of_getElem? (i := 158) rfl), rfl⟩, ⟨⟨by decide +kernel, by decide +kernel, by decide +kernel⟩, by decide⟩⟩
theorem bX4_isToldForClassesOf : gMB mX4_isToldForClassesOf 2 := ⟨rfl, ⟨gI4 (List.mem_of_getElem? (i := 195) rfl), rfl⟩, ⟨gI4 (List.mem_of_getElem? (i := 196) rfl), rfl⟩, ⟨gI1 (List.mem_of_getElem? (i := 6) rfl), rfl⟩, ⟨gI4 (List.mem_of_getElem? (i := 197) rfl), rfl⟩, ⟨⟨by decide +kernel, by decide +kernel, by decide +kernel⟩, by decide⟩⟩
theorem bX4_tellClasses : gMB mX4_tellClasses 3 := ⟨rfl, ⟨gI4 (List.mem_of_getElem? (i := 132) rfl), rfl⟩, ⟨gI4 (List.mem_of_getElem? (i := 133) rfl), rfl⟩, ⟨gI1 (List.mem_of_getElem? (i := 6) rfl), rfl⟩, ⟨gI4 (List.mem_of_getElem? (i := 134) rfl), rfl⟩, ⟨⟨by decide +kernel, by decide +kernel, by decide +kernel⟩, by decide⟩⟩
theorem bX4_tellPair : gMB mX4_tellPair 3 := ⟨rfl, ⟨gI4 (List.mem_of_getElem? (i := 162) rfl), rfl⟩, ⟨gI4 (List.mem_of_getElem? (i := 163) rfl), rfl⟩, ⟨gI1 (List.mem_of_getElem? (i := 6) rfl), rfl⟩, ⟨gI4 (List.mem_of_getElem? (i := 164) rfl), rfl⟩, ⟨⟨by decide +kernel, by decide +kernel, by decide +kernel⟩, by decide⟩⟩
theorem bX4_dropClasses : gMB mX4_dropClasses 2 := ⟨rfl, ⟨gI4 (List.mem_of_getElem? (i := 180) rfl), rfl⟩, ⟨gI4 (List.mem_of_getElem? (i := 181) rfl), rfl⟩, ⟨gI1 (List.mem_of_getElem? (i := 6) rfl), rfl⟩, ⟨gI4 (List.mem_of_getElem? (i := 182) rfl), rfl⟩, ⟨⟨by decide +kernel, by decide +kernel, by decide +kernel⟩, by decide⟩⟩
theorem bX4_dropPair : gMB mX4_dropPair 2 := ⟨rfl, ⟨gI4 (List.mem_of_getElem? (i := 176) rfl), rfl⟩, ⟨gI4 (List.mem_of_getElem? (i := 177) rfl), rfl⟩, ⟨gI1 (List.mem_of_getElem? (i := 6) rfl), rfl⟩, ⟨gI4 (List.mem_of_getElem? (i := 178) rfl), rfl⟩, ⟨⟨by decide +kernel, by decide +kernel, by decide +kernel⟩, by decide⟩⟩
theorem bX4_classKernCount : gMB mX4_classKernCount 0 := ⟨rfl, ⟨gI4 (List.mem_of_getElem? (i := 141) rfl), rfl⟩, ⟨gI4 (List.mem_of_getElem? (i := 142) rfl), rfl⟩, ⟨gI1 (List.mem_of_getElem? (i := 6) rfl), rfl⟩, ⟨gI4 (List.mem_of_getElem? (i := 143) rfl), rfl⟩, ⟨⟨by decide +kernel, by decide +kernel, by decide +kernel⟩, by decide⟩⟩
theorem bX4_pairKernCount : gMB mX4_pairKernCount 0 := ⟨rfl, ⟨gI4 (List.mem_of_getElem? (i := 152) rfl), rfl⟩, ⟨gI4 (List.mem_of_getElem? (i := 153) rfl), rfl⟩, ⟨gI1 (List.mem_of_getElem? (i := 6) rfl), rfl⟩, ⟨gI4 (List.mem_of_getElem? (i := 154) rfl), rfl⟩, ⟨⟨by decide +kernel, by decide +kernel, by decide +kernel⟩, by decide⟩⟩
theorem bX4_kernOf : gMB mX4_kernOf 2 := ⟨rfl, ⟨gI4 (List.mem_of_getElem? (i := 191) rfl), rfl⟩, ⟨gI4 (List.mem_of_getElem? (i := 192) rfl), rfl⟩, ⟨gI1 (List.mem_of_getElem? (i := 6) rfl), rfl⟩, ⟨gI4 (List.mem_of_getElem? (i := 193) rfl), rfl⟩, ⟨⟨by decide +kernel, by decide +kernel, by decide +kernel⟩, by decide⟩⟩
theorem bX5_copyFrom : gMB mX5_copyFrom 1 := ⟨rfl, ⟨gI2 (List.mem_of_getElem? (i := 84) rfl), rfl⟩, ⟨gI2 (List.mem_of_getElem? (i := 85) rfl), rfl⟩, ⟨gI1 (List.mem_of_getElem? (i := 3) rfl), rfl⟩, ⟨gI2 (List.mem_of_getElem? (i := 86) rfl), rfl⟩, ⟨⟨by decide +kernel, by decide +kernel, by decide +kernel⟩, by decide⟩⟩
theorem bX5_glyphCount : gMB mX5_glyphCount 0 := ⟨rfl, ⟨gI3 (List.mem_of_getElem? (i := 40) rfl), rfl⟩, ⟨gI3 (List.mem_of_getElem? (i := 41) rfl), rfl⟩, ⟨gI1 (List.mem_of_getElem? (i := 3) rfl), rfl⟩, ⟨gI3 (List.mem_of_getElem? (i := 42) rfl), rfl⟩, ⟨⟨by decide +kernel, by decide +kernel, by decide +kernel⟩, by decide⟩⟩
theorem bX5_isFull : gMB mX5_isFull 0 := ⟨rfl, ⟨gI2 (List.mem_of_getElem? (i := 199) rfl), rfl⟩, ⟨gI2 (List.mem_of_getElem? (i := 200) rfl), rfl⟩, ⟨gI1 (List.mem_of_getElem? (i := 3) rfl), rfl⟩, ⟨gI2 (List.mem_of_getElem? (i := 201) rfl), rfl⟩, ⟨⟨by decide +kernel, by decide +kernel, by decide +kernel⟩, by decide⟩⟩
theorem bX5_codeOf : gMB mX5_codeOf 1 := ⟨rfl, ⟨gI3 (List.mem_of_getElem? (i := 161) rfl), rfl⟩, ⟨gI3 (List.mem_of_getElem? (i := 162) rfl), rfl⟩, ⟨gI1 (List.mem_of_getElem? (i := 3) rfl), rfl⟩, ⟨gI3 (List.mem_of_getElem? (i := 163) rfl), rfl⟩, ⟨⟨by decide +kernel, by decide +kernel, by decide +kernel⟩, by decide⟩⟩
theorem bX5_glyphWith : gMB mX5_glyphWith 1 := ⟨rfl, ⟨gI2 (List.mem_of_getElem? (i := 203) rfl), rfl⟩, ⟨gI2 (List.mem_of_getElem? (i := 204) rfl), rfl⟩, ⟨gI1 (List.mem_of_getElem? (i := 3) rfl), rfl⟩, ⟨gI2 (List.mem_of_getElem? (i := 205) rfl), rfl⟩, ⟨⟨by decide +kernel, by decide +kernel, by decide +kernel⟩, by decide⟩⟩
theorem bX5_addEmptyGlyph : gMB mX5_addEmptyGlyph 1 := ⟨rfl, ⟨gI2 (List.mem_of_getElem? (i := 237) rfl), rfl⟩, ⟨gI2 (List.mem_of_getElem? (i := 238) rfl), rfl⟩, ⟨gI1 (List.mem_of_getElem? (i := 3) rfl), rfl⟩, ⟨gI2 (List.mem_of_getElem? (i := 239) rfl), rfl⟩, ⟨⟨by decide +kernel, by decide +kernel, by decide +kernel⟩, by decide⟩⟩
theorem bX5_contourCount : gMB mX5_contourCount 1 := ⟨rfl, ⟨gI3 (List.mem_of_getElem? (i := 64) rfl), rfl⟩, ⟨gI3 (List.mem_of_getElem? (i := 65) rfl), rfl⟩, ⟨gI1 (List.mem_of_getElem? (i := 3) rfl), rfl⟩, ⟨gI3 (List.mem_of_getElem? (i := 66) rfl), rfl⟩, ⟨⟨by decide +kernel, by decide +kernel, by decide +kernel⟩, by decide⟩⟩
theorem bX5_pointCount : gMB mX5_pointCount 2 := ⟨rfl, ⟨gI3 (List.mem_of_getElem? (i := 85) rfl), rfl⟩, ⟨gI3 (List.mem_of_getElem? (i := 86) rfl), rfl⟩, ⟨gI1 (List.mem_of_getElem? (i := 3) rfl), rfl⟩, ⟨gI3 (List.mem_of_getElem? (i := 87) rfl), rfl⟩, ⟨⟨by decide +kernel, by decide +kernel, by decide +kernel⟩, by decide⟩⟩
theorem bX5_xOf : gMB mX5_xOf 3 := ⟨rfl, ⟨gI3 (List.mem_of_getElem? (i := 114) rfl), rfl⟩, ⟨gI3 (List.mem_of_getElem? (i := 115) rfl), rfl⟩, ⟨gI1 (List.mem_of_getElem? (i := 3) rfl), rfl⟩, ⟨gI3 (List.mem_of_getElem? (i := 116) rfl), rfl⟩, ⟨⟨by decide +kernel, by decide +kernel, by decide +kernel⟩, by decide⟩⟩
theorem bX5_yOf : gMB mX5_yOf 3 := ⟨rfl, ⟨gI3 (List.mem_of_getElem? (i := 118) rfl), rfl⟩, ⟨gI3 (List.mem_of_getElem? (i := 119) rfl), rfl⟩, ⟨gI1 (List.mem_of_getElem? (i := 3) rfl), rfl⟩, ⟨gI3 (List.mem_of_getElem? (i := 120) rfl), rfl⟩, ⟨⟨by decide +kernel, by decide +kernel, by decide +kernel⟩, by decide⟩⟩
theorem bX5_setPoint : gMB mX5_setPoint 5 := ⟨rfl, ⟨gI3 (List.mem_of_getElem? (i := 89) rfl), rfl⟩, ⟨gI3 (List.mem_of_getElem? (i := 90) rfl), rfl⟩, ⟨gI1 (List.mem_of_getElem? (i := 3) rfl), rfl⟩, ⟨gI3 (List.mem_of_getElem? (i := 91) rfl), rfl⟩, ⟨⟨by decide +kernel, by decide +kernel, by decide +kernel⟩, by decide⟩⟩
theorem bX5_removeContours : gMB mX5_removeContours 1 := ⟨rfl, ⟨gI6 (List.mem_of_getElem? (i := 143) rfl), rfl⟩, ⟨gI6 (List.mem_of_getElem? (i := 144) rfl), rfl⟩, ⟨gI1 (List.mem_of_getElem? (i := 3) rfl), rfl⟩, ⟨gI6 (List.mem_of_getElem? (i := 145) rfl), rfl⟩, ⟨⟨by decide +kernel, by decide +kernel, by decide +kernel⟩, by decide⟩⟩
theorem bX5_addEmptyContour : gMB mX5_addEmptyContour 1 := ⟨rfl, ⟨gI3 (List.mem_of_getElem? (i := 73) rfl), rfl⟩, ⟨gI3 (List.mem_of_getElem? (i := 74) rfl), rfl⟩, ⟨gI1 (List.mem_of_getElem? (i := 3) rfl), rfl⟩, ⟨gI3 (List.mem_of_getElem? (i := 75) rfl), rfl⟩, ⟨⟨by decide +kernel, by decide +kernel, by decide +kernel⟩, by decide⟩⟩
theorem bX5_addPoint : gMB mX5_addPoint 4 := ⟨rfl, ⟨gI3 (List.mem_of_getElem? (i := 81) rfl), rfl⟩, ⟨gI3 (List.mem_of_getElem? (i := 82) rfl), rfl⟩, ⟨gI1 (List.mem_of_getElem? (i := 3) rfl), rfl⟩, ⟨gI3 (List.mem_of_getElem? (i := 83) rfl), rfl⟩, ⟨⟨by decide +kernel, by decide +kernel, by decide +kernel⟩, by decide⟩⟩
theorem bX5_addBox : gMB mX5_addBox 5 := ⟨rfl, ⟨gI3 (List.mem_of_getElem? (i := 69) rfl), rfl⟩, ⟨gI3 (List.mem_of_getElem? (i := 70) rfl), rfl⟩, ⟨gI1 (List.mem_of_getElem? (i := 3) rfl), rfl⟩, ⟨gI3 (List.mem_of_getElem? (i := 71) rfl), rfl⟩, ⟨⟨by decide +kernel, by decide +kernel, by decide +kernel⟩, by decide⟩⟩
theorem bX5_moveAll : gMB mX5_moveAll 3 := ⟨rfl, ⟨gI3 (List.mem_of_getElem? (i := 146) rfl), rfl⟩, ⟨gI3 (List.mem_of_getElem? (i := 147) rfl), rfl⟩, ⟨gI1 (List.mem_of_getElem? (i := 3) rfl), rfl⟩, ⟨gI3 (List.mem_of_getElem? (i := 148) rfl), rfl⟩, ⟨⟨by decide +kernel, by decide +kernel, by decide +kernel⟩, by decide⟩⟩
theorem bX5_least : gMB mX5_least 2 := ⟨rfl, ⟨gI3 (List.mem_of_getElem? (i := 130) rfl), rfl⟩, ⟨gI3 (List.mem_of_getElem? (i := 131) rfl), rfl⟩, ⟨gI1 (List.mem_of_getElem? (i := 3) rfl), rfl⟩, ⟨gI3 (List.mem_of_getElem? (i := 132) rfl), rfl⟩, ⟨⟨by decide +kernel, by decide +kernel, by decide +kernel⟩, by decide⟩⟩
theorem bX5_greatest : gMB mX5_greatest 2 := ⟨rfl, ⟨gI3 (List.mem_of_getElem? (i := 142) rfl), rfl⟩, ⟨gI3 (List.mem_of_getElem? (i := 143) rfl), rfl⟩, ⟨gI1 (List.mem_of_getElem? (i := 3) rfl), rfl⟩, ⟨gI3 (List.mem_of_getElem? (i := 144) rfl), rfl⟩, ⟨⟨by decide +kernel, by decide +kernel, by decide +kernel⟩, by decide⟩⟩
theorem bX5_extreme : gMB mX5_extreme 3 := ⟨rfl, ⟨gI3 (List.mem_of_getElem? (i := 135) rfl), rfl⟩, ⟨gI0 (List.mem_of_getElem? (i := 5) rfl), rfl⟩, ⟨gI1 (List.mem_of_getElem? (i := 3) rfl), rfl⟩, ⟨gI3 (List.mem_of_getElem? (i := 136) rfl), rfl⟩, ⟨⟨by decide +kernel, by decide +kernel, by decide +kernel⟩, by decide⟩⟩
theorem bX5_twiceArea : gMB mX5_twiceArea 2 := ⟨rfl, ⟨gI3 (List.mem_of_getElem? (i := 197) rfl), rfl⟩, ⟨gI3 (List.mem_of_getElem? (i := 198) rfl), rfl⟩, ⟨gI1 (List.mem_of_getElem? (i := 3) rfl), rfl⟩, ⟨gI3 (List.mem_of_getElem? (i := 199) rfl), rfl⟩, ⟨⟨by decide +kernel, by decide +kernel, by decide +kernel⟩, by decide⟩⟩
theorem bX5_twiceAreaOf : gMB mX5_twiceAreaOf 1 := ⟨rfl, ⟨gI3 (List.mem_of_getElem? (i := 193) rfl), rfl⟩, ⟨gI3 (List.mem_of_getElem? (i := 194) rfl), rfl⟩, ⟨gI1 (List.mem_of_getElem? (i := 3) rfl), rfl⟩, ⟨gI3 (List.mem_of_getElem? (i := 195) rfl), rfl⟩, ⟨⟨by decide +kernel, by decide +kernel, by decide +kernel⟩, by decide⟩⟩
theorem bX5_pointCountOf : gMB mX5_pointCountOf 1 := ⟨rfl, ⟨gI3 (List.mem_of_getElem? (i := 165) rfl), rfl⟩, ⟨gI3 (List.mem_of_getElem? (i := 166) rfl), rfl⟩, ⟨gI1 (List.mem_of_getElem? (i := 3) rfl), rfl⟩, ⟨gI3 (List.mem_of_getElem? (i := 167) rfl), rfl⟩, ⟨⟨by decide +kernel, by decide +kernel, by decide +kernel⟩, by decide⟩⟩
theorem bX5_contourSum : gMB mX5_contourSum 0 := ⟨rfl, ⟨gI6 (List.mem_of_getElem? (i := 38) rfl), rfl⟩, ⟨gI6 (List.mem_of_getElem? (i := 39) rfl), rfl⟩, ⟨gI1 (List.mem_of_getElem? (i := 3) rfl), rfl⟩, ⟨gI6 (List.mem_of_getElem? (i := 40) rfl), rfl⟩, ⟨⟨by decide +kernel, by decide +kernel, by decide +kernel⟩, by decide⟩⟩
theorem bX5_pointSum : gMB mX5_pointSum 0 := ⟨rfl, ⟨gI6 (List.mem_of_getElem? (i := 42) rfl), rfl⟩, ⟨gI6 (List.mem_of_getElem? (i := 43) rfl), rfl⟩, ⟨gI1 (List.mem_of_getElem? (i := 3) rfl), rfl⟩, ⟨gI6 (List.mem_of_getElem? (i := 44) rfl), rfl⟩, ⟨⟨by decide +kernel, by decide +kernel, by decide +kernel⟩, by decide⟩⟩
theorem bX5_blackBits : gMB mX5_blackBits 5 := ⟨rfl, ⟨gI5 (List.mem_of_getElem? (i := 59) rfl), rfl⟩, ⟨gI5 (List.mem_of_getElem? (i := 60) rfl), rfl⟩, ⟨gI1 (List.mem_of_getElem? (i := 3) rfl), rfl⟩, ⟨gI5 (List.mem_of_getElem? (i := 61) rfl), rfl⟩, ⟨⟨by decide +kernel, by decide +kernel, by decide +kernel⟩, by decide⟩⟩
theorem bX5_bitsBefore : gMSB mX5_bitsBefore 6 := ⟨rfl, ⟨gI5 (List.mem_of_getElem? (i := 63) rfl), rfl⟩, ⟨gI1 (List.mem_of_getElem? (i := 3) rfl), rfl⟩, ⟨gI5 (List.mem_of_getElem? (i := 64) rfl), rfl⟩, ⟨⟨by decide +kernel, by decide +kernel, by decide +kernel⟩, by decide⟩⟩
theorem bX5_nextPoint : gMB mX5_nextPoint 3 := ⟨rfl, ⟨gI3 (List.mem_of_getElem? (i := 202) rfl), rfl⟩, ⟨gI0 (List.mem_of_getElem? (i := 6) rfl), rfl⟩, ⟨gI1 (List.mem_of_getElem? (i := 3) rfl), rfl⟩, ⟨gI3 (List.mem_of_getElem? (i := 203) rfl), rfl⟩, ⟨⟨by decide +kernel, by decide +kernel, by decide +kernel⟩, by decide⟩⟩
theorem bX5_contourIndex : gMSB mX5_contourIndex 2 := ⟨rfl, ⟨gI3 (List.mem_of_getElem? (i := 78) rfl), rfl⟩, ⟨gI1 (List.mem_of_getElem? (i := 3) rfl), rfl⟩, ⟨gI3 (List.mem_of_getElem? (i := 79) rfl), rfl⟩, ⟨⟨by decide +kernel, by decide +kernel, by decide +kernel⟩, by decide⟩⟩
theorem bX5_pointIndex : gMSB mX5_pointIndex 3 := ⟨rfl, ⟨gI3 (List.mem_of_getElem? (i := 93) rfl), rfl⟩, ⟨gI1 (List.mem_of_getElem? (i := 3) rfl), rfl⟩, ⟨gI3 (List.mem_of_getElem? (i := 94) rfl), rfl⟩, ⟨⟨by decide +kernel, by decide +kernel, by decide +kernel⟩, by decide⟩⟩
theorem bX6_isProof : gMSB mX6_isProof 2 := ⟨rfl, ⟨gI5 (List.mem_of_getElem? (i := 113) rfl), rfl⟩, ⟨gI1 (List.mem_of_getElem? (i := 11) rfl), rfl⟩, ⟨gI5 (List.mem_of_getElem? (i := 114) rfl), rfl⟩, ⟨⟨by decide +kernel, by decide +kernel, by decide +kernel⟩, by decide⟩⟩
theorem bX6_take : gMB mX6_take 2 := ⟨rfl, ⟨gI5 (List.mem_of_getElem? (i := 126) rfl), rfl⟩, ⟨gI5 (List.mem_of_getElem? (i := 127) rfl), rfl⟩, ⟨gI1 (List.mem_of_getElem? (i := 11) rfl), rfl⟩, ⟨gI5 (List.mem_of_getElem? (i := 128) rfl), rfl⟩, ⟨⟨by decide +kernel, by decide +kernel, by decide +kernel⟩, by decide⟩⟩
theorem bX6_forget : gMB mX6_forget 0 := ⟨rfl, ⟨gI6 (List.mem_of_getElem? (i := 166) rfl), rfl⟩, ⟨gI6 (List.mem_of_getElem? (i := 167) rfl), rfl⟩, ⟨gI1 (List.mem_of_getElem? (i := 11) rfl), rfl⟩, ⟨gI6 (List.mem_of_getElem? (i := 168) rfl), rfl⟩, ⟨⟨by decide +kernel, by decide +kernel, by decide +kernel⟩, by decide⟩⟩
theorem bX6_length : gMB mX6_length 0 := ⟨rfl, ⟨gI5 (List.mem_of_getElem? (i := 136) rfl), rfl⟩, ⟨gI5 (List.mem_of_getElem? (i := 137) rfl), rfl⟩, ⟨gI1 (List.mem_of_getElem? (i := 11) rfl), rfl⟩, ⟨gI5 (List.mem_of_getElem? (i := 138) rfl), rfl⟩, ⟨⟨by decide +kernel, by decide +kernel, by decide +kernel⟩, by decide⟩⟩
theorem bX6_set : gMB mX6_set 1 := ⟨rfl, ⟨gI5 (List.mem_of_getElem? (i := 148) rfl), rfl⟩, ⟨gI5 (List.mem_of_getElem? (i := 149) rfl), rfl⟩, ⟨gI1 (List.mem_of_getElem? (i := 11) rfl), rfl⟩, ⟨gI5 (List.mem_of_getElem? (i := 150) rfl), rfl⟩, ⟨⟨by decide +kernel, by decide +kernel, by decide +kernel⟩, by decide⟩⟩
theorem bX6_width : gMB mX6_width 0 := ⟨rfl, ⟨gI5 (List.mem_of_getElem? (i := 159) rfl), rfl⟩, ⟨gI5 (List.mem_of_getElem? (i := 160) rfl), rfl⟩, ⟨gI1 (List.mem_of_getElem? (i := 11) rfl), rfl⟩, ⟨gI5 (List.mem_of_getElem? (i := 161) rfl), rfl⟩, ⟨⟨by decide +kernel, by decide +kernel, by decide +kernel⟩, by decide⟩⟩
theorem bX6_placeOf : gMB mX6_placeOf 1 := ⟨rfl, ⟨gI5 (List.mem_of_getElem? (i := 171) rfl), rfl⟩, ⟨gI5 (List.mem_of_getElem? (i := 172) rfl), rfl⟩, ⟨gI1 (List.mem_of_getElem? (i := 11) rfl), rfl⟩, ⟨gI5 (List.mem_of_getElem? (i := 173) rfl), rfl⟩, ⟨⟨by decide +kernel, by decide +kernel, by decide +kernel⟩, by decide⟩⟩
theorem bX6_breakLines : gMB mX6_breakLines 1 := ⟨rfl, ⟨gI5 (List.mem_of_getElem? (i := 187) rfl), rfl⟩, ⟨gI5 (List.mem_of_getElem? (i := 188) rfl), rfl⟩, ⟨gI1 (List.mem_of_getElem? (i := 11) rfl), rfl⟩, ⟨gI5 (List.mem_of_getElem? (i := 189) rfl), rfl⟩, ⟨⟨by decide +kernel, by decide +kernel, by decide +kernel⟩, by decide⟩⟩
theorem bX6_lineCount : gMB mX6_lineCount 0 := ⟨rfl, ⟨gI5 (List.mem_of_getElem? (i := 197) rfl), rfl⟩, ⟨gI5 (List.mem_of_getElem? (i := 198) rfl), rfl⟩, ⟨gI1 (List.mem_of_getElem? (i := 11) rfl), rfl⟩, ⟨gI5 (List.mem_of_getElem? (i := 199) rfl), rfl⟩, ⟨⟨by decide +kernel, by decide +kernel, by decide +kernel⟩, by decide⟩⟩
theorem bX6_lineWidth : gMB mX6_lineWidth 1 := ⟨rfl, ⟨gI5 (List.mem_of_getElem? (i := 211) rfl), rfl⟩, ⟨gI5 (List.mem_of_getElem? (i := 212) rfl), rfl⟩, ⟨gI1 (List.mem_of_getElem? (i := 11) rfl), rfl⟩, ⟨gI5 (List.mem_of_getElem? (i := 213) rfl), rfl⟩, ⟨⟨by decide +kernel, by decide +kernel, by decide +kernel⟩, by decide⟩⟩
theorem bX6_lineStart : gMB mX6_lineStart 1 := ⟨rfl, ⟨gI5 (List.mem_of_getElem? (i := 215) rfl), rfl⟩, ⟨gI5 (List.mem_of_getElem? (i := 216) rfl), rfl⟩, ⟨gI1 (List.mem_of_getElem? (i := 11) rfl), rfl⟩, ⟨gI5 (List.mem_of_getElem? (i := 217) rfl), rfl⟩, ⟨⟨by decide +kernel, by decide +kernel, by decide +kernel⟩, by decide⟩⟩
theorem bX6_lineWords : gMB mX6_lineWords 1 := ⟨rfl, ⟨gI5 (List.mem_of_getElem? (i := 219) rfl), rfl⟩, ⟨gI5 (List.mem_of_getElem? (i := 220) rfl), rfl⟩, ⟨gI1 (List.mem_of_getElem? (i := 11) rfl), rfl⟩, ⟨gI5 (List.mem_of_getElem? (i := 221) rfl), rfl⟩, ⟨⟨by decide +kernel, by decide +kernel, by decide +kernel⟩, by decide⟩⟩
theorem bX6_leastMeasureFor : gMB mX6_leastMeasureFor 1 := ⟨rfl, ⟨gI5 (List.mem_of_getElem? (i := 232) rfl), rfl⟩, ⟨gI5 (List.mem_of_getElem? (i := 233) rfl), rfl⟩, ⟨gI1 (List.mem_of_getElem? (i := 11) rfl), rfl⟩, ⟨gI5 (List.mem_of_getElem? (i := 234) rfl), rfl⟩, ⟨⟨by decide +kernel, by decide +kernel, by decide +kernel⟩, by decide⟩⟩
theorem bX6_isSpace : gMB mX6_isSpace 1 := ⟨rfl, ⟨gI5 (List.mem_of_getElem? (i := 155) rfl), rfl⟩, ⟨gI0 (List.mem_of_getElem? (i := 10) rfl), rfl⟩, ⟨gI1 (List.mem_of_getElem? (i := 11) rfl), rfl⟩, ⟨gI5 (List.mem_of_getElem? (i := 156) rfl), rfl⟩, ⟨⟨by decide +kernel, by decide +kernel, by decide +kernel⟩, by decide⟩⟩
theorem bX6_putWord : gMB mX6_putWord 3 := ⟨rfl, ⟨gI5 (List.mem_of_getElem? (i := 193) rfl), rfl⟩, ⟨gI0 (List.mem_of_getElem? (i := 11) rfl), rfl⟩, ⟨gI1 (List.mem_of_getElem? (i := 11) rfl), rfl⟩, ⟨gI5 (List.mem_of_getElem? (i := 194) rfl), rfl⟩, ⟨⟨by decide +kernel, by decide +kernel, by decide +kernel⟩, by decide⟩⟩
theorem bX7_get : gMB mX7_get 1 := ⟨rfl, ⟨gI2 (List.mem_of_getElem? (i := 207) rfl), rfl⟩, ⟨gI2 (List.mem_of_getElem? (i := 208) rfl), rfl⟩, ⟨gI1 (List.mem_of_getElem? (i := 4) rfl), rfl⟩, ⟨gI2 (List.mem_of_getElem? (i := 209) rfl), rfl⟩, ⟨⟨by decide +kernel, by decide +kernel, by decide +kernel⟩, by decide⟩⟩
theorem bX7_put : gMB mX7_put 2 := ⟨rfl, ⟨gI3 (List.mem_of_getElem? (i := 1) rfl), rfl⟩, ⟨gI3 (List.mem_of_getElem? (i := 2) rfl), rfl⟩, ⟨gI1 (List.mem_of_getElem? (i := 4) rfl), rfl⟩, ⟨gI3 (List.mem_of_getElem? (i := 3) rfl), rfl⟩, ⟨⟨by decide +kernel, by decide +kernel, by decide +kernel⟩, by decide⟩⟩
theorem bX7_copyFrom : gMB mX7_copyFrom 1 := ⟨rfl, ⟨gI2 (List.mem_of_getElem? (i := 88) rfl), rfl⟩, ⟨gI2 (List.mem_of_getElem? (i := 89) rfl), rfl⟩, ⟨gI1 (List.mem_of_getElem? (i := 4) rfl), rfl⟩, ⟨gI2 (List.mem_of_getElem? (i := 90) rfl), rfl⟩, ⟨⟨by decide +kernel, by decide +kernel, by decide +kernel⟩, by decide⟩⟩
theorem bX8_copyFrom : gMB mX8_copyFrom 1 := ⟨rfl, ⟨gI2 (List.mem_of_getElem? (i := 108) rfl), rfl⟩, ⟨gI2 (List.mem_of_getElem? (i := 109) rfl), rfl⟩, ⟨gI1 (List.mem_of_getElem? (i := 7) rfl), rfl⟩, ⟨gI2 (List.mem_of_getElem? (i := 110) rfl), rfl⟩, ⟨⟨by decide +kernel, by decide +kernel, by decide +kernel⟩, by decide⟩⟩
theorem bX8_countOf : gMB mX8_countOf 1 := ⟨rfl, ⟨gI3 (List.mem_of_getElem? (i := 188) rfl), rfl⟩, ⟨gI3 (List.mem_of_getElem? (i := 189) rfl), rfl⟩, ⟨gI1 (List.mem_of_getElem? (i := 7) rfl), rfl⟩, ⟨gI3 (List.mem_of_getElem? (i := 190) rfl), rfl⟩, ⟨⟨by decide +kernel, by decide +kernel, by decide +kernel⟩, by decide⟩⟩
theorem bX8_leftOf : gMB mX8_leftOf 2 := ⟨rfl, ⟨gI4 (List.mem_of_getElem? (i := 224) rfl), rfl⟩, ⟨gI4 (List.mem_of_getElem? (i := 225) rfl), rfl⟩, ⟨gI1 (List.mem_of_getElem? (i := 7) rfl), rfl⟩, ⟨gI4 (List.mem_of_getElem? (i := 226) rfl), rfl⟩, ⟨⟨by decide +kernel, by decide +kernel, by decide +kernel⟩, by decide⟩⟩
theorem bX8_rightOf : gMB mX8_rightOf 2 := ⟨rfl, ⟨gI4 (List.mem_of_getElem? (i := 220) rfl), rfl⟩, ⟨gI4 (List.mem_of_getElem? (i := 221) rfl), rfl⟩, ⟨gI1 (List.mem_of_getElem? (i := 7) rfl), rfl⟩, ⟨gI4 (List.mem_of_getElem? (i := 222) rfl), rfl⟩, ⟨⟨by decide +kernel, by decide +kernel, by decide +kernel⟩, by decide⟩⟩
theorem bX8_put : gMB mX8_put 4 := ⟨rfl, ⟨gI4 (List.mem_of_getElem? (i := 234) rfl), rfl⟩, ⟨gI0 (List.mem_of_getElem? (i := 8) rfl), rfl⟩, ⟨gI1 (List.mem_of_getElem? (i := 7) rfl), rfl⟩, ⟨gI4 (List.mem_of_getElem? (i := 235) rfl), rfl⟩, ⟨⟨by decide +kernel, by decide +kernel, by decide +kernel⟩, by decide⟩⟩
theorem bX8_isTaken : gMB mX8_isTaken 3 := ⟨rfl, ⟨gI4 (List.mem_of_getElem? (i := 215) rfl), rfl⟩, ⟨gI4 (List.mem_of_getElem? (i := 216) rfl), rfl⟩, ⟨gI1 (List.mem_of_getElem? (i := 7) rfl), rfl⟩, ⟨gI4 (List.mem_of_getElem? (i := 217) rfl), rfl⟩, ⟨⟨by decide +kernel, by decide +kernel, by decide +kernel⟩, by decide⟩⟩
theorem bX8_insert : gMB mX8_insert 3 := ⟨rfl, ⟨gI4 (List.mem_of_getElem? (i := 229) rfl), rfl⟩, ⟨gI4 (List.mem_of_getElem? (i := 230) rfl), rfl⟩, ⟨gI1 (List.mem_of_getElem? (i := 7) rfl), rfl⟩, ⟨gI4 (List.mem_of_getElem? (i := 231) rfl), rfl⟩, ⟨⟨by decide +kernel, by decide +kernel, by decide +kernel⟩, by decide⟩⟩
theorem bX8_takeOut : gMB mX8_takeOut 2 := ⟨rfl, ⟨gI5 (List.mem_of_getElem? (i := 10) rfl), rfl⟩, ⟨gI5 (List.mem_of_getElem? (i := 11) rfl), rfl⟩, ⟨gI1 (List.mem_of_getElem? (i := 7) rfl), rfl⟩, ⟨gI5 (List.mem_of_getElem? (i := 12) rfl), rfl⟩, ⟨⟨by decide +kernel, by decide +kernel, by decide +kernel⟩, by decide⟩⟩
theorem bX8_sum : gMB mX8_sum 0 := ⟨rfl, ⟨gI6 (List.mem_of_getElem? (i := 56) rfl), rfl⟩, ⟨gI6 (List.mem_of_getElem? (i := 57) rfl), rfl⟩, ⟨gI1 (List.mem_of_getElem? (i := 7) rfl), rfl⟩, ⟨gI6 (List.mem_of_getElem? (i := 58) rfl), rfl⟩, ⟨⟨by decide +kernel, by decide +kernel, by decide +kernel⟩, by decide⟩⟩
theorem bX8_placeOn : gMB mX8_placeOn 3 := ⟨rfl, ⟨gI5 (List.mem_of_getElem? (i := 38) rfl), rfl⟩, ⟨gI5 (List.mem_of_getElem? (i := 39) rfl), rfl⟩, ⟨gI1 (List.mem_of_getElem? (i := 7) rfl), rfl⟩, ⟨gI5 (List.mem_of_getElem? (i := 40) rfl), rfl⟩, ⟨⟨by decide +kernel, by decide +kernel, by decide +kernel⟩, by decide⟩⟩
theorem bX8_rounded : gMSB mX8_rounded 2 := ⟨rfl, ⟨gI5 (List.mem_of_getElem? (i := 42) rfl), rfl⟩, ⟨gI1 (List.mem_of_getElem? (i := 7) rfl), rfl⟩, ⟨gI5 (List.mem_of_getElem? (i := 43) rfl), rfl⟩, ⟨⟨by decide +kernel, by decide +kernel, by decide +kernel⟩, by decide⟩⟩
theorem bX9_length : gMB mX9_length 0 := ⟨rfl, ⟨gI5 (List.mem_of_getElem? (i := 116) rfl), rfl⟩, ⟨gI5 (List.mem_of_getElem? (i := 117) rfl), rfl⟩, ⟨gI1 (List.mem_of_getElem? (i := 9) rfl), rfl⟩, ⟨gI5 (List.mem_of_getElem? (i := 118) rfl), rfl⟩, ⟨⟨by decide +kernel, by decide +kernel, by decide +kernel⟩, by decide⟩⟩
theorem bX9_isFull : gMB mX9_isFull 0 := ⟨rfl, ⟨gI5 (List.mem_of_getElem? (i := 96) rfl), rfl⟩, ⟨gI5 (List.mem_of_getElem? (i := 97) rfl), rfl⟩, ⟨gI1 (List.mem_of_getElem? (i := 9) rfl), rfl⟩, ⟨gI5 (List.mem_of_getElem? (i := 98) rfl), rfl⟩, ⟨⟨by decide +kernel, by decide +kernel, by decide +kernel⟩, by decide⟩⟩
theorem bX9_signAt : gMB mX9_signAt 1 := ⟨rfl, ⟨gI5 (List.mem_of_getElem? (i := 120) rfl), rfl⟩, ⟨gI5 (List.mem_of_getElem? (i := 121) rfl), rfl⟩, ⟨gI1 (List.mem_of_getElem? (i := 9) rfl), rfl⟩, ⟨gI5 (List.mem_of_getElem? (i := 122) rfl), rfl⟩, ⟨⟨by decide +kernel, by decide +kernel, by decide +kernel⟩, by decide⟩⟩
theorem bX9_add : gMB mX9_add 1 := ⟨rfl, ⟨gI5 (List.mem_of_getElem? (i := 101) rfl), rfl⟩, ⟨gI5 (List.mem_of_getElem? (i := 102) rfl), rfl⟩, ⟨gI1 (List.mem_of_getElem? (i := 9) rfl), rfl⟩, ⟨gI5 (List.mem_of_getElem? (i := 103) rfl), rfl⟩, ⟨⟨by decide +kernel, by decide +kernel, by decide +kernel⟩, by decide⟩⟩
theorem bX9_clear : gMB mX9_clear 0 := ⟨rfl, ⟨gI5 (List.mem_of_getElem? (i := 131) rfl), rfl⟩, ⟨gI5 (List.mem_of_getElem? (i := 132) rfl), rfl⟩, ⟨gI1 (List.mem_of_getElem? (i := 9) rfl), rfl⟩, ⟨gI5 (List.mem_of_getElem? (i := 133) rfl), rfl⟩, ⟨⟨by decide +kernel, by decide +kernel, by decide +kernel⟩, by decide⟩⟩
theorem bX10_addGlyph : gMB mX10_addGlyph 1 := ⟨rfl, ⟨gI2 (List.mem_of_getElem? (i := 118) rfl), rfl⟩, ⟨gI2 (List.mem_of_getElem? (i := 119) rfl), rfl⟩, ⟨gI1 (List.mem_of_getElem? (i := 1) rfl), rfl⟩, ⟨gI2 (List.mem_of_getElem? (i := 120) rfl), rfl⟩, ⟨⟨by decide +kernel, by decide +kernel, by decide +kernel⟩, by decide⟩⟩
theorem bX10_addContour : gMB mX10_addContour 5 := ⟨rfl, ⟨gI3 (List.mem_of_getElem? (i := 32) rfl), rfl⟩, ⟨gI3 (List.mem_of_getElem? (i := 33) rfl), rfl⟩, ⟨gI1 (List.mem_of_getElem? (i := 1) rfl), rfl⟩, ⟨gI3 (List.mem_of_getElem? (i := 34) rfl), rfl⟩, ⟨⟨by decide +kernel, by decide +kernel, by decide +kernel⟩, by decide⟩⟩
theorem bX10_movePoint : gMB mX10_movePoint 5 := ⟨rfl, ⟨gI3 (List.mem_of_getElem? (i := 99) rfl), rfl⟩, ⟨gI3 (List.mem_of_getElem? (i := 100) rfl), rfl⟩, ⟨gI1 (List.mem_of_getElem? (i := 1) rfl), rfl⟩, ⟨gI3 (List.mem_of_getElem? (i := 101) rfl), rfl⟩, ⟨⟨by decide +kernel, by decide +kernel, by decide +kernel⟩, by decide⟩⟩
theorem bX10_shift : gMB mX10_shift 3 := ⟨rfl, ⟨gI3 (List.mem_of_getElem? (i := 126) rfl), rfl⟩, ⟨gI3 (List.mem_of_getElem? (i := 127) rfl), rfl⟩, ⟨gI1 (List.mem_of_getElem? (i := 1) rfl), rfl⟩, ⟨gI3 (List.mem_of_getElem? (i := 128) rfl), rfl⟩, ⟨⟨by decide +kernel, by decide +kernel, by decide +kernel⟩, by decide⟩⟩
theorem bX10_glyph : gMB mX10_glyph 2 := ⟨rfl, ⟨gI3 (List.mem_of_getElem? (i := 155) rfl), rfl⟩, ⟨gI3 (List.mem_of_getElem? (i := 156) rfl), rfl⟩, ⟨gI1 (List.mem_of_getElem? (i := 1) rfl), rfl⟩, ⟨gI3 (List.mem_of_getElem? (i := 157) rfl), rfl⟩, ⟨⟨by decide +kernel, by decide +kernel, by decide +kernel⟩, by decide⟩⟩
theorem bX10_find : gMB mX10_find 1 := ⟨rfl, ⟨gI3 (List.mem_of_getElem? (i := 209) rfl), rfl⟩, ⟨gI3 (List.mem_of_getElem? (i := 210) rfl), rfl⟩, ⟨gI1 (List.mem_of_getElem? (i := 1) rfl), rfl⟩, ⟨gI3 (List.mem_of_getElem? (i := 211) rfl), rfl⟩, ⟨⟨by decide +kernel, by decide +kernel, by decide +kernel⟩, by decide⟩⟩
theorem bX10_points : gMB mX10_points 2 := ⟨rfl, ⟨gI3 (List.mem_of_getElem? (i := 232) rfl), rfl⟩, ⟨gI3 (List.mem_of_getElem? (i := 233) rfl), rfl⟩, ⟨gI1 (List.mem_of_getElem? (i := 1) rfl), rfl⟩, ⟨gI3 (List.mem_of_getElem? (i := 234) rfl), rfl⟩, ⟨⟨by decide +kernel, by decide +kernel, by decide +kernel⟩, by decide⟩⟩
theorem bX10_point : gMB mX10_point 4 := ⟨rfl, ⟨gI3 (List.mem_of_getElem? (i := 239) rfl), rfl⟩, ⟨gI4 (List.mem_of_getElem? (i := 0) rfl), rfl⟩, ⟨gI1 (List.mem_of_getElem? (i := 1) rfl), rfl⟩, ⟨gI4 (List.mem_of_getElem? (i := 1) rfl), rfl⟩, ⟨⟨by decide +kernel, by decide +kernel, by decide +kernel⟩, by decide⟩⟩
theorem bX10_area : gMB mX10_area 2 := ⟨rfl, ⟨gI4 (List.mem_of_getElem? (i := 6) rfl), rfl⟩, ⟨gI4 (List.mem_of_getElem? (i := 7) rfl), rfl⟩, ⟨gI1 (List.mem_of_getElem? (i := 1) rfl), rfl⟩, ⟨gI4 (List.mem_of_getElem? (i := 8) rfl), rfl⟩, ⟨⟨by decide +kernel, by decide +kernel, by decide +kernel⟩, by decide⟩⟩
theorem bX10_setSide : gMB mX10_setSide 3 := ⟨rfl, ⟨gI4 (List.mem_of_getElem? (i := 14) rfl), rfl⟩, ⟨gI4 (List.mem_of_getElem? (i := 15) rfl), rfl⟩, ⟨gI1 (List.mem_of_getElem? (i := 1) rfl), rfl⟩, ⟨gI4 (List.mem_of_getElem? (i := 16) rfl), rfl⟩, ⟨⟨by decide +kernel, by decide +kernel, by decide +kernel⟩, by decide⟩⟩
theorem bX10_follow : gMB mX10_follow 5 := ⟨rfl, ⟨gI4 (List.mem_of_getElem? (i := 35) rfl), rfl⟩, ⟨gI4 (List.mem_of_getElem? (i := 36) rfl), rfl⟩, ⟨gI1 (List.mem_of_getElem? (i := 1) rfl), rfl⟩, ⟨gI4 (List.mem_of_getElem? (i := 37) rfl), rfl⟩, ⟨⟨by decide +kernel, by decide +kernel, by decide +kernel⟩, by decide⟩⟩
theorem bX10_side : gMB mX10_side 3 := ⟨rfl, ⟨gI4 (List.mem_of_getElem? (i := 69) rfl), rfl⟩, ⟨gI4 (List.mem_of_getElem? (i := 70) rfl), rfl⟩, ⟨gI1 (List.mem_of_getElem? (i := 1) rfl), rfl⟩, ⟨gI4 (List.mem_of_getElem? (i := 71) rfl), rfl⟩, ⟨⟨by decide +kernel, by decide +kernel, by decide +kernel⟩, by decide⟩⟩
theorem bX10_followers : gMB mX10_followers 2 := ⟨rfl, ⟨gI4 (List.mem_of_getElem? (i := 90) rfl), rfl⟩, ⟨gI4 (List.mem_of_getElem? (i := 91) rfl), rfl⟩, ⟨gI1 (List.mem_of_getElem? (i := 1) rfl), rfl⟩, ⟨gI4 (List.mem_of_getElem? (i := 92) rfl), rfl⟩, ⟨⟨by decide +kernel, by decide +kernel, by decide +kernel⟩, by decide⟩⟩
theorem bX10_setClass : gMB mX10_setClass 3 := ⟨rfl, ⟨gI4 (List.mem_of_getElem? (i := 102) rfl), rfl⟩, ⟨gI4 (List.mem_of_getElem? (i := 103) rfl), rfl⟩, ⟨gI1 (List.mem_of_getElem? (i := 1) rfl), rfl⟩, ⟨gI4 (List.mem_of_getElem? (i := 104) rfl), rfl⟩, ⟨⟨by decide +kernel, by decide +kernel, by decide +kernel⟩, by decide⟩⟩
theorem bX10_kernClasses : gMB mX10_kernClasses 3 := ⟨rfl, ⟨gI4 (List.mem_of_getElem? (i := 117) rfl), rfl⟩, ⟨gI4 (List.mem_of_getElem? (i := 118) rfl), rfl⟩, ⟨gI1 (List.mem_of_getElem? (i := 1) rfl), rfl⟩, ⟨gI4 (List.mem_of_getElem? (i := 119) rfl), rfl⟩, ⟨⟨by decide +kernel, by decide +kernel, by decide +kernel⟩, by decide⟩⟩
theorem bX10_kernPair : gMB mX10_kernPair 3 := ⟨rfl, ⟨gI4 (List.mem_of_getElem? (i := 148) rfl), rfl⟩, ⟨gI4 (List.mem_of_getElem? (i := 149) rfl), rfl⟩, ⟨gI1 (List.mem_of_getElem? (i := 1) rfl), rfl⟩, ⟨gI4 (List.mem_of_getElem? (i := 150) rfl), rfl⟩, ⟨⟨by decide +kernel, by decide +kernel, by decide +kernel⟩, by decide⟩⟩
theorem bX10_dropKern : gMB mX10_dropKern 3 := ⟨rfl, ⟨gI4 (List.mem_of_getElem? (i := 170) rfl), rfl⟩, ⟨gI4 (List.mem_of_getElem? (i := 171) rfl), rfl⟩, ⟨gI1 (List.mem_of_getElem? (i := 1) rfl), rfl⟩, ⟨gI4 (List.mem_of_getElem? (i := 172) rfl), rfl⟩, ⟨⟨by decide +kernel, by decide +kernel, by decide +kernel⟩, by decide⟩⟩
theorem bX10_kern : gMB mX10_kern 2 := ⟨rfl, ⟨gI4 (List.mem_of_getElem? (i := 187) rfl), rfl⟩, ⟨gI4 (List.mem_of_getElem? (i := 188) rfl), rfl⟩, ⟨gI1 (List.mem_of_getElem? (i := 1) rfl), rfl⟩, ⟨gI4 (List.mem_of_getElem? (i := 189) rfl), rfl⟩, ⟨⟨by decide +kernel, by decide +kernel, by decide +kernel⟩, by decide⟩⟩
theorem bX10_why : gMB mX10_why 2 := ⟨rfl, ⟨gI4 (List.mem_of_getElem? (i := 202) rfl), rfl⟩, ⟨gI4 (List.mem_of_getElem? (i := 203) rfl), rfl⟩, ⟨gI1 (List.mem_of_getElem? (i := 1) rfl), rfl⟩, ⟨gI4 (List.mem_of_getElem? (i := 204) rfl), rfl⟩, ⟨⟨by decide +kernel, by decide +kernel, by decide +kernel⟩, by decide⟩⟩
theorem bX10_addStem : gMB mX10_addStem 3 := ⟨rfl, ⟨gI4 (List.mem_of_getElem? (i := 210) rfl), rfl⟩, ⟨gI4 (List.mem_of_getElem? (i := 211) rfl), rfl⟩, ⟨gI1 (List.mem_of_getElem? (i := 1) rfl), rfl⟩, ⟨gI4 (List.mem_of_getElem? (i := 212) rfl), rfl⟩, ⟨⟨by decide +kernel, by decide +kernel, by decide +kernel⟩, by decide⟩⟩
theorem bX10_removeStem : gMB mX10_removeStem 2 := ⟨rfl, ⟨gI5 (List.mem_of_getElem? (i := 1) rfl), rfl⟩, ⟨gI5 (List.mem_of_getElem? (i := 2) rfl), rfl⟩, ⟨gI1 (List.mem_of_getElem? (i := 1) rfl), rfl⟩, ⟨gI5 (List.mem_of_getElem? (i := 3) rfl), rfl⟩, ⟨⟨by decide +kernel, by decide +kernel, by decide +kernel⟩, by decide⟩⟩
theorem bX10_stem : gMB mX10_stem 3 := ⟨rfl, ⟨gI5 (List.mem_of_getElem? (i := 17) rfl), rfl⟩, ⟨gI5 (List.mem_of_getElem? (i := 18) rfl), rfl⟩, ⟨gI1 (List.mem_of_getElem? (i := 1) rfl), rfl⟩, ⟨gI5 (List.mem_of_getElem? (i := 19) rfl), rfl⟩, ⟨⟨by decide +kernel, by decide +kernel, by decide +kernel⟩, by decide⟩⟩
theorem bX10_place : gMB mX10_place 3 := ⟨rfl, ⟨gI5 (List.mem_of_getElem? (i := 26) rfl), rfl⟩, ⟨gI5 (List.mem_of_getElem? (i := 27) rfl), rfl⟩, ⟨gI1 (List.mem_of_getElem? (i := 1) rfl), rfl⟩, ⟨gI5 (List.mem_of_getElem? (i := 28) rfl), rfl⟩, ⟨⟨by decide +kernel, by decide +kernel, by decide +kernel⟩, by decide⟩⟩
theorem bX10_isBlack : gMB mX10_isBlack 4 := ⟨rfl, ⟨gI5 (List.mem_of_getElem? (i := 52) rfl), rfl⟩, ⟨gI5 (List.mem_of_getElem? (i := 53) rfl), rfl⟩, ⟨gI1 (List.mem_of_getElem? (i := 1) rfl), rfl⟩, ⟨gI5 (List.mem_of_getElem? (i := 54) rfl), rfl⟩, ⟨⟨by decide +kernel, by decide +kernel, by decide +kernel⟩, by decide⟩⟩
theorem bX10_blackPixels : gMB mX10_blackPixels 2 := ⟨rfl, ⟨gI5 (List.mem_of_getElem? (i := 69) rfl), rfl⟩, ⟨gI5 (List.mem_of_getElem? (i := 70) rfl), rfl⟩, ⟨gI1 (List.mem_of_getElem? (i := 1) rfl), rfl⟩, ⟨gI5 (List.mem_of_getElem? (i := 71) rfl), rfl⟩, ⟨⟨by decide +kernel, by decide +kernel, by decide +kernel⟩, by decide⟩⟩
theorem bX10_setProof : gMB mX10_setProof 2 := ⟨rfl, ⟨gI5 (List.mem_of_getElem? (i := 82) rfl), rfl⟩, ⟨gI5 (List.mem_of_getElem? (i := 83) rfl), rfl⟩, ⟨gI1 (List.mem_of_getElem? (i := 1) rfl), rfl⟩, ⟨gI5 (List.mem_of_getElem? (i := 84) rfl), rfl⟩, ⟨⟨by decide +kernel, by decide +kernel, by decide +kernel⟩, by decide⟩⟩
theorem bX10_append : gMB mX10_append 1 := ⟨rfl, ⟨gI5 (List.mem_of_getElem? (i := 92) rfl), rfl⟩, ⟨gI5 (List.mem_of_getElem? (i := 93) rfl), rfl⟩, ⟨gI1 (List.mem_of_getElem? (i := 1) rfl), rfl⟩, ⟨gI5 (List.mem_of_getElem? (i := 94) rfl), rfl⟩, ⟨⟨by decide +kernel, by decide +kernel, by decide +kernel⟩, by decide⟩⟩
theorem bX10_takeProof : gMB mX10_takeProof 0 := ⟨rfl, ⟨gI5 (List.mem_of_getElem? (i := 109) rfl), rfl⟩, ⟨gI5 (List.mem_of_getElem? (i := 110) rfl), rfl⟩, ⟨gI1 (List.mem_of_getElem? (i := 1) rfl), rfl⟩, ⟨gI5 (List.mem_of_getElem? (i := 111) rfl), rfl⟩, ⟨⟨by decide +kernel, by decide +kernel, by decide +kernel⟩, by decide⟩⟩
theorem bX10_proofWidth : gMB mX10_proofWidth 0 := ⟨rfl, ⟨gI5 (List.mem_of_getElem? (i := 143) rfl), rfl⟩, ⟨gI5 (List.mem_of_getElem? (i := 144) rfl), rfl⟩, ⟨gI1 (List.mem_of_getElem? (i := 1) rfl), rfl⟩, ⟨gI5 (List.mem_of_getElem? (i := 145) rfl), rfl⟩, ⟨⟨by decide +kernel, by decide +kernel, by decide +kernel⟩, by decide⟩⟩
theorem bX10_position : gMB mX10_position 1 := ⟨rfl, ⟨gI5 (List.mem_of_getElem? (i := 166) rfl), rfl⟩, ⟨gI5 (List.mem_of_getElem? (i := 167) rfl), rfl⟩, ⟨gI1 (List.mem_of_getElem? (i := 1) rfl), rfl⟩, ⟨gI5 (List.mem_of_getElem? (i := 168) rfl), rfl⟩, ⟨⟨by decide +kernel, by decide +kernel, by decide +kernel⟩, by decide⟩⟩
theorem bX10_lines : gMB mX10_lines 1 := ⟨rfl, ⟨gI5 (List.mem_of_getElem? (i := 178) rfl), rfl⟩, ⟨gI5 (List.mem_of_getElem? (i := 179) rfl), rfl⟩, ⟨gI1 (List.mem_of_getElem? (i := 1) rfl), rfl⟩, ⟨gI5 (List.mem_of_getElem? (i := 180) rfl), rfl⟩, ⟨⟨by decide +kernel, by decide +kernel, by decide +kernel⟩, by decide⟩⟩
theorem bX10_line : gMB mX10_line 3 := ⟨rfl, ⟨gI5 (List.mem_of_getElem? (i := 204) rfl), rfl⟩, ⟨gI5 (List.mem_of_getElem? (i := 205) rfl), rfl⟩, ⟨gI1 (List.mem_of_getElem? (i := 1) rfl), rfl⟩, ⟨gI5 (List.mem_of_getElem? (i := 206) rfl), rfl⟩, ⟨⟨by decide +kernel, by decide +kernel, by decide +kernel⟩, by decide⟩⟩
theorem bX10_leastMeasure : gMB mX10_leastMeasure 1 := ⟨rfl, ⟨gI5 (List.mem_of_getElem? (i := 226) rfl), rfl⟩, ⟨gI5 (List.mem_of_getElem? (i := 227) rfl), rfl⟩, ⟨gI1 (List.mem_of_getElem? (i := 1) rfl), rfl⟩, ⟨gI5 (List.mem_of_getElem? (i := 228) rfl), rfl⟩, ⟨⟨by decide +kernel, by decide +kernel, by decide +kernel⟩, by decide⟩⟩
theorem bX10_meanAdvance : gMB mX10_meanAdvance 0 := ⟨rfl, ⟨gI6 (List.mem_of_getElem? (i := 16) rfl), rfl⟩, ⟨gI6 (List.mem_of_getElem? (i := 17) rfl), rfl⟩, ⟨gI1 (List.mem_of_getElem? (i := 1) rfl), rfl⟩, ⟨gI6 (List.mem_of_getElem? (i := 18) rfl), rfl⟩, ⟨⟨by decide +kernel, by decide +kernel, by decide +kernel⟩, by decide⟩⟩
theorem bX10_account : gMB mX10_account 1 := ⟨rfl, ⟨gI6 (List.mem_of_getElem? (i := 32) rfl), rfl⟩, ⟨gI6 (List.mem_of_getElem? (i := 33) rfl), rfl⟩, ⟨gI1 (List.mem_of_getElem? (i := 1) rfl), rfl⟩, ⟨gI6 (List.mem_of_getElem? (i := 34) rfl), rfl⟩, ⟨⟨by decide +kernel, by decide +kernel, by decide +kernel⟩, by decide⟩⟩
theorem bX10_readGlyph : gMB mX10_readGlyph 0 := ⟨rfl, ⟨gI6 (List.mem_of_getElem? (i := 63) rfl), rfl⟩, ⟨gI6 (List.mem_of_getElem? (i := 64) rfl), rfl⟩, ⟨gI1 (List.mem_of_getElem? (i := 1) rfl), rfl⟩, ⟨gI6 (List.mem_of_getElem? (i := 65) rfl), rfl⟩, ⟨⟨by decide +kernel, by decide +kernel, by decide +kernel⟩, by decide⟩⟩
theorem bX10_faultPosition : gMB mX10_faultPosition 0 := ⟨rfl, ⟨gI2 (List.mem_of_getElem? (i := 72) rfl), rfl⟩, ⟨gI2 (List.mem_of_getElem? (i := 73) rfl), rfl⟩, ⟨gI1 (List.mem_of_getElem? (i := 1) rfl), rfl⟩, ⟨gI2 (List.mem_of_getElem? (i := 74) rfl), rfl⟩, ⟨⟨by decide +kernel, by decide +kernel, by decide +kernel⟩, by decide⟩⟩
theorem bX10_undo : gMB mX10_undo 0 := ⟨rfl, ⟨gI6 (List.mem_of_getElem? (i := 152) rfl), rfl⟩, ⟨gI6 (List.mem_of_getElem? (i := 153) rfl), rfl⟩, ⟨gI1 (List.mem_of_getElem? (i := 1) rfl), rfl⟩, ⟨gI6 (List.mem_of_getElem? (i := 154) rfl), rfl⟩, ⟨⟨by decide +kernel, by decide +kernel, by decide +kernel⟩, by decide⟩⟩
theorem bX10_save : gMB mX10_save 0 := ⟨rfl, ⟨gI2 (List.mem_of_getElem? (i := 76) rfl), rfl⟩, ⟨gI2 (List.mem_of_getElem? (i := 77) rfl), rfl⟩, ⟨gI1 (List.mem_of_getElem? (i := 1) rfl), rfl⟩, ⟨gI2 (List.mem_of_getElem? (i := 78) rfl), rfl⟩, ⟨⟨by decide +kernel, by decide +kernel, by decide +kernel⟩, by decide⟩⟩
theorem bX10_restore : gMB mX10_restore 0 := ⟨rfl, ⟨gI6 (List.mem_of_getElem? (i := 173) rfl), rfl⟩, ⟨gI6 (List.mem_of_getElem? (i := 174) rfl), rfl⟩, ⟨gI1 (List.mem_of_getElem? (i := 1) rfl), rfl⟩, ⟨gI6 (List.mem_of_getElem? (i := 175) rfl), rfl⟩, ⟨⟨by decide +kernel, by decide +kernel, by decide +kernel⟩, by decide⟩⟩
theorem bX10_isWithin : gMSB mX10_isWithin 3 := ⟨rfl, ⟨gI2 (List.mem_of_getElem? (i := 124) rfl), rfl⟩, ⟨gI1 (List.mem_of_getElem? (i := 1) rfl), rfl⟩, ⟨gI2 (List.mem_of_getElem? (i := 125) rfl), rfl⟩, ⟨⟨by decide +kernel, by decide +kernel, by decide +kernel⟩, by decide⟩⟩
theorem bX10_requireGlyph : gMB mX10_requireGlyph 1 := ⟨rfl, ⟨gI3 (List.mem_of_getElem? (i := 37) rfl), rfl⟩, ⟨gI0 (List.mem_of_getElem? (i := 2) rfl), rfl⟩, ⟨gI1 (List.mem_of_getElem? (i := 1) rfl), rfl⟩, ⟨gI3 (List.mem_of_getElem? (i := 38) rfl), rfl⟩, ⟨⟨by decide +kernel, by decide +kernel, by decide +kernel⟩, by decide⟩⟩
theorem bX10_requireContour : gMB mX10_requireContour 2 := ⟨rfl, ⟨gI3 (List.mem_of_getElem? (i := 108) rfl), rfl⟩, ⟨gI0 (List.mem_of_getElem? (i := 4) rfl), rfl⟩, ⟨gI1 (List.mem_of_getElem? (i := 1) rfl), rfl⟩, ⟨gI3 (List.mem_of_getElem? (i := 109) rfl), rfl⟩, ⟨⟨by decide +kernel, by decide +kernel, by decide +kernel⟩, by decide⟩⟩
theorem bX10_requirePoint : gMB mX10_requirePoint 3 := ⟨rfl, ⟨gI3 (List.mem_of_getElem? (i := 104) rfl), rfl⟩, ⟨gI0 (List.mem_of_getElem? (i := 3) rfl), rfl⟩, ⟨gI1 (List.mem_of_getElem? (i := 1) rfl), rfl⟩, ⟨gI3 (List.mem_of_getElem? (i := 105) rfl), rfl⟩, ⟨⟨by decide +kernel, by decide +kernel, by decide +kernel⟩, by decide⟩⟩
theorem bX10_requireSide : gMB mX10_requireSide 2 := ⟨rfl, ⟨gI4 (List.mem_of_getElem? (i := 19) rfl), rfl⟩, ⟨gI0 (List.mem_of_getElem? (i := 7) rfl), rfl⟩, ⟨gI1 (List.mem_of_getElem? (i := 1) rfl), rfl⟩, ⟨gI4 (List.mem_of_getElem? (i := 20) rfl), rfl⟩, ⟨⟨by decide +kernel, by decide +kernel, by decide +kernel⟩, by decide⟩⟩
theorem bX10_requireStem : gMB mX10_requireStem 2 := ⟨rfl, ⟨gI5 (List.mem_of_getElem? (i := 6) rfl), rfl⟩, ⟨gI0 (List.mem_of_getElem? (i := 9) rfl), rfl⟩, ⟨gI1 (List.mem_of_getElem? (i := 1) rfl), rfl⟩, ⟨gI5 (List.mem_of_getElem? (i := 7) rfl), rfl⟩, ⟨⟨by decide +kernel, by decide +kernel, by decide +kernel⟩, by decide⟩⟩
theorem bX10_requireCoordinates : gMSB mX10_requireCoordinates 2 := ⟨rfl, ⟨gI3 (List.mem_of_getElem? (i := 58) rfl), rfl⟩, ⟨gI1 (List.mem_of_getElem? (i := 1) rfl), rfl⟩, ⟨gI3 (List.mem_of_getElem? (i := 59) rfl), rfl⟩, ⟨⟨by decide +kernel, by decide +kernel, by decide +kernel⟩, by decide⟩⟩
theorem bX10_requireKern : gMSB mX10_requireKern 1 := ⟨rfl, ⟨gI4 (List.mem_of_getElem? (i := 126) rfl), rfl⟩, ⟨gI1 (List.mem_of_getElem? (i := 1) rfl), rfl⟩, ⟨gI4 (List.mem_of_getElem? (i := 127) rfl), rfl⟩, ⟨⟨by decide +kernel, by decide +kernel, by decide +kernel⟩, by decide⟩⟩
theorem bX10_requireGrid : gMSB mX10_requireGrid 2 := ⟨rfl, ⟨gI5 (List.mem_of_getElem? (i := 30) rfl), rfl⟩, ⟨gI1 (List.mem_of_getElem? (i := 1) rfl), rfl⟩, ⟨gI5 (List.mem_of_getElem? (i := 31) rfl), rfl⟩, ⟨⟨by decide +kernel, by decide +kernel, by decide +kernel⟩, by decide⟩⟩
theorem bX10_requireMeasure : gMSB mX10_requireMeasure 1 := ⟨rfl, ⟨gI5 (List.mem_of_getElem? (i := 182) rfl), rfl⟩, ⟨gI1 (List.mem_of_getElem? (i := 1) rfl), rfl⟩, ⟨gI5 (List.mem_of_getElem? (i := 183) rfl), rfl⟩, ⟨⟨by decide +kernel, by decide +kernel, by decide +kernel⟩, by decide⟩⟩
theorem bX11_thrown : gMB mX11_thrown 0 := ⟨rfl, ⟨gI7 (List.mem_of_getElem? (i := 25) rfl), rfl⟩, ⟨gI7 (List.mem_of_getElem? (i := 26) rfl), rfl⟩, ⟨gI1 (List.mem_of_getElem? (i := 12) rfl), rfl⟩, ⟨gI7 (List.mem_of_getElem? (i := 27) rfl), rfl⟩, ⟨⟨by decide +kernel, by decide +kernel, by decide +kernel⟩, by decide⟩⟩
theorem bX11_in : gMSB mX11_in 3 := ⟨rfl, ⟨gI7 (List.mem_of_getElem? (i := 33) rfl), rfl⟩, ⟨gI1 (List.mem_of_getElem? (i := 12) rfl), rfl⟩, ⟨gI7 (List.mem_of_getElem? (i := 34) rfl), rfl⟩, ⟨⟨by decide +kernel, by decide +kernel, by decide +kernel⟩, by decide⟩⟩
theorem bX11_isCoordinate : gMSB mX11_isCoordinate 1 := ⟨rfl, ⟨gI7 (List.mem_of_getElem? (i := 64) rfl), rfl⟩, ⟨gI1 (List.mem_of_getElem? (i := 12) rfl), rfl⟩, ⟨gI7 (List.mem_of_getElem? (i := 65) rfl), rfl⟩, ⟨⟨by decide +kernel, by decide +kernel, by decide +kernel⟩, by decide⟩⟩
theorem bX11_at : gMSB mX11_at 2 := ⟨rfl, ⟨gI7 (List.mem_of_getElem? (i := 44) rfl), rfl⟩, ⟨gI1 (List.mem_of_getElem? (i := 12) rfl), rfl⟩, ⟨gI7 (List.mem_of_getElem? (i := 45) rfl), rfl⟩, ⟨⟨by decide +kernel, by decide +kernel, by decide +kernel⟩, by decide⟩⟩
theorem bX11_of : gMB mX11_of 2 := ⟨rfl, ⟨gI7 (List.mem_of_getElem? (i := 41) rfl), rfl⟩, ⟨gI0 (List.mem_of_getElem? (i := 24) rfl), rfl⟩, ⟨gI1 (List.mem_of_getElem? (i := 12) rfl), rfl⟩, ⟨gI7 (List.mem_of_getElem? (i := 42) rfl), rfl⟩, ⟨⟨by decide +kernel, by decide +kernel, by decide +kernel⟩, by decide⟩⟩
theorem bX11_isGlyph : gMB mX11_isGlyph 1 := ⟨rfl, ⟨gI7 (List.mem_of_getElem? (i := 61) rfl), rfl⟩, ⟨gI0 (List.mem_of_getElem? (i := 27) rfl), rfl⟩, ⟨gI1 (List.mem_of_getElem? (i := 12) rfl), rfl⟩, ⟨gI7 (List.mem_of_getElem? (i := 62) rfl), rfl⟩, ⟨⟨by decide +kernel, by decide +kernel, by decide +kernel⟩, by decide⟩⟩
theorem bX11_isContour : gMB mX11_isContour 2 := ⟨rfl, ⟨gI7 (List.mem_of_getElem? (i := 83) rfl), rfl⟩, ⟨gI0 (List.mem_of_getElem? (i := 30) rfl), rfl⟩, ⟨gI1 (List.mem_of_getElem? (i := 12) rfl), rfl⟩, ⟨gI7 (List.mem_of_getElem? (i := 84) rfl), rfl⟩, ⟨⟨by decide +kernel, by decide +kernel, by decide +kernel⟩, by decide⟩⟩
theorem bX11_isPoint : gMB mX11_isPoint 3 := ⟨rfl, ⟨gI7 (List.mem_of_getElem? (i := 79) rfl), rfl⟩, ⟨gI0 (List.mem_of_getElem? (i := 29) rfl), rfl⟩, ⟨gI1 (List.mem_of_getElem? (i := 12) rfl), rfl⟩, ⟨gI7 (List.mem_of_getElem? (i := 80) rfl), rfl⟩, ⟨⟨by decide +kernel, by decide +kernel, by decide +kernel⟩, by decide⟩⟩
theorem bX11_pointAt : gMSB mX11_pointAt 3 := ⟨rfl, ⟨gI7 (List.mem_of_getElem? (i := 71) rfl), rfl⟩, ⟨gI1 (List.mem_of_getElem? (i := 12) rfl), rfl⟩, ⟨gI7 (List.mem_of_getElem? (i := 72) rfl), rfl⟩, ⟨⟨by decide +kernel, by decide +kernel, by decide +kernel⟩, by decide⟩⟩
theorem bX11_change : gMB mX11_change 0 := ⟨rfl, ⟨gI7 (List.mem_of_getElem? (i := 48) rfl), rfl⟩, ⟨gI0 (List.mem_of_getElem? (i := 25) rfl), rfl⟩, ⟨gI1 (List.mem_of_getElem? (i := 12) rfl), rfl⟩, ⟨gI7 (List.mem_of_getElem? (i := 49) rfl), rfl⟩, ⟨⟨by decide +kernel, by decide +kernel, by decide +kernel⟩, by decide⟩⟩
theorem bX11_withCode : gMB mX11_withCode 1 := ⟨rfl, ⟨gI7 (List.mem_of_getElem? (i := 37) rfl), rfl⟩, ⟨gI0 (List.mem_of_getElem? (i := 23) rfl), rfl⟩, ⟨gI1 (List.mem_of_getElem? (i := 12) rfl), rfl⟩, ⟨gI7 (List.mem_of_getElem? (i := 38) rfl), rfl⟩, ⟨⟨by decide +kernel, by decide +kernel, by decide +kernel⟩, by decide⟩⟩
theorem bX11_newGlyph : gMB mX11_newGlyph 1 := ⟨rfl, ⟨gI7 (List.mem_of_getElem? (i := 53) rfl), rfl⟩, ⟨gI0 (List.mem_of_getElem? (i := 26) rfl), rfl⟩, ⟨gI1 (List.mem_of_getElem? (i := 12) rfl), rfl⟩, ⟨gI7 (List.mem_of_getElem? (i := 54) rfl), rfl⟩, ⟨⟨by decide +kernel, by decide +kernel, by decide +kernel⟩, by decide⟩⟩
theorem bX11_addGlyph : gMB mX11_addGlyph 1 := ⟨rfl, ⟨gI7 (List.mem_of_getElem? (i := 29) rfl), rfl⟩, ⟨gI7 (List.mem_of_getElem? (i := 30) rfl), rfl⟩, ⟨gI1 (List.mem_of_getElem? (i := 12) rfl), rfl⟩, ⟨gI7 (List.mem_of_getElem? (i := 31) rfl), rfl⟩, ⟨⟨by decide +kernel, by decide +kernel, by decide +kernel⟩, by decide⟩⟩
theorem bX11_setPoint : gMB mX11_setPoint 5 := ⟨rfl, ⟨gI7 (List.mem_of_getElem? (i := 68) rfl), rfl⟩, ⟨gI0 (List.mem_of_getElem? (i := 28) rfl), rfl⟩, ⟨gI1 (List.mem_of_getElem? (i := 12) rfl), rfl⟩, ⟨gI7 (List.mem_of_getElem? (i := 69) rfl), rfl⟩, ⟨⟨by decide +kernel, by decide +kernel, by decide +kernel⟩, by decide⟩⟩
theorem bX11_addContour : gMB mX11_addContour 5 := ⟨rfl, ⟨gI7 (List.mem_of_getElem? (i := 56) rfl), rfl⟩, ⟨gI7 (List.mem_of_getElem? (i := 57) rfl), rfl⟩, ⟨gI1 (List.mem_of_getElem? (i := 12) rfl), rfl⟩, ⟨gI7 (List.mem_of_getElem? (i := 58) rfl), rfl⟩, ⟨⟨by decide +kernel, by decide +kernel, by decide +kernel⟩, by decide⟩⟩
theorem bX11_movePoint : gMB mX11_movePoint 5 := ⟨rfl, ⟨gI7 (List.mem_of_getElem? (i := 74) rfl), rfl⟩, ⟨gI7 (List.mem_of_getElem? (i := 75) rfl), rfl⟩, ⟨gI1 (List.mem_of_getElem? (i := 12) rfl), rfl⟩, ⟨gI7 (List.mem_of_getElem? (i := 76) rfl), rfl⟩, ⟨⟨by decide +kernel, by decide +kernel, by decide +kernel⟩, by decide⟩⟩
theorem bX11_pointsOf : gMB mX11_pointsOf 1 := ⟨rfl, ⟨gI7 (List.mem_of_getElem? (i := 101) rfl), rfl⟩, ⟨gI0 (List.mem_of_getElem? (i := 32) rfl), rfl⟩, ⟨gI1 (List.mem_of_getElem? (i := 12) rfl), rfl⟩, ⟨gI7 (List.mem_of_getElem? (i := 102) rfl), rfl⟩, ⟨⟨by decide +kernel, by decide +kernel, by decide +kernel⟩, by decide⟩⟩
theorem bX11_edge : gMB mX11_edge 2 := ⟨rfl, ⟨gI7 (List.mem_of_getElem? (i := 91) rfl), rfl⟩, ⟨gI0 (List.mem_of_getElem? (i := 31) rfl), rfl⟩, ⟨gI1 (List.mem_of_getElem? (i := 12) rfl), rfl⟩, ⟨gI7 (List.mem_of_getElem? (i := 92) rfl), rfl⟩, ⟨⟨by decide +kernel, by decide +kernel, by decide +kernel⟩, by decide⟩⟩
theorem bX11_shift : gMB mX11_shift 3 := ⟨rfl, ⟨gI7 (List.mem_of_getElem? (i := 86) rfl), rfl⟩, ⟨gI7 (List.mem_of_getElem? (i := 87) rfl), rfl⟩, ⟨gI1 (List.mem_of_getElem? (i := 12) rfl), rfl⟩, ⟨gI7 (List.mem_of_getElem? (i := 88) rfl), rfl⟩, ⟨⟨by decide +kernel, by decide +kernel, by decide +kernel⟩, by decide⟩⟩
theorem bX11_areaOf : gMB mX11_areaOf 2 := ⟨rfl, ⟨gI7 (List.mem_of_getElem? (i := 124) rfl), rfl⟩, ⟨gI0 (List.mem_of_getElem? (i := 37) rfl), rfl⟩, ⟨gI1 (List.mem_of_getElem? (i := 12) rfl), rfl⟩, ⟨gI7 (List.mem_of_getElem? (i := 125) rfl), rfl⟩, ⟨⟨by decide +kernel, by decide +kernel, by decide +kernel⟩, by decide⟩⟩
theorem bX11_areas : gMB mX11_areas 1 := ⟨rfl, ⟨gI7 (List.mem_of_getElem? (i := 120) rfl), rfl⟩, ⟨gI0 (List.mem_of_getElem? (i := 36) rfl), rfl⟩, ⟨gI1 (List.mem_of_getElem? (i := 12) rfl), rfl⟩, ⟨gI7 (List.mem_of_getElem? (i := 121) rfl), rfl⟩, ⟨⟨by decide +kernel, by decide +kernel, by decide +kernel⟩, by decide⟩⟩
theorem bX11_glyph : gMB mX11_glyph 2 := ⟨rfl, ⟨gI7 (List.mem_of_getElem? (i := 96) rfl), rfl⟩, ⟨gI7 (List.mem_of_getElem? (i := 97) rfl), rfl⟩, ⟨gI1 (List.mem_of_getElem? (i := 12) rfl), rfl⟩, ⟨gI7 (List.mem_of_getElem? (i := 98) rfl), rfl⟩, ⟨⟨by decide +kernel, by decide +kernel, by decide +kernel⟩, by decide⟩⟩
theorem bX11_find : gMB mX11_find 1 := ⟨rfl, ⟨gI7 (List.mem_of_getElem? (i := 127) rfl), rfl⟩, ⟨gI7 (List.mem_of_getElem? (i := 128) rfl), rfl⟩, ⟨gI1 (List.mem_of_getElem? (i := 12) rfl), rfl⟩, ⟨gI7 (List.mem_of_getElem? (i := 129) rfl), rfl⟩, ⟨⟨by decide +kernel, by decide +kernel, by decide +kernel⟩, by decide⟩⟩
theorem bX11_points : gMB mX11_points 2 := ⟨rfl, ⟨gI7 (List.mem_of_getElem? (i := 131) rfl), rfl⟩, ⟨gI7 (List.mem_of_getElem? (i := 132) rfl), rfl⟩, ⟨gI1 (List.mem_of_getElem? (i := 12) rfl), rfl⟩, ⟨gI7 (List.mem_of_getElem? (i := 133) rfl), rfl⟩, ⟨⟨by decide +kernel, by decide +kernel, by decide +kernel⟩, by decide⟩⟩
theorem bX11_point : gMB mX11_point 4 := ⟨rfl, ⟨gI7 (List.mem_of_getElem? (i := 135) rfl), rfl⟩, ⟨gI7 (List.mem_of_getElem? (i := 136) rfl), rfl⟩, ⟨gI1 (List.mem_of_getElem? (i := 12) rfl), rfl⟩, ⟨gI7 (List.mem_of_getElem? (i := 137) rfl), rfl⟩, ⟨⟨by decide +kernel, by decide +kernel, by decide +kernel⟩, by decide⟩⟩
theorem bX11_area : gMB mX11_area 2 := ⟨rfl, ⟨gI7 (List.mem_of_getElem? (i := 139) rfl), rfl⟩, ⟨gI7 (List.mem_of_getElem? (i := 140) rfl), rfl⟩, ⟨gI1 (List.mem_of_getElem? (i := 12) rfl), rfl⟩, ⟨gI7 (List.mem_of_getElem? (i := 141) rfl), rfl⟩, ⟨⟨by decide +kernel, by decide +kernel, by decide +kernel⟩, by decide⟩⟩
theorem bX11_sideAt : gMSB mX11_sideAt 2 := ⟨rfl, ⟨gI7 (List.mem_of_getElem? (i := 116) rfl), rfl⟩, ⟨gI1 (List.mem_of_getElem? (i := 12) rfl), rfl⟩, ⟨gI7 (List.mem_of_getElem? (i := 117) rfl), rfl⟩, ⟨⟨by decide +kernel, by decide +kernel, by decide +kernel⟩, by decide⟩⟩
theorem bX11_followed : gMB mX11_followed 1 := ⟨rfl, ⟨gI7 (List.mem_of_getElem? (i := 113) rfl), rfl⟩, ⟨gI0 (List.mem_of_getElem? (i := 35) rfl), rfl⟩, ⟨gI1 (List.mem_of_getElem? (i := 12) rfl), rfl⟩, ⟨gI7 (List.mem_of_getElem? (i := 114) rfl), rfl⟩, ⟨⟨by decide +kernel, by decide +kernel, by decide +kernel⟩, by decide⟩⟩
theorem bX11_rulesOf : gMB mX11_rulesOf 1 := ⟨rfl, ⟨gI7 (List.mem_of_getElem? (i := 164) rfl), rfl⟩, ⟨gI0 (List.mem_of_getElem? (i := 40) rfl), rfl⟩, ⟨gI1 (List.mem_of_getElem? (i := 12) rfl), rfl⟩, ⟨gI7 (List.mem_of_getElem? (i := 165) rfl), rfl⟩, ⟨⟨by decide +kernel, by decide +kernel, by decide +kernel⟩, by decide⟩⟩
theorem bX11_bearing : gMB mX11_bearing 1 := ⟨rfl, ⟨gI7 (List.mem_of_getElem? (i := 109) rfl), rfl⟩, ⟨gI0 (List.mem_of_getElem? (i := 34) rfl), rfl⟩, ⟨gI1 (List.mem_of_getElem? (i := 12) rfl), rfl⟩, ⟨gI7 (List.mem_of_getElem? (i := 110) rfl), rfl⟩, ⟨⟨by decide +kernel, by decide +kernel, by decide +kernel⟩, by decide⟩⟩
theorem bX11_advance : gMB mX11_advance 1 := ⟨rfl, ⟨gI7 (List.mem_of_getElem? (i := 105) rfl), rfl⟩, ⟨gI0 (List.mem_of_getElem? (i := 33) rfl), rfl⟩, ⟨gI1 (List.mem_of_getElem? (i := 12) rfl), rfl⟩, ⟨gI7 (List.mem_of_getElem? (i := 106) rfl), rfl⟩, ⟨⟨by decide +kernel, by decide +kernel, by decide +kernel⟩, by decide⟩⟩
theorem bX11_isSide : gMB mX11_isSide 2 := ⟨rfl, ⟨gI7 (List.mem_of_getElem? (i := 148) rfl), rfl⟩, ⟨gI0 (List.mem_of_getElem? (i := 38) rfl), rfl⟩, ⟨gI1 (List.mem_of_getElem? (i := 12) rfl), rfl⟩, ⟨gI7 (List.mem_of_getElem? (i := 149) rfl), rfl⟩, ⟨⟨by decide +kernel, by decide +kernel, by decide +kernel⟩, by decide⟩⟩
theorem bX11_setSide : gMB mX11_setSide 3 := ⟨rfl, ⟨gI7 (List.mem_of_getElem? (i := 143) rfl), rfl⟩, ⟨gI7 (List.mem_of_getElem? (i := 144) rfl), rfl⟩, ⟨gI1 (List.mem_of_getElem? (i := 12) rfl), rfl⟩, ⟨gI7 (List.mem_of_getElem? (i := 145) rfl), rfl⟩, ⟨⟨by decide +kernel, by decide +kernel, by decide +kernel⟩, by decide⟩⟩
theorem bX11_leadsTo : gMB mX11_leadsTo 2 := ⟨rfl, ⟨gI7 (List.mem_of_getElem? (i := 156) rfl), rfl⟩, ⟨gI0 (List.mem_of_getElem? (i := 39) rfl), rfl⟩, ⟨gI1 (List.mem_of_getElem? (i := 12) rfl), rfl⟩, ⟨gI7 (List.mem_of_getElem? (i := 157) rfl), rfl⟩, ⟨⟨by decide +kernel, by decide +kernel, by decide +kernel⟩, by decide⟩⟩
theorem bX11_follow : gMB mX11_follow 5 := ⟨rfl, ⟨gI7 (List.mem_of_getElem? (i := 151) rfl), rfl⟩, ⟨gI7 (List.mem_of_getElem? (i := 152) rfl), rfl⟩, ⟨gI1 (List.mem_of_getElem? (i := 12) rfl), rfl⟩, ⟨gI7 (List.mem_of_getElem? (i := 153) rfl), rfl⟩, ⟨⟨by decide +kernel, by decide +kernel, by decide +kernel⟩, by decide⟩⟩
theorem bX11_side : gMB mX11_side 3 := ⟨rfl, ⟨gI7 (List.mem_of_getElem? (i := 159) rfl), rfl⟩, ⟨gI7 (List.mem_of_getElem? (i := 160) rfl), rfl⟩, ⟨gI1 (List.mem_of_getElem? (i := 12) rfl), rfl⟩, ⟨gI7 (List.mem_of_getElem? (i := 161) rfl), rfl⟩, ⟨⟨by decide +kernel, by decide +kernel, by decide +kernel⟩, by decide⟩⟩
theorem bX11_followers : gMB mX11_followers 2 := ⟨rfl, ⟨gI7 (List.mem_of_getElem? (i := 167) rfl), rfl⟩, ⟨gI7 (List.mem_of_getElem? (i := 168) rfl), rfl⟩, ⟨gI1 (List.mem_of_getElem? (i := 12) rfl), rfl⟩, ⟨gI7 (List.mem_of_getElem? (i := 169) rfl), rfl⟩, ⟨⟨by decide +kernel, by decide +kernel, by decide +kernel⟩, by decide⟩⟩
theorem bX11_setClass : gMB mX11_setClass 3 := ⟨rfl, ⟨gI7 (List.mem_of_getElem? (i := 171) rfl), rfl⟩, ⟨gI7 (List.mem_of_getElem? (i := 172) rfl), rfl⟩, ⟨gI1 (List.mem_of_getElem? (i := 12) rfl), rfl⟩, ⟨gI7 (List.mem_of_getElem? (i := 173) rfl), rfl⟩, ⟨⟨by decide +kernel, by decide +kernel, by decide +kernel⟩, by decide⟩⟩
theorem bX11_isKern : gMSB mX11_isKern 1 := ⟨rfl, ⟨gI7 (List.mem_of_getElem? (i := 182) rfl), rfl⟩, ⟨gI1 (List.mem_of_getElem? (i := 12) rfl), rfl⟩, ⟨gI7 (List.mem_of_getElem? (i := 183) rfl), rfl⟩, ⟨⟨by decide +kernel, by decide +kernel, by decide +kernel⟩, by decide⟩⟩
theorem bX11_isClass : gMSB mX11_isClass 1 := ⟨rfl, ⟨gI7 (List.mem_of_getElem? (i := 179) rfl), rfl⟩, ⟨gI1 (List.mem_of_getElem? (i := 12) rfl), rfl⟩, ⟨gI7 (List.mem_of_getElem? (i := 180) rfl), rfl⟩, ⟨⟨by decide +kernel, by decide +kernel, by decide +kernel⟩, by decide⟩⟩
theorem bX11_classKerns : gMB mX11_classKerns 0 := ⟨rfl, ⟨gI7 (List.mem_of_getElem? (i := 186) rfl), rfl⟩, ⟨gI0 (List.mem_of_getElem? (i := 41) rfl), rfl⟩, ⟨gI1 (List.mem_of_getElem? (i := 12) rfl), rfl⟩, ⟨gI7 (List.mem_of_getElem? (i := 187) rfl), rfl⟩, ⟨⟨by decide +kernel, by decide +kernel, by decide +kernel⟩, by decide⟩⟩
theorem bX11_kernClasses : gMB mX11_kernClasses 3 := ⟨rfl, ⟨gI7 (List.mem_of_getElem? (i := 175) rfl), rfl⟩, ⟨gI7 (List.mem_of_getElem? (i := 176) rfl), rfl⟩, ⟨gI1 (List.mem_of_getElem? (i := 12) rfl), rfl⟩, ⟨gI7 (List.mem_of_getElem? (i := 177) rfl), rfl⟩, ⟨⟨by decide +kernel, by decide +kernel, by decide +kernel⟩, by decide⟩⟩
theorem bX11_pairOf : gMB mX11_pairOf 2 := ⟨rfl, ⟨gI7 (List.mem_of_getElem? (i := 194) rfl), rfl⟩, ⟨gI0 (List.mem_of_getElem? (i := 42) rfl), rfl⟩, ⟨gI1 (List.mem_of_getElem? (i := 12) rfl), rfl⟩, ⟨gI7 (List.mem_of_getElem? (i := 195) rfl), rfl⟩, ⟨⟨by decide +kernel, by decide +kernel, by decide +kernel⟩, by decide⟩⟩
theorem bX11_kernPair : gMB mX11_kernPair 3 := ⟨rfl, ⟨gI7 (List.mem_of_getElem? (i := 189) rfl), rfl⟩, ⟨gI7 (List.mem_of_getElem? (i := 190) rfl), rfl⟩, ⟨gI1 (List.mem_of_getElem? (i := 12) rfl), rfl⟩, ⟨gI7 (List.mem_of_getElem? (i := 191) rfl), rfl⟩, ⟨⟨by decide +kernel, by decide +kernel, by decide +kernel⟩, by decide⟩⟩
theorem bX11_isToldFor : gMB mX11_isToldFor 2 := ⟨rfl, ⟨gI7 (List.mem_of_getElem? (i := 202) rfl), rfl⟩, ⟨gI0 (List.mem_of_getElem? (i := 43) rfl), rfl⟩, ⟨gI1 (List.mem_of_getElem? (i := 12) rfl), rfl⟩, ⟨gI7 (List.mem_of_getElem? (i := 203) rfl), rfl⟩, ⟨⟨by decide +kernel, by decide +kernel, by decide +kernel⟩, by decide⟩⟩
theorem bX11_dropKern : gMB mX11_dropKern 3 := ⟨rfl, ⟨gI7 (List.mem_of_getElem? (i := 197) rfl), rfl⟩, ⟨gI7 (List.mem_of_getElem? (i := 198) rfl), rfl⟩, ⟨gI1 (List.mem_of_getElem? (i := 12) rfl), rfl⟩, ⟨gI7 (List.mem_of_getElem? (i := 199) rfl), rfl⟩, ⟨⟨by decide +kernel, by decide +kernel, by decide +kernel⟩, by decide⟩⟩
theorem bX11_hasClassKern : gMB mX11_hasClassKern 2 := ⟨rfl, ⟨gI7 (List.mem_of_getElem? (i := 214) rfl), rfl⟩, ⟨gI0 (List.mem_of_getElem? (i := 45) rfl), rfl⟩, ⟨gI1 (List.mem_of_getElem? (i := 12) rfl), rfl⟩, ⟨gI7 (List.mem_of_getElem? (i := 215) rfl), rfl⟩, ⟨⟨by decide +kernel, by decide +kernel, by decide +kernel⟩, by decide⟩⟩
theorem bX11_kernOf : gMB mX11_kernOf 2 := ⟨rfl, ⟨gI7 (List.mem_of_getElem? (i := 210) rfl), rfl⟩, ⟨gI0 (List.mem_of_getElem? (i := 44) rfl), rfl⟩, ⟨gI1 (List.mem_of_getElem? (i := 12) rfl), rfl⟩, ⟨gI7 (List.mem_of_getElem? (i := 211) rfl), rfl⟩, ⟨⟨by decide +kernel, by decide +kernel, by decide +kernel⟩, by decide⟩⟩
theorem bX11_kern : gMB mX11_kern 2 := ⟨rfl, ⟨gI7 (List.mem_of_getElem? (i := 205) rfl), rfl⟩, ⟨gI7 (List.mem_of_getElem? (i := 206) rfl), rfl⟩, ⟨gI1 (List.mem_of_getElem? (i := 12) rfl), rfl⟩, ⟨gI7 (List.mem_of_getElem? (i := 207) rfl), rfl⟩, ⟨⟨by decide +kernel, by decide +kernel, by decide +kernel⟩, by decide⟩⟩
theorem bX11_why : gMB mX11_why 2 := ⟨rfl, ⟨gI7 (List.mem_of_getElem? (i := 217) rfl), rfl⟩, ⟨gI7 (List.mem_of_getElem? (i := 218) rfl), rfl⟩, ⟨gI1 (List.mem_of_getElem? (i := 12) rfl), rfl⟩, ⟨gI7 (List.mem_of_getElem? (i := 219) rfl), rfl⟩, ⟨⟨by decide +kernel, by decide +kernel, by decide +kernel⟩, by decide⟩⟩
theorem bX11_addStem : gMB mX11_addStem 3 := ⟨rfl, ⟨gI7 (List.mem_of_getElem? (i := 221) rfl), rfl⟩, ⟨gI7 (List.mem_of_getElem? (i := 222) rfl), rfl⟩, ⟨gI1 (List.mem_of_getElem? (i := 12) rfl), rfl⟩, ⟨gI7 (List.mem_of_getElem? (i := 223) rfl), rfl⟩, ⟨⟨by decide +kernel, by decide +kernel, by decide +kernel⟩, by decide⟩⟩
theorem bX11_isStem : gMB mX11_isStem 2 := ⟨rfl, ⟨gI7 (List.mem_of_getElem? (i := 230) rfl), rfl⟩, ⟨gI0 (List.mem_of_getElem? (i := 46) rfl), rfl⟩, ⟨gI1 (List.mem_of_getElem? (i := 12) rfl), rfl⟩, ⟨gI7 (List.mem_of_getElem? (i := 231) rfl), rfl⟩, ⟨⟨by decide +kernel, by decide +kernel, by decide +kernel⟩, by decide⟩⟩
theorem bX11_removeStem : gMB mX11_removeStem 2 := ⟨rfl, ⟨gI7 (List.mem_of_getElem? (i := 225) rfl), rfl⟩, ⟨gI7 (List.mem_of_getElem? (i := 226) rfl), rfl⟩, ⟨gI1 (List.mem_of_getElem? (i := 12) rfl), rfl⟩, ⟨gI7 (List.mem_of_getElem? (i := 227) rfl), rfl⟩, ⟨⟨by decide +kernel, by decide +kernel, by decide +kernel⟩, by decide⟩⟩
theorem bX11_stem : gMB mX11_stem 3 := ⟨rfl, ⟨gI7 (List.mem_of_getElem? (i := 233) rfl), rfl⟩, ⟨gI7 (List.mem_of_getElem? (i := 234) rfl), rfl⟩, ⟨gI1 (List.mem_of_getElem? (i := 12) rfl), rfl⟩, ⟨gI7 (List.mem_of_getElem? (i := 235) rfl), rfl⟩, ⟨⟨by decide +kernel, by decide +kernel, by decide +kernel⟩, by decide⟩⟩
theorem bX11_rounded : gMSB mX11_rounded 2 := ⟨rfl, ⟨gI8 (List.mem_of_getElem? (i := 5) rfl), rfl⟩, ⟨gI1 (List.mem_of_getElem? (i := 12) rfl), rfl⟩, ⟨gI8 (List.mem_of_getElem? (i := 6) rfl), rfl⟩, ⟨⟨by decide +kernel, by decide +kernel, by decide +kernel⟩, by decide⟩⟩
theorem bX11_placeOf : gMB mX11_placeOf 3 := ⟨rfl, ⟨gI8 (List.mem_of_getElem? (i := 2) rfl), rfl⟩, ⟨gI0 (List.mem_of_getElem? (i := 47) rfl), rfl⟩, ⟨gI1 (List.mem_of_getElem? (i := 12) rfl), rfl⟩, ⟨gI8 (List.mem_of_getElem? (i := 3) rfl), rfl⟩, ⟨⟨by decide +kernel, by decide +kernel, by decide +kernel⟩, by decide⟩⟩
theorem bX11_place : gMB mX11_place 3 := ⟨rfl, ⟨gI7 (List.mem_of_getElem? (i := 237) rfl), rfl⟩, ⟨gI7 (List.mem_of_getElem? (i := 238) rfl), rfl⟩, ⟨gI1 (List.mem_of_getElem? (i := 12) rfl), rfl⟩, ⟨gI7 (List.mem_of_getElem? (i := 239) rfl), rfl⟩, ⟨⟨by decide +kernel, by decide +kernel, by decide +kernel⟩, by decide⟩⟩
theorem bX11_crosses : gMSB mX11_crosses 7 := ⟨rfl, ⟨gI8 (List.mem_of_getElem? (i := 18) rfl), rfl⟩, ⟨gI1 (List.mem_of_getElem? (i := 12) rfl), rfl⟩, ⟨gI8 (List.mem_of_getElem? (i := 19) rfl), rfl⟩, ⟨⟨by decide +kernel, by decide +kernel, by decide +kernel⟩, by decide⟩⟩
theorem bX11_black : gMB mX11_black 4 := ⟨rfl, ⟨gI8 (List.mem_of_getElem? (i := 14) rfl), rfl⟩, ⟨gI0 (List.mem_of_getElem? (i := 48) rfl), rfl⟩, ⟨gI1 (List.mem_of_getElem? (i := 12) rfl), rfl⟩, ⟨gI8 (List.mem_of_getElem? (i := 15) rfl), rfl⟩, ⟨⟨by decide +kernel, by decide +kernel, by decide +kernel⟩, by decide⟩⟩
theorem bX11_isBlack : gMB mX11_isBlack 4 := ⟨rfl, ⟨gI8 (List.mem_of_getElem? (i := 9) rfl), rfl⟩, ⟨gI8 (List.mem_of_getElem? (i := 10) rfl), rfl⟩, ⟨gI1 (List.mem_of_getElem? (i := 12) rfl), rfl⟩, ⟨gI8 (List.mem_of_getElem? (i := 11) rfl), rfl⟩, ⟨⟨by decide +kernel, by decide +kernel, by decide +kernel⟩, by decide⟩⟩
theorem bX11_blackPixels : gMB mX11_blackPixels 2 := ⟨rfl, ⟨gI8 (List.mem_of_getElem? (i := 21) rfl), rfl⟩, ⟨gI8 (List.mem_of_getElem? (i := 22) rfl), rfl⟩, ⟨gI1 (List.mem_of_getElem? (i := 12) rfl), rfl⟩, ⟨gI8 (List.mem_of_getElem? (i := 23) rfl), rfl⟩, ⟨⟨by decide +kernel, by decide +kernel, by decide +kernel⟩, by decide⟩⟩
theorem bX11_setProof : gMB mX11_setProof 2 := ⟨rfl, ⟨gI8 (List.mem_of_getElem? (i := 25) rfl), rfl⟩, ⟨gI8 (List.mem_of_getElem? (i := 26) rfl), rfl⟩, ⟨gI1 (List.mem_of_getElem? (i := 12) rfl), rfl⟩, ⟨gI8 (List.mem_of_getElem? (i := 27) rfl), rfl⟩, ⟨⟨by decide +kernel, by decide +kernel, by decide +kernel⟩, by decide⟩⟩
theorem bX11_append : gMB mX11_append 1 := ⟨rfl, ⟨gI8 (List.mem_of_getElem? (i := 29) rfl), rfl⟩, ⟨gI8 (List.mem_of_getElem? (i := 30) rfl), rfl⟩, ⟨gI1 (List.mem_of_getElem? (i := 12) rfl), rfl⟩, ⟨gI8 (List.mem_of_getElem? (i := 31) rfl), rfl⟩, ⟨⟨by decide +kernel, by decide +kernel, by decide +kernel⟩, by decide⟩⟩
theorem bX11_takeProof : gMB mX11_takeProof 0 := ⟨rfl, ⟨gI8 (List.mem_of_getElem? (i := 33) rfl), rfl⟩, ⟨gI8 (List.mem_of_getElem? (i := 34) rfl), rfl⟩, ⟨gI1 (List.mem_of_getElem? (i := 12) rfl), rfl⟩, ⟨gI8 (List.mem_of_getElem? (i := 35) rfl), rfl⟩, ⟨⟨by decide +kernel, by decide +kernel, by decide +kernel⟩, by decide⟩⟩
theorem bX11_widthOf : gMB mX11_widthOf 1 := ⟨rfl, ⟨gI8 (List.mem_of_getElem? (i := 50) rfl), rfl⟩, ⟨gI0 (List.mem_of_getElem? (i := 51) rfl), rfl⟩, ⟨gI1 (List.mem_of_getElem? (i := 12) rfl), rfl⟩, ⟨gI8 (List.mem_of_getElem? (i := 51) rfl), rfl⟩, ⟨⟨by decide +kernel, by decide +kernel, by decide +kernel⟩, by decide⟩⟩
theorem bX11_stepOver : gMB mX11_stepOver 2 := ⟨rfl, ⟨gI8 (List.mem_of_getElem? (i := 46) rfl), rfl⟩, ⟨gI0 (List.mem_of_getElem? (i := 50) rfl), rfl⟩, ⟨gI1 (List.mem_of_getElem? (i := 12) rfl), rfl⟩, ⟨gI8 (List.mem_of_getElem? (i := 47) rfl), rfl⟩, ⟨⟨by decide +kernel, by decide +kernel, by decide +kernel⟩, by decide⟩⟩
theorem bX11_begins : gMB mX11_begins 1 := ⟨rfl, ⟨gI8 (List.mem_of_getElem? (i := 42) rfl), rfl⟩, ⟨gI0 (List.mem_of_getElem? (i := 49) rfl), rfl⟩, ⟨gI1 (List.mem_of_getElem? (i := 12) rfl), rfl⟩, ⟨gI8 (List.mem_of_getElem? (i := 43) rfl), rfl⟩, ⟨⟨by decide +kernel, by decide +kernel, by decide +kernel⟩, by decide⟩⟩
theorem bX11_proofWidth : gMB mX11_proofWidth 0 := ⟨rfl, ⟨gI8 (List.mem_of_getElem? (i := 37) rfl), rfl⟩, ⟨gI8 (List.mem_of_getElem? (i := 38) rfl), rfl⟩, ⟨gI1 (List.mem_of_getElem? (i := 12) rfl), rfl⟩, ⟨gI8 (List.mem_of_getElem? (i := 39) rfl), rfl⟩, ⟨⟨by decide +kernel, by decide +kernel, by decide +kernel⟩, by decide⟩⟩
theorem bX11_position : gMB mX11_position 1 := ⟨rfl, ⟨gI8 (List.mem_of_getElem? (i := 53) rfl), rfl⟩, ⟨gI8 (List.mem_of_getElem? (i := 54) rfl), rfl⟩, ⟨gI1 (List.mem_of_getElem? (i := 12) rfl), rfl⟩, ⟨gI8 (List.mem_of_getElem? (i := 55) rfl), rfl⟩, ⟨⟨by decide +kernel, by decide +kernel, by decide +kernel⟩, by decide⟩⟩
theorem bX11_findWords : gMB mX11_findWords 0 := ⟨rfl, ⟨gI8 (List.mem_of_getElem? (i := 66) rfl), rfl⟩, ⟨gI0 (List.mem_of_getElem? (i := 52) rfl), rfl⟩, ⟨gI1 (List.mem_of_getElem? (i := 12) rfl), rfl⟩, ⟨gI8 (List.mem_of_getElem? (i := 67) rfl), rfl⟩, ⟨⟨by decide +kernel, by decide +kernel, by decide +kernel⟩, by decide⟩⟩
theorem bX11_more : gMB mX11_more 1 := ⟨rfl, ⟨gI8 (List.mem_of_getElem? (i := 74) rfl), rfl⟩, ⟨gI0 (List.mem_of_getElem? (i := 54) rfl), rfl⟩, ⟨gI1 (List.mem_of_getElem? (i := 12) rfl), rfl⟩, ⟨gI8 (List.mem_of_getElem? (i := 75) rfl), rfl⟩, ⟨⟨by decide +kernel, by decide +kernel, by decide +kernel⟩, by decide⟩⟩
theorem bX11_breakLines : gMB mX11_breakLines 1 := ⟨rfl, ⟨gI8 (List.mem_of_getElem? (i := 70) rfl), rfl⟩, ⟨gI0 (List.mem_of_getElem? (i := 53) rfl), rfl⟩, ⟨gI1 (List.mem_of_getElem? (i := 12) rfl), rfl⟩, ⟨gI8 (List.mem_of_getElem? (i := 71) rfl), rfl⟩, ⟨⟨by decide +kernel, by decide +kernel, by decide +kernel⟩, by decide⟩⟩
theorem bX11_isMeasure : gMSB mX11_isMeasure 1 := ⟨rfl, ⟨gI8 (List.mem_of_getElem? (i := 61) rfl), rfl⟩, ⟨gI1 (List.mem_of_getElem? (i := 12) rfl), rfl⟩, ⟨gI8 (List.mem_of_getElem? (i := 62) rfl), rfl⟩, ⟨⟨by decide +kernel, by decide +kernel, by decide +kernel⟩, by decide⟩⟩
theorem bX11_lines : gMB mX11_lines 1 := ⟨rfl, ⟨gI8 (List.mem_of_getElem? (i := 57) rfl), rfl⟩, ⟨gI8 (List.mem_of_getElem? (i := 58) rfl), rfl⟩, ⟨gI1 (List.mem_of_getElem? (i := 12) rfl), rfl⟩, ⟨gI8 (List.mem_of_getElem? (i := 59) rfl), rfl⟩, ⟨⟨by decide +kernel, by decide +kernel, by decide +kernel⟩, by decide⟩⟩
theorem bX11_line : gMB mX11_line 3 := ⟨rfl, ⟨gI8 (List.mem_of_getElem? (i := 77) rfl), rfl⟩, ⟨gI8 (List.mem_of_getElem? (i := 78) rfl), rfl⟩, ⟨gI1 (List.mem_of_getElem? (i := 12) rfl), rfl⟩, ⟨gI8 (List.mem_of_getElem? (i := 79) rfl), rfl⟩, ⟨⟨by decide +kernel, by decide +kernel, by decide +kernel⟩, by decide⟩⟩
theorem bX11_tried : gMB mX11_tried 3 := ⟨rfl, ⟨gI8 (List.mem_of_getElem? (i := 86) rfl), rfl⟩, ⟨gI0 (List.mem_of_getElem? (i := 55) rfl), rfl⟩, ⟨gI1 (List.mem_of_getElem? (i := 12) rfl), rfl⟩, ⟨gI8 (List.mem_of_getElem? (i := 87) rfl), rfl⟩, ⟨⟨by decide +kernel, by decide +kernel, by decide +kernel⟩, by decide⟩⟩
theorem bX11_leastMeasure : gMB mX11_leastMeasure 1 := ⟨rfl, ⟨gI8 (List.mem_of_getElem? (i := 81) rfl), rfl⟩, ⟨gI8 (List.mem_of_getElem? (i := 82) rfl), rfl⟩, ⟨gI1 (List.mem_of_getElem? (i := 12) rfl), rfl⟩, ⟨gI8 (List.mem_of_getElem? (i := 83) rfl), rfl⟩, ⟨⟨by decide +kernel, by decide +kernel, by decide +kernel⟩, by decide⟩⟩
theorem bX11_advances : gMB mX11_advances 0 := ⟨rfl, ⟨gI8 (List.mem_of_getElem? (i := 94) rfl), rfl⟩, ⟨gI0 (List.mem_of_getElem? (i := 56) rfl), rfl⟩, ⟨gI1 (List.mem_of_getElem? (i := 12) rfl), rfl⟩, ⟨gI8 (List.mem_of_getElem? (i := 95) rfl), rfl⟩, ⟨⟨by decide +kernel, by decide +kernel, by decide +kernel⟩, by decide⟩⟩
theorem bX11_meanAdvance : gMB mX11_meanAdvance 0 := ⟨rfl, ⟨gI8 (List.mem_of_getElem? (i := 89) rfl), rfl⟩, ⟨gI8 (List.mem_of_getElem? (i := 90) rfl), rfl⟩, ⟨gI1 (List.mem_of_getElem? (i := 12) rfl), rfl⟩, ⟨gI8 (List.mem_of_getElem? (i := 91) rfl), rfl⟩, ⟨⟨by decide +kernel, by decide +kernel, by decide +kernel⟩, by decide⟩⟩
theorem bX11_sumOf : gMB mX11_sumOf 1 := ⟨rfl, ⟨gI8 (List.mem_of_getElem? (i := 106) rfl), rfl⟩, ⟨gI0 (List.mem_of_getElem? (i := 58) rfl), rfl⟩, ⟨gI1 (List.mem_of_getElem? (i := 12) rfl), rfl⟩, ⟨gI8 (List.mem_of_getElem? (i := 107) rfl), rfl⟩, ⟨⟨by decide +kernel, by decide +kernel, by decide +kernel⟩, by decide⟩⟩
theorem bX11_kernedPairs : gMB mX11_kernedPairs 0 := ⟨rfl, ⟨gI8 (List.mem_of_getElem? (i := 102) rfl), rfl⟩, ⟨gI0 (List.mem_of_getElem? (i := 57) rfl), rfl⟩, ⟨gI1 (List.mem_of_getElem? (i := 12) rfl), rfl⟩, ⟨gI8 (List.mem_of_getElem? (i := 103) rfl), rfl⟩, ⟨⟨by decide +kernel, by decide +kernel, by decide +kernel⟩, by decide⟩⟩
theorem bX11_account : gMB mX11_account 1 := ⟨rfl, ⟨gI8 (List.mem_of_getElem? (i := 97) rfl), rfl⟩, ⟨gI8 (List.mem_of_getElem? (i := 98) rfl), rfl⟩, ⟨gI1 (List.mem_of_getElem? (i := 12) rfl), rfl⟩, ⟨gI8 (List.mem_of_getElem? (i := 99) rfl), rfl⟩, ⟨⟨by decide +kernel, by decide +kernel, by decide +kernel⟩, by decide⟩⟩
theorem bX11_here : gMB mX11_here 0 := ⟨rfl, ⟨gI8 (List.mem_of_getElem? (i := 114) rfl), rfl⟩, ⟨gI0 (List.mem_of_getElem? (i := 59) rfl), rfl⟩, ⟨gI1 (List.mem_of_getElem? (i := 12) rfl), rfl⟩, ⟨gI8 (List.mem_of_getElem? (i := 115) rfl), rfl⟩, ⟨⟨by decide +kernel, by decide +kernel, by decide +kernel⟩, by decide⟩⟩
theorem bX11_wants : gMB mX11_wants 1 := ⟨rfl, ⟨gI8 (List.mem_of_getElem? (i := 122) rfl), rfl⟩, ⟨gI0 (List.mem_of_getElem? (i := 61) rfl), rfl⟩, ⟨gI1 (List.mem_of_getElem? (i := 12) rfl), rfl⟩, ⟨gI8 (List.mem_of_getElem? (i := 123) rfl), rfl⟩, ⟨⟨by decide +kernel, by decide +kernel, by decide +kernel⟩, by decide⟩⟩
theorem bX11_isDigit : gMB mX11_isDigit 0 := ⟨rfl, ⟨gI8 (List.mem_of_getElem? (i := 130) rfl), rfl⟩, ⟨gI0 (List.mem_of_getElem? (i := 63) rfl), rfl⟩, ⟨gI1 (List.mem_of_getElem? (i := 12) rfl), rfl⟩, ⟨gI8 (List.mem_of_getElem? (i := 131) rfl), rfl⟩, ⟨⟨by decide +kernel, by decide +kernel, by decide +kernel⟩, by decide⟩⟩
theorem bX11_coordinate : gMB mX11_coordinate 0 := ⟨rfl, ⟨gI8 (List.mem_of_getElem? (i := 126) rfl), rfl⟩, ⟨gI0 (List.mem_of_getElem? (i := 62) rfl), rfl⟩, ⟨gI1 (List.mem_of_getElem? (i := 12) rfl), rfl⟩, ⟨gI8 (List.mem_of_getElem? (i := 127) rfl), rfl⟩, ⟨⟨by decide +kernel, by decide +kernel, by decide +kernel⟩, by decide⟩⟩
theorem bX11_readContour : gMB mX11_readContour 0 := ⟨rfl, ⟨gI8 (List.mem_of_getElem? (i := 118) rfl), rfl⟩, ⟨gI0 (List.mem_of_getElem? (i := 60) rfl), rfl⟩, ⟨gI1 (List.mem_of_getElem? (i := 12) rfl), rfl⟩, ⟨gI8 (List.mem_of_getElem? (i := 119) rfl), rfl⟩, ⟨⟨by decide +kernel, by decide +kernel, by decide +kernel⟩, by decide⟩⟩
theorem bX11_readGlyph : gMB mX11_readGlyph 0 := ⟨rfl, ⟨gI8 (List.mem_of_getElem? (i := 109) rfl), rfl⟩, ⟨gI8 (List.mem_of_getElem? (i := 110) rfl), rfl⟩, ⟨gI1 (List.mem_of_getElem? (i := 12) rfl), rfl⟩, ⟨gI8 (List.mem_of_getElem? (i := 111) rfl), rfl⟩, ⟨⟨by decide +kernel, by decide +kernel, by decide +kernel⟩, by decide⟩⟩
theorem bX11_faultPosition : gMB mX11_faultPosition 0 := ⟨rfl, ⟨gI8 (List.mem_of_getElem? (i := 133) rfl), rfl⟩, ⟨gI8 (List.mem_of_getElem? (i := 134) rfl), rfl⟩, ⟨gI1 (List.mem_of_getElem? (i := 12) rfl), rfl⟩, ⟨gI8 (List.mem_of_getElem? (i := 135) rfl), rfl⟩, ⟨⟨by decide +kernel, by decide +kernel, by decide +kernel⟩, by decide⟩⟩
theorem bX11_undo : gMB mX11_undo 0 := ⟨rfl, ⟨gI8 (List.mem_of_getElem? (i := 137) rfl), rfl⟩, ⟨gI8 (List.mem_of_getElem? (i := 138) rfl), rfl⟩, ⟨gI1 (List.mem_of_getElem? (i := 12) rfl), rfl⟩, ⟨gI8 (List.mem_of_getElem? (i := 139) rfl), rfl⟩, ⟨⟨by decide +kernel, by decide +kernel, by decide +kernel⟩, by decide⟩⟩
theorem bX11_save : gMB mX11_save 0 := ⟨rfl, ⟨gI8 (List.mem_of_getElem? (i := 141) rfl), rfl⟩, ⟨gI8 (List.mem_of_getElem? (i := 142) rfl), rfl⟩, ⟨gI1 (List.mem_of_getElem? (i := 12) rfl), rfl⟩, ⟨gI8 (List.mem_of_getElem? (i := 143) rfl), rfl⟩, ⟨⟨by decide +kernel, by decide +kernel, by decide +kernel⟩, by decide⟩⟩
theorem bX11_restore : gMB mX11_restore 0 := ⟨rfl, ⟨gI8 (List.mem_of_getElem? (i := 145) rfl), rfl⟩, ⟨gI8 (List.mem_of_getElem? (i := 146) rfl), rfl⟩, ⟨gI1 (List.mem_of_getElem? (i := 12) rfl), rfl⟩, ⟨gI8 (List.mem_of_getElem? (i := 147) rfl), rfl⟩, ⟨⟨by decide +kernel, by decide +kernel, by decide +kernel⟩, by decide⟩⟩
theorem bJ13_bitCount_95d88 : gMSB mJ13_bitCount_95d88 1 := ⟨rfl, ⟨gI5 (List.mem_of_getElem? (i := 73) rfl), rfl⟩, ⟨gI1 (List.mem_of_getElem? (i := 25) rfl), rfl⟩, ⟨gI5 (List.mem_of_getElem? (i := 74) rfl), rfl⟩, ⟨⟨by decide +kernel, by decide +kernel, by decide +kernel⟩, by decide⟩⟩
theorem bJ9_floorDiv_7cf53 : gMSB mJ9_floorDiv_7cf53 2 := ⟨rfl, ⟨gI5 (List.mem_of_getElem? (i := 45) rfl), rfl⟩, ⟨gI1 (List.mem_of_getElem? (i := 18) rfl), rfl⟩, ⟨gI5 (List.mem_of_getElem? (i := 46) rfl), rfl⟩, ⟨⟨by decide +kernel, by decide +kernel, by decide +kernel⟩, by decide⟩⟩
theorem bL_addGlyph : gMSH mL_addGlyph 3 := ⟨⟨gI2 (List.mem_of_getElem? (i := 113) rfl), rfl⟩, ⟨gI1 (List.mem_of_getElem? (i := 0) rfl), rfl⟩, ⟨gI2 (List.mem_of_getElem? (i := 114) rfl), rfl⟩, ⟨⟨by decide +kernel, by decide +kernel, by decide +kernel⟩, by decide⟩⟩
theorem bL_addContour : gMSH mL_addContour 7 := ⟨⟨gI3 (List.mem_of_getElem? (i := 5) rfl), rfl⟩, ⟨gI1 (List.mem_of_getElem? (i := 0) rfl), rfl⟩, ⟨gI3 (List.mem_of_getElem? (i := 6) rfl), rfl⟩, ⟨⟨by decide +kernel, by decide +kernel, by decide +kernel⟩, by decide⟩⟩
theorem bL_movePoint : gMSH mL_movePoint 7 := ⟨⟨gI3 (List.mem_of_getElem? (i := 96) rfl), rfl⟩, ⟨gI1 (List.mem_of_getElem? (i := 0) rfl), rfl⟩, ⟨gI3 (List.mem_of_getElem? (i := 97) rfl), rfl⟩, ⟨⟨by decide +kernel, by decide +kernel, by decide +kernel⟩, by decide⟩⟩
theorem bL_shift : gMSH mL_shift 5 := ⟨⟨gI3 (List.mem_of_getElem? (i := 123) rfl), rfl⟩, ⟨gI1 (List.mem_of_getElem? (i := 0) rfl), rfl⟩, ⟨gI3 (List.mem_of_getElem? (i := 124) rfl), rfl⟩, ⟨⟨by decide +kernel, by decide +kernel, by decide +kernel⟩, by decide⟩⟩
theorem bL_glyph : gMSH mL_glyph 4 := ⟨⟨gI3 (List.mem_of_getElem? (i := 152) rfl), rfl⟩, ⟨gI1 (List.mem_of_getElem? (i := 0) rfl), rfl⟩, ⟨gI3 (List.mem_of_getElem? (i := 153) rfl), rfl⟩, ⟨⟨by decide +kernel, by decide +kernel, by decide +kernel⟩, by decide⟩⟩
theorem bL_find : gMSH mL_find 3 := ⟨⟨gI3 (List.mem_of_getElem? (i := 205) rfl), rfl⟩, ⟨gI1 (List.mem_of_getElem? (i := 0) rfl), rfl⟩, ⟨gI3 (List.mem_of_getElem? (i := 206) rfl), rfl⟩, ⟨⟨by decide +kernel, by decide +kernel, by decide +kernel⟩, by decide⟩⟩
theorem bL_points : gMSH mL_points 4 := ⟨⟨gI3 (List.mem_of_getElem? (i := 229) rfl), rfl⟩, ⟨gI1 (List.mem_of_getElem? (i := 0) rfl), rfl⟩, ⟨gI3 (List.mem_of_getElem? (i := 230) rfl), rfl⟩, ⟨⟨by decide +kernel, by decide +kernel, by decide +kernel⟩, by decide⟩⟩
theorem bL_point : gMSH mL_point 6 := ⟨⟨gI3 (List.mem_of_getElem? (i := 236) rfl), rfl⟩, ⟨gI1 (List.mem_of_getElem? (i := 0) rfl), rfl⟩, ⟨gI3 (List.mem_of_getElem? (i := 237) rfl), rfl⟩, ⟨⟨by decide +kernel, by decide +kernel, by decide +kernel⟩, by decide⟩⟩
theorem bL_area : gMSH mL_area 4 := ⟨⟨gI4 (List.mem_of_getElem? (i := 3) rfl), rfl⟩, ⟨gI1 (List.mem_of_getElem? (i := 0) rfl), rfl⟩, ⟨gI4 (List.mem_of_getElem? (i := 4) rfl), rfl⟩, ⟨⟨by decide +kernel, by decide +kernel, by decide +kernel⟩, by decide⟩⟩
theorem bL_setSide : gMSH mL_setSide 5 := ⟨⟨gI4 (List.mem_of_getElem? (i := 11) rfl), rfl⟩, ⟨gI1 (List.mem_of_getElem? (i := 0) rfl), rfl⟩, ⟨gI4 (List.mem_of_getElem? (i := 12) rfl), rfl⟩, ⟨⟨by decide +kernel, by decide +kernel, by decide +kernel⟩, by decide⟩⟩
theorem bL_follow : gMSH mL_follow 7 := ⟨⟨gI4 (List.mem_of_getElem? (i := 31) rfl), rfl⟩, ⟨gI1 (List.mem_of_getElem? (i := 0) rfl), rfl⟩, ⟨gI4 (List.mem_of_getElem? (i := 32) rfl), rfl⟩, ⟨⟨by decide +kernel, by decide +kernel, by decide +kernel⟩, by decide⟩⟩
theorem bL_side : gMSH mL_side 5 := ⟨⟨gI4 (List.mem_of_getElem? (i := 66) rfl), rfl⟩, ⟨gI1 (List.mem_of_getElem? (i := 0) rfl), rfl⟩, ⟨gI4 (List.mem_of_getElem? (i := 67) rfl), rfl⟩, ⟨⟨by decide +kernel, by decide +kernel, by decide +kernel⟩, by decide⟩⟩
theorem bL_followers : gMSH mL_followers 4 := ⟨⟨gI4 (List.mem_of_getElem? (i := 87) rfl), rfl⟩, ⟨gI1 (List.mem_of_getElem? (i := 0) rfl), rfl⟩, ⟨gI4 (List.mem_of_getElem? (i := 88) rfl), rfl⟩, ⟨⟨by decide +kernel, by decide +kernel, by decide +kernel⟩, by decide⟩⟩
theorem bL_setClass : gMSH mL_setClass 5 := ⟨⟨gI4 (List.mem_of_getElem? (i := 99) rfl), rfl⟩, ⟨gI1 (List.mem_of_getElem? (i := 0) rfl), rfl⟩, ⟨gI4 (List.mem_of_getElem? (i := 100) rfl), rfl⟩, ⟨⟨by decide +kernel, by decide +kernel, by decide +kernel⟩, by decide⟩⟩
theorem bL_kernClasses : gMSH mL_kernClasses 5 := ⟨⟨gI4 (List.mem_of_getElem? (i := 114) rfl), rfl⟩, ⟨gI1 (List.mem_of_getElem? (i := 0) rfl), rfl⟩, ⟨gI4 (List.mem_of_getElem? (i := 115) rfl), rfl⟩, ⟨⟨by decide +kernel, by decide +kernel, by decide +kernel⟩, by decide⟩⟩
theorem bL_kernPair : gMSH mL_kernPair 5 := ⟨⟨gI4 (List.mem_of_getElem? (i := 145) rfl), rfl⟩, ⟨gI1 (List.mem_of_getElem? (i := 0) rfl), rfl⟩, ⟨gI4 (List.mem_of_getElem? (i := 146) rfl), rfl⟩, ⟨⟨by decide +kernel, by decide +kernel, by decide +kernel⟩, by decide⟩⟩
theorem bL_dropKern : gMSH mL_dropKern 5 := ⟨⟨gI4 (List.mem_of_getElem? (i := 167) rfl), rfl⟩, ⟨gI1 (List.mem_of_getElem? (i := 0) rfl), rfl⟩, ⟨gI4 (List.mem_of_getElem? (i := 168) rfl), rfl⟩, ⟨⟨by decide +kernel, by decide +kernel, by decide +kernel⟩, by decide⟩⟩
theorem bL_kern : gMSH mL_kern 4 := ⟨⟨gI4 (List.mem_of_getElem? (i := 184) rfl), rfl⟩, ⟨gI1 (List.mem_of_getElem? (i := 0) rfl), rfl⟩, ⟨gI4 (List.mem_of_getElem? (i := 185) rfl), rfl⟩, ⟨⟨by decide +kernel, by decide +kernel, by decide +kernel⟩, by decide⟩⟩
theorem bL_why : gMSH mL_why 4 := ⟨⟨gI4 (List.mem_of_getElem? (i := 199) rfl), rfl⟩, ⟨gI1 (List.mem_of_getElem? (i := 0) rfl), rfl⟩, ⟨gI4 (List.mem_of_getElem? (i := 200) rfl), rfl⟩, ⟨⟨by decide +kernel, by decide +kernel, by decide +kernel⟩, by decide⟩⟩
theorem bL_addStem : gMSH mL_addStem 5 := ⟨⟨gI4 (List.mem_of_getElem? (i := 207) rfl), rfl⟩, ⟨gI1 (List.mem_of_getElem? (i := 0) rfl), rfl⟩, ⟨gI4 (List.mem_of_getElem? (i := 208) rfl), rfl⟩, ⟨⟨by decide +kernel, by decide +kernel, by decide +kernel⟩, by decide⟩⟩
theorem bL_removeStem : gMSH mL_removeStem 4 := ⟨⟨gI4 (List.mem_of_getElem? (i := 238) rfl), rfl⟩, ⟨gI1 (List.mem_of_getElem? (i := 0) rfl), rfl⟩, ⟨gI4 (List.mem_of_getElem? (i := 239) rfl), rfl⟩, ⟨⟨by decide +kernel, by decide +kernel, by decide +kernel⟩, by decide⟩⟩
theorem bL_stem : gMSH mL_stem 5 := ⟨⟨gI5 (List.mem_of_getElem? (i := 14) rfl), rfl⟩, ⟨gI1 (List.mem_of_getElem? (i := 0) rfl), rfl⟩, ⟨gI5 (List.mem_of_getElem? (i := 15) rfl), rfl⟩, ⟨⟨by decide +kernel, by decide +kernel, by decide +kernel⟩, by decide⟩⟩
theorem bL_place : gMSH mL_place 5 := ⟨⟨gI5 (List.mem_of_getElem? (i := 23) rfl), rfl⟩, ⟨gI1 (List.mem_of_getElem? (i := 0) rfl), rfl⟩, ⟨gI5 (List.mem_of_getElem? (i := 24) rfl), rfl⟩, ⟨⟨by decide +kernel, by decide +kernel, by decide +kernel⟩, by decide⟩⟩
theorem bL_isBlack : gMSH mL_isBlack 6 := ⟨⟨gI5 (List.mem_of_getElem? (i := 49) rfl), rfl⟩, ⟨gI1 (List.mem_of_getElem? (i := 0) rfl), rfl⟩, ⟨gI5 (List.mem_of_getElem? (i := 50) rfl), rfl⟩, ⟨⟨by decide +kernel, by decide +kernel, by decide +kernel⟩, by decide⟩⟩
theorem bL_blackPixels : gMSH mL_blackPixels 4 := ⟨⟨gI5 (List.mem_of_getElem? (i := 66) rfl), rfl⟩, ⟨gI1 (List.mem_of_getElem? (i := 0) rfl), rfl⟩, ⟨gI5 (List.mem_of_getElem? (i := 67) rfl), rfl⟩, ⟨⟨by decide +kernel, by decide +kernel, by decide +kernel⟩, by decide⟩⟩
theorem bL_setProof : gMSH mL_setProof 4 := ⟨⟨gI5 (List.mem_of_getElem? (i := 79) rfl), rfl⟩, ⟨gI1 (List.mem_of_getElem? (i := 0) rfl), rfl⟩, ⟨gI5 (List.mem_of_getElem? (i := 80) rfl), rfl⟩, ⟨⟨by decide +kernel, by decide +kernel, by decide +kernel⟩, by decide⟩⟩
theorem bL_append : gMSH mL_append 2 := ⟨⟨gI5 (List.mem_of_getElem? (i := 89) rfl), rfl⟩, ⟨gI1 (List.mem_of_getElem? (i := 0) rfl), rfl⟩, ⟨gI5 (List.mem_of_getElem? (i := 90) rfl), rfl⟩, ⟨⟨by decide +kernel, by decide +kernel, by decide +kernel⟩, by decide⟩⟩
theorem bL_takeProof : gMSH mL_takeProof 2 := ⟨⟨gI5 (List.mem_of_getElem? (i := 106) rfl), rfl⟩, ⟨gI1 (List.mem_of_getElem? (i := 0) rfl), rfl⟩, ⟨gI5 (List.mem_of_getElem? (i := 107) rfl), rfl⟩, ⟨⟨by decide +kernel, by decide +kernel, by decide +kernel⟩, by decide⟩⟩
theorem bL_proofWidth : gMSH mL_proofWidth 2 := ⟨⟨gI5 (List.mem_of_getElem? (i := 140) rfl), rfl⟩, ⟨gI1 (List.mem_of_getElem? (i := 0) rfl), rfl⟩, ⟨gI5 (List.mem_of_getElem? (i := 141) rfl), rfl⟩, ⟨⟨by decide +kernel, by decide +kernel, by decide +kernel⟩, by decide⟩⟩
theorem bL_position : gMSH mL_position 3 := ⟨⟨gI5 (List.mem_of_getElem? (i := 163) rfl), rfl⟩, ⟨gI1 (List.mem_of_getElem? (i := 0) rfl), rfl⟩, ⟨gI5 (List.mem_of_getElem? (i := 164) rfl), rfl⟩, ⟨⟨by decide +kernel, by decide +kernel, by decide +kernel⟩, by decide⟩⟩
theorem bL_lines : gMSH mL_lines 3 := ⟨⟨gI5 (List.mem_of_getElem? (i := 175) rfl), rfl⟩, ⟨gI1 (List.mem_of_getElem? (i := 0) rfl), rfl⟩, ⟨gI5 (List.mem_of_getElem? (i := 176) rfl), rfl⟩, ⟨⟨by decide +kernel, by decide +kernel, by decide +kernel⟩, by decide⟩⟩
theorem bL_line : gMSH mL_line 5 := ⟨⟨gI5 (List.mem_of_getElem? (i := 201) rfl), rfl⟩, ⟨gI1 (List.mem_of_getElem? (i := 0) rfl), rfl⟩, ⟨gI5 (List.mem_of_getElem? (i := 202) rfl), rfl⟩, ⟨⟨by decide +kernel, by decide +kernel, by decide +kernel⟩, by decide⟩⟩
theorem bL_leastMeasure : gMSH mL_leastMeasure 3 := ⟨⟨gI5 (List.mem_of_getElem? (i := 223) rfl), rfl⟩, ⟨gI1 (List.mem_of_getElem? (i := 0) rfl), rfl⟩, ⟨gI5 (List.mem_of_getElem? (i := 224) rfl), rfl⟩, ⟨⟨by decide +kernel, by decide +kernel, by decide +kernel⟩, by decide⟩⟩
theorem bL_meanAdvance : gMSH mL_meanAdvance 2 := ⟨⟨gI5 (List.mem_of_getElem? (i := 239) rfl), rfl⟩, ⟨gI1 (List.mem_of_getElem? (i := 0) rfl), rfl⟩, ⟨gI6 (List.mem_of_getElem? (i := 0) rfl), rfl⟩, ⟨⟨by decide +kernel, by decide +kernel, by decide +kernel⟩, by decide⟩⟩
theorem bL_account : gMSH mL_account 3 := ⟨⟨gI6 (List.mem_of_getElem? (i := 29) rfl), rfl⟩, ⟨gI1 (List.mem_of_getElem? (i := 0) rfl), rfl⟩, ⟨gI6 (List.mem_of_getElem? (i := 30) rfl), rfl⟩, ⟨⟨by decide +kernel, by decide +kernel, by decide +kernel⟩, by decide⟩⟩
theorem bL_readGlyph : gMSH mL_readGlyph 2 := ⟨⟨gI6 (List.mem_of_getElem? (i := 60) rfl), rfl⟩, ⟨gI1 (List.mem_of_getElem? (i := 0) rfl), rfl⟩, ⟨gI6 (List.mem_of_getElem? (i := 61) rfl), rfl⟩, ⟨⟨by decide +kernel, by decide +kernel, by decide +kernel⟩, by decide⟩⟩
theorem bL_undo : gMSH mL_undo 2 := ⟨⟨gI6 (List.mem_of_getElem? (i := 149) rfl), rfl⟩, ⟨gI1 (List.mem_of_getElem? (i := 0) rfl), rfl⟩, ⟨gI6 (List.mem_of_getElem? (i := 150) rfl), rfl⟩, ⟨⟨by decide +kernel, by decide +kernel, by decide +kernel⟩, by decide⟩⟩
theorem bL_restore : gMSH mL_restore 1 := ⟨⟨gI6 (List.mem_of_getElem? (i := 170) rfl), rfl⟩, ⟨gI1 (List.mem_of_getElem? (i := 0) rfl), rfl⟩, ⟨gI6 (List.mem_of_getElem? (i := 171) rfl), rfl⟩, ⟨⟨by decide +kernel, by decide +kernel, by decide +kernel⟩, by decide⟩⟩
theorem kL_276 : gMV RL 276 mX10_faultPosition 0 := ⟨⟨gI2 (List.mem_of_getElem? (i := 71) rfl), rfl⟩, bX10_faultPosition⟩
theorem kL_283 : gMV RL 283 mX10_save 0 := ⟨⟨gI2 (List.mem_of_getElem? (i := 75) rfl), rfl⟩, bX10_save⟩
theorem kX10_491 : gMV RX10 491 mX1_copyFrom 1 := ⟨⟨gI2 (List.mem_of_getElem? (i := 79) rfl), rfl⟩, bX1_copyFrom⟩
theorem kX1_46 : gMV RX1 46 mX5_copyFrom 1 := ⟨⟨gI2 (List.mem_of_getElem? (i := 83) rfl), rfl⟩, bX5_copyFrom⟩
theorem kX5_36 : gMV RX5 36 mX7_copyFrom 1 := ⟨⟨gI2 (List.mem_of_getElem? (i := 87) rfl), rfl⟩, bX7_copyFrom⟩
theorem kX7_13 : gMi RX7 13 := ⟨⟨gI2 (List.mem_of_getElem? (i := 91) rfl), rfl⟩, ⟨gI2 (List.mem_of_getElem? (i := 92) rfl), rfl⟩, ⟨gI1 (List.mem_of_getElem? (i := 18) rfl), rfl⟩, ⟨gI2 (List.mem_of_getElem? (i := 93) rfl), rfl⟩⟩
theorem kX7_19 : gCp RX7 19 := ⟨⟨gI2 (List.mem_of_getElem? (i := 94) rfl), rfl⟩, ⟨gI2 (List.mem_of_getElem? (i := 96) rfl), rfl⟩, ⟨gI2 (List.mem_of_getElem? (i := 95) rfl), rfl⟩, ⟨gI1 (List.mem_of_getElem? (i := 19) rfl), rfl⟩⟩
theorem kX1_50 : gMV RX1 50 mX0_copyFrom 1 := ⟨⟨gI2 (List.mem_of_getElem? (i := 97) rfl), rfl⟩, bX0_copyFrom⟩
theorem kX0_26 : gMV RX0 26 mX7_copyFrom 1 := ⟨⟨gI2 (List.mem_of_getElem? (i := 101) rfl), rfl⟩, bX7_copyFrom⟩
theorem kX1_53 : gMV RX1 53 mX4_copyFrom 1 := ⟨⟨gI2 (List.mem_of_getElem? (i := 102) rfl), rfl⟩, bX4_copyFrom⟩
theorem kX4_36 : gMV RX4 36 mX7_copyFrom 1 := ⟨⟨gI2 (List.mem_of_getElem? (i := 106) rfl), rfl⟩, bX7_copyFrom⟩
theorem kX1_56 : gMV RX1 56 mX8_copyFrom 1 := ⟨⟨gI2 (List.mem_of_getElem? (i := 107) rfl), rfl⟩, bX8_copyFrom⟩
theorem kX8_26 : gMV RX8 26 mX7_copyFrom 1 := ⟨⟨gI2 (List.mem_of_getElem? (i := 111) rfl), rfl⟩, bX7_copyFrom⟩
theorem kL_151 : gMSHk RL 151 mL_addGlyph 3 := ⟨⟨gI2 (List.mem_of_getElem? (i := 112) rfl), rfl⟩, bL_addGlyph⟩
theorem kL_7 : gMV RL 7 mX10_addGlyph 1 := ⟨⟨gI2 (List.mem_of_getElem? (i := 117) rfl), rfl⟩, bX10_addGlyph⟩
theorem wX10_55 : gH (.constantLong RX10 55 (33)) := ⟨gI2 (List.mem_of_getElem? (i := 121) rfl), rfl⟩
theorem wX10_57 : gH (.constantLong RX10 57 (126)) := ⟨gI2 (List.mem_of_getElem? (i := 122) rfl), rfl⟩
theorem kX10_59 : gMS RX10 59 mX10_isWithin 3 := ⟨⟨gI2 (List.mem_of_getElem? (i := 123) rfl), rfl⟩, bX10_isWithin⟩
theorem kX10_74 : gMV RX10 74 mX5_isFull 0 := ⟨⟨gI2 (List.mem_of_getElem? (i := 198) rfl), rfl⟩, bX5_isFull⟩
theorem kX10_80 : gMV RX10 80 mX5_glyphWith 1 := ⟨⟨gI2 (List.mem_of_getElem? (i := 202) rfl), rfl⟩, bX5_glyphWith⟩
theorem kX5_40 : gMV RX5 40 mX7_get 1 := ⟨⟨gI2 (List.mem_of_getElem? (i := 206) rfl), rfl⟩, bX7_get⟩
theorem kX10_89 : gMV RX10 89 mX3_remember 1 := ⟨⟨gI2 (List.mem_of_getElem? (i := 226) rfl), rfl⟩, bX3_remember⟩
theorem kX3_25 : gMV RX3 25 mX3_slot 1 := ⟨⟨gI2 (List.mem_of_getElem? (i := 230) rfl), rfl⟩, bX3_slot⟩
theorem kX3_29 : gMV RX3 29 mX1_copyFrom 1 := ⟨⟨gI2 (List.mem_of_getElem? (i := 234) rfl), rfl⟩, bX1_copyFrom⟩
theorem kX3_33 : gMi RX3 33 := ⟨⟨gI2 (List.mem_of_getElem? (i := 235) rfl), rfl⟩, ⟨gI2 (List.mem_of_getElem? (i := 92) rfl), rfl⟩, ⟨gI1 (List.mem_of_getElem? (i := 18) rfl), rfl⟩, ⟨gI2 (List.mem_of_getElem? (i := 93) rfl), rfl⟩⟩
theorem kX10_93 : gMV RX10 93 mX5_addEmptyGlyph 1 := ⟨⟨gI2 (List.mem_of_getElem? (i := 236) rfl), rfl⟩, bX5_addEmptyGlyph⟩
theorem kX5_44 : gMV RX5 44 mX7_put 2 := ⟨⟨gI3 (List.mem_of_getElem? (i := 0) rfl), rfl⟩, bX7_put⟩
theorem kL_160 : gMSHk RL 160 mL_addContour 7 := ⟨⟨gI3 (List.mem_of_getElem? (i := 4) rfl), rfl⟩, bL_addContour⟩
theorem kL_17 : gMV RL 17 mX10_addContour 5 := ⟨⟨gI3 (List.mem_of_getElem? (i := 31) rfl), rfl⟩, bX10_addContour⟩
theorem kX10_96 : gMV RX10 96 mX10_requireGlyph 1 := ⟨⟨gI3 (List.mem_of_getElem? (i := 35) rfl), rfl⟩, bX10_requireGlyph⟩
theorem kX10_432 : gMV RX10 432 mX5_glyphCount 0 := ⟨⟨gI3 (List.mem_of_getElem? (i := 39) rfl), rfl⟩, bX5_glyphCount⟩
theorem kX10_102 : gMS RX10 102 mX10_requireCoordinates 2 := ⟨⟨gI3 (List.mem_of_getElem? (i := 57) rfl), rfl⟩, bX10_requireCoordinates⟩
theorem wX10_193 : gH (.constantLong RX10 193 (-200)) := ⟨gI3 (List.mem_of_getElem? (i := 60) rfl), rfl⟩
theorem wX10_507 : gH (.constantLong RX10 507 (1200)) := ⟨gI3 (List.mem_of_getElem? (i := 61) rfl), rfl⟩
theorem kX10_106 : gMV RX10 106 mX5_contourCount 1 := ⟨⟨gI3 (List.mem_of_getElem? (i := 63) rfl), rfl⟩, bX5_contourCount⟩
theorem kX10_111 : gMV RX10 111 mX5_addBox 5 := ⟨⟨gI3 (List.mem_of_getElem? (i := 68) rfl), rfl⟩, bX5_addBox⟩
theorem kX5_65 : gMV RX5 65 mX5_addEmptyContour 1 := ⟨⟨gI3 (List.mem_of_getElem? (i := 72) rfl), rfl⟩, bX5_addEmptyContour⟩
theorem kX5_55 : gMV RX5 55 mX5_contourCount 1 := ⟨⟨gI3 (List.mem_of_getElem? (i := 76) rfl), rfl⟩, bX5_contourCount⟩
theorem kX5_47 : gMS RX5 47 mX5_contourIndex 2 := ⟨⟨gI3 (List.mem_of_getElem? (i := 77) rfl), rfl⟩, bX5_contourIndex⟩
theorem kX5_68 : gMV RX5 68 mX5_addPoint 4 := ⟨⟨gI3 (List.mem_of_getElem? (i := 80) rfl), rfl⟩, bX5_addPoint⟩
theorem kX5_58 : gMV RX5 58 mX5_pointCount 2 := ⟨⟨gI3 (List.mem_of_getElem? (i := 84) rfl), rfl⟩, bX5_pointCount⟩
theorem kX5_61 : gMV RX5 61 mX5_setPoint 5 := ⟨⟨gI3 (List.mem_of_getElem? (i := 88) rfl), rfl⟩, bX5_setPoint⟩
theorem kX5_51 : gMS RX5 51 mX5_pointIndex 3 := ⟨⟨gI3 (List.mem_of_getElem? (i := 92) rfl), rfl⟩, bX5_pointIndex⟩
theorem kL_164 : gMSHk RL 164 mL_movePoint 7 := ⟨⟨gI3 (List.mem_of_getElem? (i := 95) rfl), rfl⟩, bL_movePoint⟩
theorem kL_23 : gMV RL 23 mX10_movePoint 5 := ⟨⟨gI3 (List.mem_of_getElem? (i := 98) rfl), rfl⟩, bX10_movePoint⟩
theorem kX10_115 : gMV RX10 115 mX10_requirePoint 3 := ⟨⟨gI3 (List.mem_of_getElem? (i := 102) rfl), rfl⟩, bX10_requirePoint⟩
theorem kX10_179 : gMV RX10 179 mX10_requireContour 2 := ⟨⟨gI3 (List.mem_of_getElem? (i := 106) rfl), rfl⟩, bX10_requireContour⟩
theorem kX10_183 : gMV RX10 183 mX5_pointCount 2 := ⟨⟨gI3 (List.mem_of_getElem? (i := 111) rfl), rfl⟩, bX5_pointCount⟩
theorem kX10_119 : gMV RX10 119 mX5_xOf 3 := ⟨⟨gI3 (List.mem_of_getElem? (i := 113) rfl), rfl⟩, bX5_xOf⟩
theorem kX10_123 : gMV RX10 123 mX5_yOf 3 := ⟨⟨gI3 (List.mem_of_getElem? (i := 117) rfl), rfl⟩, bX5_yOf⟩
theorem kX10_126 : gMV RX10 126 mX5_setPoint 5 := ⟨⟨gI3 (List.mem_of_getElem? (i := 121) rfl), rfl⟩, bX5_setPoint⟩
theorem kL_167 : gMSHk RL 167 mL_shift 5 := ⟨⟨gI3 (List.mem_of_getElem? (i := 122) rfl), rfl⟩, bL_shift⟩
theorem kL_26 : gMV RL 26 mX10_shift 3 := ⟨⟨gI3 (List.mem_of_getElem? (i := 125) rfl), rfl⟩, bX10_shift⟩
theorem kX10_130 : gMV RX10 130 mX5_least 2 := ⟨⟨gI3 (List.mem_of_getElem? (i := 129) rfl), rfl⟩, bX5_least⟩
theorem kX5_78 : gMV RX5 78 mX5_extreme 3 := ⟨⟨gI3 (List.mem_of_getElem? (i := 133) rfl), rfl⟩, bX5_extreme⟩
theorem kX5_82 : gMx RX5 82 := ⟨⟨gI3 (List.mem_of_getElem? (i := 137) rfl), rfl⟩, ⟨gI3 (List.mem_of_getElem? (i := 138) rfl), rfl⟩, ⟨gI1 (List.mem_of_getElem? (i := 18) rfl), rfl⟩, ⟨gI3 (List.mem_of_getElem? (i := 139) rfl), rfl⟩⟩
theorem kX5_87 : gMi RX5 87 := ⟨⟨gI3 (List.mem_of_getElem? (i := 140) rfl), rfl⟩, ⟨gI2 (List.mem_of_getElem? (i := 92) rfl), rfl⟩, ⟨gI1 (List.mem_of_getElem? (i := 18) rfl), rfl⟩, ⟨gI2 (List.mem_of_getElem? (i := 93) rfl), rfl⟩⟩
theorem kX10_134 : gMV RX10 134 mX5_greatest 2 := ⟨⟨gI3 (List.mem_of_getElem? (i := 141) rfl), rfl⟩, bX5_greatest⟩
theorem kX10_137 : gMV RX10 137 mX5_moveAll 3 := ⟨⟨gI3 (List.mem_of_getElem? (i := 145) rfl), rfl⟩, bX5_moveAll⟩
theorem kX5_72 : gMV RX5 72 mX5_xOf 3 := ⟨⟨gI3 (List.mem_of_getElem? (i := 149) rfl), rfl⟩, bX5_xOf⟩
theorem kX5_75 : gMV RX5 75 mX5_yOf 3 := ⟨⟨gI3 (List.mem_of_getElem? (i := 150) rfl), rfl⟩, bX5_yOf⟩
theorem kL_171 : gMSHk RL 171 mL_glyph 4 := ⟨⟨gI3 (List.mem_of_getElem? (i := 151) rfl), rfl⟩, bL_glyph⟩
theorem kL_30 : gMV RL 30 mX10_glyph 2 := ⟨⟨gI3 (List.mem_of_getElem? (i := 154) rfl), rfl⟩, bX10_glyph⟩
theorem wX10_140 : gH (.constantLong RX10 140 (9)) := ⟨gI3 (List.mem_of_getElem? (i := 158) rfl), rfl⟩
theorem kX10_144 : gMV RX10 144 mX5_codeOf 1 := ⟨⟨gI3 (List.mem_of_getElem? (i := 160) rfl), rfl⟩, bX5_codeOf⟩
theorem kX10_147 : gMV RX10 147 mX5_pointCountOf 1 := ⟨⟨gI3 (List.mem_of_getElem? (i := 164) rfl), rfl⟩, bX5_pointCountOf⟩
theorem kX10_150 : gMV RX10 150 mX1_advanceOf 1 := ⟨⟨gI3 (List.mem_of_getElem? (i := 168) rfl), rfl⟩, bX1_advanceOf⟩
theorem kX1_59 : gMV RX1 59 mX0_valueOf 2 := ⟨⟨gI3 (List.mem_of_getElem? (i := 172) rfl), rfl⟩, bX0_valueOf⟩
theorem kX0_30 : gMS RX0 30 mX0_index 2 := ⟨⟨gI3 (List.mem_of_getElem? (i := 176) rfl), rfl⟩, bX0_index⟩
theorem kX0_37 : gMV RX0 37 mX7_get 1 := ⟨⟨gI3 (List.mem_of_getElem? (i := 179) rfl), rfl⟩, bX7_get⟩
theorem kX1_63 : gMV RX1 63 mX5_greatest 2 := ⟨⟨gI3 (List.mem_of_getElem? (i := 180) rfl), rfl⟩, bX5_greatest⟩
theorem kX1_67 : gMV RX1 67 mX5_least 2 := ⟨⟨gI3 (List.mem_of_getElem? (i := 181) rfl), rfl⟩, bX5_least⟩
theorem kX10_157 : gMV RX10 157 mX4_classOf 2 := ⟨⟨gI3 (List.mem_of_getElem? (i := 182) rfl), rfl⟩, bX4_classOf⟩
theorem kX4_40 : gMV RX4 40 mX7_get 1 := ⟨⟨gI3 (List.mem_of_getElem? (i := 186) rfl), rfl⟩, bX7_get⟩
theorem kX10_166 : gMV RX10 166 mX8_countOf 1 := ⟨⟨gI3 (List.mem_of_getElem? (i := 187) rfl), rfl⟩, bX8_countOf⟩
theorem kX8_30 : gMV RX8 30 mX7_get 1 := ⟨⟨gI3 (List.mem_of_getElem? (i := 191) rfl), rfl⟩, bX7_get⟩
theorem kX10_171 : gMV RX10 171 mX5_twiceAreaOf 1 := ⟨⟨gI3 (List.mem_of_getElem? (i := 192) rfl), rfl⟩, bX5_twiceAreaOf⟩
theorem kX5_93 : gMV RX5 93 mX5_twiceArea 2 := ⟨⟨gI3 (List.mem_of_getElem? (i := 196) rfl), rfl⟩, bX5_twiceArea⟩
theorem kX5_90 : gMV RX5 90 mX5_nextPoint 3 := ⟨⟨gI3 (List.mem_of_getElem? (i := 200) rfl), rfl⟩, bX5_nextPoint⟩
theorem kL_175 : gMSHk RL 175 mL_find 3 := ⟨⟨gI3 (List.mem_of_getElem? (i := 204) rfl), rfl⟩, bL_find⟩
theorem kL_34 : gMV RL 34 mX10_find 1 := ⟨⟨gI3 (List.mem_of_getElem? (i := 208) rfl), rfl⟩, bX10_find⟩
theorem kL_178 : gMSHk RL 178 mL_points 4 := ⟨⟨gI3 (List.mem_of_getElem? (i := 228) rfl), rfl⟩, bL_points⟩
theorem kL_39 : gMV RL 39 mX10_points 2 := ⟨⟨gI3 (List.mem_of_getElem? (i := 231) rfl), rfl⟩, bX10_points⟩
theorem kL_181 : gMSHk RL 181 mL_point 6 := ⟨⟨gI3 (List.mem_of_getElem? (i := 235) rfl), rfl⟩, bL_point⟩
theorem kL_42 : gMV RL 42 mX10_point 4 := ⟨⟨gI3 (List.mem_of_getElem? (i := 238) rfl), rfl⟩, bX10_point⟩
theorem kL_185 : gMSHk RL 185 mL_area 4 := ⟨⟨gI4 (List.mem_of_getElem? (i := 2) rfl), rfl⟩, bL_area⟩
theorem kL_46 : gMV RL 46 mX10_area 2 := ⟨⟨gI4 (List.mem_of_getElem? (i := 5) rfl), rfl⟩, bX10_area⟩
theorem kX10_187 : gMV RX10 187 mX5_twiceArea 2 := ⟨⟨gI4 (List.mem_of_getElem? (i := 9) rfl), rfl⟩, bX5_twiceArea⟩
theorem kL_188 : gMSHk RL 188 mL_setSide 5 := ⟨⟨gI4 (List.mem_of_getElem? (i := 10) rfl), rfl⟩, bL_setSide⟩
theorem kL_49 : gMV RL 49 mX10_setSide 3 := ⟨⟨gI4 (List.mem_of_getElem? (i := 13) rfl), rfl⟩, bX10_setSide⟩
theorem kX10_190 : gMV RX10 190 mX10_requireSide 2 := ⟨⟨gI4 (List.mem_of_getElem? (i := 17) rfl), rfl⟩, bX10_requireSide⟩
theorem wX10_195 : gH (.constantLong RX10 195 (400)) := ⟨gI4 (List.mem_of_getElem? (i := 22) rfl), rfl⟩
theorem kX10_203 : gMV RX10 203 mX0_valueOf 2 := ⟨⟨gI4 (List.mem_of_getElem? (i := 24) rfl), rfl⟩, bX0_valueOf⟩
theorem kX10_208 : gMV RX10 208 mX0_tell 3 := ⟨⟨gI4 (List.mem_of_getElem? (i := 25) rfl), rfl⟩, bX0_tell⟩
theorem kX0_34 : gMV RX0 34 mX7_put 2 := ⟨⟨gI4 (List.mem_of_getElem? (i := 29) rfl), rfl⟩, bX7_put⟩
theorem kL_191 : gMSHk RL 191 mL_follow 7 := ⟨⟨gI4 (List.mem_of_getElem? (i := 30) rfl), rfl⟩, bL_follow⟩
theorem kL_52 : gMV RL 52 mX10_follow 5 := ⟨⟨gI4 (List.mem_of_getElem? (i := 34) rfl), rfl⟩, bX10_follow⟩
theorem wX10_211 : gH (.constantLong RX10 211 (200)) := ⟨gI4 (List.mem_of_getElem? (i := 38) rfl), rfl⟩
theorem kX10_215 : gMS RX10 215 mX0_index 2 := ⟨⟨gI4 (List.mem_of_getElem? (i := 40) rfl), rfl⟩, bX0_index⟩
theorem kX10_218 : gMV RX10 218 mX0_leadsTo 2 := ⟨⟨gI4 (List.mem_of_getElem? (i := 41) rfl), rfl⟩, bX0_leadsTo⟩
theorem kX10_227 : gMV RX10 227 mX0_setRule 4 := ⟨⟨gI4 (List.mem_of_getElem? (i := 61) rfl), rfl⟩, bX0_setRule⟩
theorem kL_194 : gMSHk RL 194 mL_side 5 := ⟨⟨gI4 (List.mem_of_getElem? (i := 65) rfl), rfl⟩, bL_side⟩
theorem kL_57 : gMV RL 57 mX10_side 3 := ⟨⟨gI4 (List.mem_of_getElem? (i := 68) rfl), rfl⟩, bX10_side⟩
theorem wX10_231 : gH (.constantLong RX10 231 (3)) := ⟨gI4 (List.mem_of_getElem? (i := 72) rfl), rfl⟩
theorem kX10_235 : gMV RX10 235 mX0_leaderGlyph 2 := ⟨⟨gI4 (List.mem_of_getElem? (i := 74) rfl), rfl⟩, bX0_leaderGlyph⟩
theorem kX10_238 : gMV RX10 238 mX0_leaderSide 2 := ⟨⟨gI4 (List.mem_of_getElem? (i := 78) rfl), rfl⟩, bX0_leaderSide⟩
theorem kX10_241 : gMV RX10 241 mX0_ruleCount 2 := ⟨⟨gI4 (List.mem_of_getElem? (i := 82) rfl), rfl⟩, bX0_ruleCount⟩
theorem kL_197 : gMSHk RL 197 mL_followers 4 := ⟨⟨gI4 (List.mem_of_getElem? (i := 86) rfl), rfl⟩, bL_followers⟩
theorem kL_60 : gMV RL 60 mX10_followers 2 := ⟨⟨gI4 (List.mem_of_getElem? (i := 89) rfl), rfl⟩, bX10_followers⟩
theorem kX10_244 : gMV RX10 244 mX0_followerCount 2 := ⟨⟨gI4 (List.mem_of_getElem? (i := 93) rfl), rfl⟩, bX0_followerCount⟩
theorem kX0_41 : gMV RX0 41 mX0_leadsTo 2 := ⟨⟨gI4 (List.mem_of_getElem? (i := 97) rfl), rfl⟩, bX0_leadsTo⟩
theorem kL_200 : gMSHk RL 200 mL_setClass 5 := ⟨⟨gI4 (List.mem_of_getElem? (i := 98) rfl), rfl⟩, bL_setClass⟩
theorem kL_63 : gMV RL 63 mX10_setClass 3 := ⟨⟨gI4 (List.mem_of_getElem? (i := 101) rfl), rfl⟩, bX10_setClass⟩
theorem wX10_247 : gH (.constantLong RX10 247 (-1)) := ⟨gI4 (List.mem_of_getElem? (i := 105) rfl), rfl⟩
theorem wX10_249 : gH (.constantLong RX10 249 (5)) := ⟨gI4 (List.mem_of_getElem? (i := 106) rfl), rfl⟩
theorem kX10_253 : gMV RX10 253 mX4_putIntoClass 3 := ⟨⟨gI4 (List.mem_of_getElem? (i := 108) rfl), rfl⟩, bX4_putIntoClass⟩
theorem kX4_44 : gMV RX4 44 mX7_put 2 := ⟨⟨gI4 (List.mem_of_getElem? (i := 112) rfl), rfl⟩, bX7_put⟩
theorem kL_204 : gMSHk RL 204 mL_kernClasses 5 := ⟨⟨gI4 (List.mem_of_getElem? (i := 113) rfl), rfl⟩, bL_kernClasses⟩
theorem kL_67 : gMV RL 67 mX10_kernClasses 3 := ⟨⟨gI4 (List.mem_of_getElem? (i := 116) rfl), rfl⟩, bX10_kernClasses⟩
theorem kX10_257 : gMS RX10 257 mX4_areClasses 2 := ⟨⟨gI4 (List.mem_of_getElem? (i := 120) rfl), rfl⟩, bX4_areClasses⟩
theorem wX4_47 : gH (.constantLong RX4 47 (5)) := ⟨gI4 (List.mem_of_getElem? (i := 123) rfl), rfl⟩
theorem kX4_49 : gMN RX4 49 "TypeDesigner" mX10_isWithin 3 := ⟨⟨gI4 (List.mem_of_getElem? (i := 124) rfl), rfl⟩, bX10_isWithin⟩
theorem kX10_263 : gMS RX10 263 mX10_requireKern 1 := ⟨⟨gI4 (List.mem_of_getElem? (i := 125) rfl), rfl⟩, bX10_requireKern⟩
theorem wX10_511 : gH (.constantLong RX10 511 (-300)) := ⟨gI4 (List.mem_of_getElem? (i := 128) rfl), rfl⟩
theorem wX10_513 : gH (.constantLong RX10 513 (300)) := ⟨gI4 (List.mem_of_getElem? (i := 129) rfl), rfl⟩
theorem kX10_266 : gMV RX10 266 mX4_tellClasses 3 := ⟨⟨gI4 (List.mem_of_getElem? (i := 131) rfl), rfl⟩, bX4_tellClasses⟩
theorem kX4_59 : gMV RX4 59 mX4_isClassKernTold 2 := ⟨⟨gI4 (List.mem_of_getElem? (i := 135) rfl), rfl⟩, bX4_isClassKernTold⟩
theorem kX4_53 : gMS RX4 53 mX4_areClasses 2 := ⟨⟨gI4 (List.mem_of_getElem? (i := 139) rfl), rfl⟩, bX4_areClasses⟩
theorem kX10_269 : gMV RX10 269 mX4_classKernCount 0 := ⟨⟨gI4 (List.mem_of_getElem? (i := 140) rfl), rfl⟩, bX4_classKernCount⟩
theorem kL_207 : gMSHk RL 207 mL_kernPair 5 := ⟨⟨gI4 (List.mem_of_getElem? (i := 144) rfl), rfl⟩, bL_kernPair⟩
theorem kL_70 : gMV RL 70 mX10_kernPair 3 := ⟨⟨gI4 (List.mem_of_getElem? (i := 147) rfl), rfl⟩, bX10_kernPair⟩
theorem kX10_273 : gMV RX10 273 mX4_pairKernCount 0 := ⟨⟨gI4 (List.mem_of_getElem? (i := 151) rfl), rfl⟩, bX4_pairKernCount⟩
theorem kX10_276 : gMV RX10 276 mX4_isPairTold 2 := ⟨⟨gI4 (List.mem_of_getElem? (i := 155) rfl), rfl⟩, bX4_isPairTold⟩
theorem wX4_57 : gH (.constantLong RX4 57 (23)) := ⟨gI4 (List.mem_of_getElem? (i := 159) rfl), rfl⟩
theorem kX10_281 : gMV RX10 281 mX4_tellPair 3 := ⟨⟨gI4 (List.mem_of_getElem? (i := 161) rfl), rfl⟩, bX4_tellPair⟩
theorem kX4_62 : gMV RX4 62 mX4_isPairTold 2 := ⟨⟨gI4 (List.mem_of_getElem? (i := 165) rfl), rfl⟩, bX4_isPairTold⟩
theorem kL_210 : gMSHk RL 210 mL_dropKern 5 := ⟨⟨gI4 (List.mem_of_getElem? (i := 166) rfl), rfl⟩, bL_dropKern⟩
theorem kL_73 : gMV RL 73 mX10_dropKern 3 := ⟨⟨gI4 (List.mem_of_getElem? (i := 169) rfl), rfl⟩, bX10_dropKern⟩
theorem kX10_284 : gMV RX10 284 mX4_isClassKernTold 2 := ⟨⟨gI4 (List.mem_of_getElem? (i := 173) rfl), rfl⟩, bX4_isClassKernTold⟩
theorem kX10_289 : gMV RX10 289 mX4_dropPair 2 := ⟨⟨gI4 (List.mem_of_getElem? (i := 175) rfl), rfl⟩, bX4_dropPair⟩
theorem kX10_292 : gMV RX10 292 mX4_dropClasses 2 := ⟨⟨gI4 (List.mem_of_getElem? (i := 179) rfl), rfl⟩, bX4_dropClasses⟩
theorem kL_214 : gMSHk RL 214 mL_kern 4 := ⟨⟨gI4 (List.mem_of_getElem? (i := 183) rfl), rfl⟩, bL_kern⟩
theorem kL_77 : gMV RL 77 mX10_kern 2 := ⟨⟨gI4 (List.mem_of_getElem? (i := 186) rfl), rfl⟩, bX10_kern⟩
theorem kX10_295 : gMV RX10 295 mX4_kernOf 2 := ⟨⟨gI4 (List.mem_of_getElem? (i := 190) rfl), rfl⟩, bX4_kernOf⟩
theorem kX4_65 : gMV RX4 65 mX4_isToldForClassesOf 2 := ⟨⟨gI4 (List.mem_of_getElem? (i := 194) rfl), rfl⟩, bX4_isToldForClassesOf⟩
theorem kL_217 : gMSHk RL 217 mL_why 4 := ⟨⟨gI4 (List.mem_of_getElem? (i := 198) rfl), rfl⟩, bL_why⟩
theorem kL_80 : gMV RL 80 mX10_why 2 := ⟨⟨gI4 (List.mem_of_getElem? (i := 201) rfl), rfl⟩, bX10_why⟩
theorem kX10_298 : gMV RX10 298 mX4_isToldForClassesOf 2 := ⟨⟨gI4 (List.mem_of_getElem? (i := 205) rfl), rfl⟩, bX4_isToldForClassesOf⟩
theorem kL_220 : gMSHk RL 220 mL_addStem 5 := ⟨⟨gI4 (List.mem_of_getElem? (i := 206) rfl), rfl⟩, bL_addStem⟩
theorem kL_83 : gMV RL 83 mX10_addStem 3 := ⟨⟨gI4 (List.mem_of_getElem? (i := 209) rfl), rfl⟩, bX10_addStem⟩
theorem kX10_303 : gMV RX10 303 mX8_isTaken 3 := ⟨⟨gI4 (List.mem_of_getElem? (i := 214) rfl), rfl⟩, bX8_isTaken⟩
theorem kX8_37 : gMV RX8 37 mX8_countOf 1 := ⟨⟨gI4 (List.mem_of_getElem? (i := 218) rfl), rfl⟩, bX8_countOf⟩
theorem kX8_40 : gMV RX8 40 mX8_rightOf 2 := ⟨⟨gI4 (List.mem_of_getElem? (i := 219) rfl), rfl⟩, bX8_rightOf⟩
theorem kX8_44 : gMV RX8 44 mX8_leftOf 2 := ⟨⟨gI4 (List.mem_of_getElem? (i := 223) rfl), rfl⟩, bX8_leftOf⟩
theorem kX10_309 : gMV RX10 309 mX8_insert 3 := ⟨⟨gI4 (List.mem_of_getElem? (i := 228) rfl), rfl⟩, bX8_insert⟩
theorem kX8_47 : gMV RX8 47 mX8_put 4 := ⟨⟨gI4 (List.mem_of_getElem? (i := 232) rfl), rfl⟩, bX8_put⟩
theorem kX8_34 : gMV RX8 34 mX7_put 2 := ⟨⟨gI4 (List.mem_of_getElem? (i := 236) rfl), rfl⟩, bX7_put⟩
theorem kL_223 : gMSHk RL 223 mL_removeStem 4 := ⟨⟨gI4 (List.mem_of_getElem? (i := 237) rfl), rfl⟩, bL_removeStem⟩
theorem kL_86 : gMV RL 86 mX10_removeStem 2 := ⟨⟨gI5 (List.mem_of_getElem? (i := 0) rfl), rfl⟩, bX10_removeStem⟩
theorem kX10_312 : gMV RX10 312 mX10_requireStem 2 := ⟨⟨gI5 (List.mem_of_getElem? (i := 4) rfl), rfl⟩, bX10_requireStem⟩
theorem kX10_315 : gMV RX10 315 mX8_takeOut 2 := ⟨⟨gI5 (List.mem_of_getElem? (i := 9) rfl), rfl⟩, bX8_takeOut⟩
theorem kL_226 : gMSHk RL 226 mL_stem 5 := ⟨⟨gI5 (List.mem_of_getElem? (i := 13) rfl), rfl⟩, bL_stem⟩
theorem kL_89 : gMV RL 89 mX10_stem 3 := ⟨⟨gI5 (List.mem_of_getElem? (i := 16) rfl), rfl⟩, bX10_stem⟩
theorem kX10_318 : gMV RX10 318 mX8_rightOf 2 := ⟨⟨gI5 (List.mem_of_getElem? (i := 20) rfl), rfl⟩, bX8_rightOf⟩
theorem kX10_321 : gMV RX10 321 mX8_leftOf 2 := ⟨⟨gI5 (List.mem_of_getElem? (i := 21) rfl), rfl⟩, bX8_leftOf⟩
theorem kL_230 : gMSHk RL 230 mL_place 5 := ⟨⟨gI5 (List.mem_of_getElem? (i := 22) rfl), rfl⟩, bL_place⟩
theorem kL_93 : gMV RL 93 mX10_place 3 := ⟨⟨gI5 (List.mem_of_getElem? (i := 25) rfl), rfl⟩, bX10_place⟩
theorem kX10_324 : gMS RX10 324 mX10_requireGrid 2 := ⟨⟨gI5 (List.mem_of_getElem? (i := 29) rfl), rfl⟩, bX10_requireGrid⟩
theorem wX10_517 : gH (.constantLong RX10 517 (6)) := ⟨gI5 (List.mem_of_getElem? (i := 32) rfl), rfl⟩
theorem wX10_327 : gH (.constantLong RX10 327 (-1000)) := ⟨gI5 (List.mem_of_getElem? (i := 34) rfl), rfl⟩
theorem wX10_329 : gH (.constantLong RX10 329 (2000)) := ⟨gI5 (List.mem_of_getElem? (i := 35) rfl), rfl⟩
theorem kX10_333 : gMV RX10 333 mX8_placeOn 3 := ⟨⟨gI5 (List.mem_of_getElem? (i := 37) rfl), rfl⟩, bX8_placeOn⟩
theorem kX8_50 : gMS RX8 50 mX8_rounded 2 := ⟨⟨gI5 (List.mem_of_getElem? (i := 41) rfl), rfl⟩, bX8_rounded⟩
theorem kX8_58 : gMS RX8 58 mJ9_floorDiv_7cf53 2 := ⟨⟨gI5 (List.mem_of_getElem? (i := 44) rfl), rfl⟩, bJ9_floorDiv_7cf53⟩
theorem kX8_53 : gMx RX8 53 := ⟨⟨gI5 (List.mem_of_getElem? (i := 47) rfl), rfl⟩, ⟨gI3 (List.mem_of_getElem? (i := 138) rfl), rfl⟩, ⟨gI1 (List.mem_of_getElem? (i := 18) rfl), rfl⟩, ⟨gI3 (List.mem_of_getElem? (i := 139) rfl), rfl⟩⟩
theorem kL_233 : gMSHk RL 233 mL_isBlack 6 := ⟨⟨gI5 (List.mem_of_getElem? (i := 48) rfl), rfl⟩, bL_isBlack⟩
theorem kL_96 : gMV RL 96 mX10_isBlack 4 := ⟨⟨gI5 (List.mem_of_getElem? (i := 51) rfl), rfl⟩, bX10_isBlack⟩
theorem wX10_336 : gH (.constantLong RX10 336 (-100)) := ⟨gI5 (List.mem_of_getElem? (i := 55) rfl), rfl⟩
theorem wX10_338 : gH (.constantLong RX10 338 (100)) := ⟨gI5 (List.mem_of_getElem? (i := 56) rfl), rfl⟩
theorem kX10_342 : gMV RX10 342 mX5_blackBits 5 := ⟨⟨gI5 (List.mem_of_getElem? (i := 58) rfl), rfl⟩, bX5_blackBits⟩
theorem kX5_99 : gMS RX5 99 mX5_bitsBefore 6 := ⟨⟨gI5 (List.mem_of_getElem? (i := 62) rfl), rfl⟩, bX5_bitsBefore⟩
theorem kL_237 : gMSHk RL 237 mL_blackPixels 4 := ⟨⟨gI5 (List.mem_of_getElem? (i := 65) rfl), rfl⟩, bL_blackPixels⟩
theorem kL_100 : gMV RL 100 mX10_blackPixels 2 := ⟨⟨gI5 (List.mem_of_getElem? (i := 68) rfl), rfl⟩, bX10_blackPixels⟩
theorem kX10_346 : gMS RX10 346 mJ13_bitCount_95d88 1 := ⟨⟨gI5 (List.mem_of_getElem? (i := 72) rfl), rfl⟩, bJ13_bitCount_95d88⟩
theorem wJ13_314 : gH (.constantLong RJ13 314 (6148914691236517205)) := ⟨gI5 (List.mem_of_getElem? (i := 75) rfl), rfl⟩
theorem wJ13_316 : gH (.constantLong RJ13 316 (3689348814741910323)) := ⟨gI5 (List.mem_of_getElem? (i := 76) rfl), rfl⟩
theorem wJ13_318 : gH (.constantLong RJ13 318 (1085102592571150095)) := ⟨gI5 (List.mem_of_getElem? (i := 77) rfl), rfl⟩
theorem kL_240 : gMSHk RL 240 mL_setProof 4 := ⟨⟨gI5 (List.mem_of_getElem? (i := 78) rfl), rfl⟩, bL_setProof⟩
theorem kL_103 : gMV RL 103 mX10_setProof 2 := ⟨⟨gI5 (List.mem_of_getElem? (i := 81) rfl), rfl⟩, bX10_setProof⟩
theorem wX10_352 : gH (.constantLong RX10 352 (50)) := ⟨gI5 (List.mem_of_getElem? (i := 85) rfl), rfl⟩
theorem wX10_354 : gH (.constantLong RX10 354 (1000)) := ⟨gI5 (List.mem_of_getElem? (i := 86) rfl), rfl⟩
theorem kL_243 : gMSHk RL 243 mL_append 2 := ⟨⟨gI5 (List.mem_of_getElem? (i := 88) rfl), rfl⟩, bL_append⟩
theorem kL_106 : gMV RL 106 mX10_append 1 := ⟨⟨gI5 (List.mem_of_getElem? (i := 91) rfl), rfl⟩, bX10_append⟩
theorem kX10_364 : gMV RX10 364 mX9_isFull 0 := ⟨⟨gI5 (List.mem_of_getElem? (i := 95) rfl), rfl⟩, bX9_isFull⟩
theorem kX10_367 : gMV RX10 367 mX9_add 1 := ⟨⟨gI5 (List.mem_of_getElem? (i := 100) rfl), rfl⟩, bX9_add⟩
theorem kX9_28 : gMV RX9 28 mX7_put 2 := ⟨⟨gI5 (List.mem_of_getElem? (i := 104) rfl), rfl⟩, bX7_put⟩
theorem kL_247 : gMSHk RL 247 mL_takeProof 2 := ⟨⟨gI5 (List.mem_of_getElem? (i := 105) rfl), rfl⟩, bL_takeProof⟩
theorem kL_110 : gMV RL 110 mX10_takeProof 0 := ⟨⟨gI5 (List.mem_of_getElem? (i := 108) rfl), rfl⟩, bX10_takeProof⟩
theorem kX10_370 : gMS RX10 370 mX6_isProof 2 := ⟨⟨gI5 (List.mem_of_getElem? (i := 112) rfl), rfl⟩, bX6_isProof⟩
theorem kX6_48 : gMV RX6 48 mX9_length 0 := ⟨⟨gI5 (List.mem_of_getElem? (i := 115) rfl), rfl⟩, bX9_length⟩
theorem kX6_53 : gMV RX6 53 mX9_signAt 1 := ⟨⟨gI5 (List.mem_of_getElem? (i := 119) rfl), rfl⟩, bX9_signAt⟩
theorem kX9_24 : gMV RX9 24 mX7_get 1 := ⟨⟨gI5 (List.mem_of_getElem? (i := 123) rfl), rfl⟩, bX7_get⟩
theorem kX6_57 : gMV RX6 57 mX5_glyphWith 1 := ⟨⟨gI5 (List.mem_of_getElem? (i := 124) rfl), rfl⟩, bX5_glyphWith⟩
theorem kX10_374 : gMV RX10 374 mX6_take 2 := ⟨⟨gI5 (List.mem_of_getElem? (i := 125) rfl), rfl⟩, bX6_take⟩
theorem kX6_62 : gMV RX6 62 mX7_put 2 := ⟨⟨gI5 (List.mem_of_getElem? (i := 129) rfl), rfl⟩, bX7_put⟩
theorem kX10_378 : gMV RX10 378 mX9_clear 0 := ⟨⟨gI5 (List.mem_of_getElem? (i := 130) rfl), rfl⟩, bX9_clear⟩
theorem kX10_383 : gMV RX10 383 mX6_length 0 := ⟨⟨gI5 (List.mem_of_getElem? (i := 135) rfl), rfl⟩, bX6_length⟩
theorem kL_251 : gMSHk RL 251 mL_proofWidth 2 := ⟨⟨gI5 (List.mem_of_getElem? (i := 139) rfl), rfl⟩, bL_proofWidth⟩
theorem kL_114 : gMV RL 114 mX10_proofWidth 0 := ⟨⟨gI5 (List.mem_of_getElem? (i := 142) rfl), rfl⟩, bX10_proofWidth⟩
theorem kX10_388 : gMV RX10 388 mX6_set 1 := ⟨⟨gI5 (List.mem_of_getElem? (i := 147) rfl), rfl⟩, bX6_set⟩
theorem kX6_73 : gMV RX6 73 mX7_get 1 := ⟨⟨gI5 (List.mem_of_getElem? (i := 151) rfl), rfl⟩, bX7_get⟩
theorem kX6_76 : gMV RX6 76 mX1_advanceOf 1 := ⟨⟨gI5 (List.mem_of_getElem? (i := 152) rfl), rfl⟩, bX1_advanceOf⟩
theorem kX6_79 : gMV RX6 79 mX6_isSpace 1 := ⟨⟨gI5 (List.mem_of_getElem? (i := 153) rfl), rfl⟩, bX6_isSpace⟩
theorem kX6_87 : gMV RX6 87 mX4_kernOf 2 := ⟨⟨gI5 (List.mem_of_getElem? (i := 157) rfl), rfl⟩, bX4_kernOf⟩
theorem kX10_391 : gMV RX10 391 mX6_width 0 := ⟨⟨gI5 (List.mem_of_getElem? (i := 158) rfl), rfl⟩, bX6_width⟩
theorem kL_254 : gMSHk RL 254 mL_position 3 := ⟨⟨gI5 (List.mem_of_getElem? (i := 162) rfl), rfl⟩, bL_position⟩
theorem kL_117 : gMV RL 117 mX10_position 1 := ⟨⟨gI5 (List.mem_of_getElem? (i := 165) rfl), rfl⟩, bX10_position⟩
theorem kX10_396 : gMV RX10 396 mX6_placeOf 1 := ⟨⟨gI5 (List.mem_of_getElem? (i := 170) rfl), rfl⟩, bX6_placeOf⟩
theorem kL_257 : gMSHk RL 257 mL_lines 3 := ⟨⟨gI5 (List.mem_of_getElem? (i := 174) rfl), rfl⟩, bL_lines⟩
theorem kL_120 : gMV RL 120 mX10_lines 1 := ⟨⟨gI5 (List.mem_of_getElem? (i := 177) rfl), rfl⟩, bX10_lines⟩
theorem kX10_399 : gMS RX10 399 mX10_requireMeasure 1 := ⟨⟨gI5 (List.mem_of_getElem? (i := 181) rfl), rfl⟩, bX10_requireMeasure⟩
theorem wX10_521 : gH (.constantLong RX10 521 (100000)) := ⟨gI5 (List.mem_of_getElem? (i := 184) rfl), rfl⟩
theorem kX10_402 : gMV RX10 402 mX6_breakLines 1 := ⟨⟨gI5 (List.mem_of_getElem? (i := 186) rfl), rfl⟩, bX6_breakLines⟩
theorem wX6_93 : gH (.constant RX6 93 100001) := ⟨gI5 (List.mem_of_getElem? (i := 190) rfl), rfl⟩
theorem kX6_94 : gMV RX6 94 mX6_putWord 3 := ⟨⟨gI5 (List.mem_of_getElem? (i := 191) rfl), rfl⟩, bX6_putWord⟩
theorem kX6_103 : gMi RX6 103 := ⟨⟨gI5 (List.mem_of_getElem? (i := 195) rfl), rfl⟩, ⟨gI2 (List.mem_of_getElem? (i := 92) rfl), rfl⟩, ⟨gI1 (List.mem_of_getElem? (i := 18) rfl), rfl⟩, ⟨gI2 (List.mem_of_getElem? (i := 93) rfl), rfl⟩⟩
theorem kX10_405 : gMV RX10 405 mX6_lineCount 0 := ⟨⟨gI5 (List.mem_of_getElem? (i := 196) rfl), rfl⟩, bX6_lineCount⟩
theorem kL_260 : gMSHk RL 260 mL_line 5 := ⟨⟨gI5 (List.mem_of_getElem? (i := 200) rfl), rfl⟩, bL_line⟩
theorem kL_123 : gMV RL 123 mX10_line 3 := ⟨⟨gI5 (List.mem_of_getElem? (i := 203) rfl), rfl⟩, bX10_line⟩
theorem wX10_408 : gH (.constantLong RX10 408 (2)) := ⟨gI5 (List.mem_of_getElem? (i := 207) rfl), rfl⟩
theorem kX10_414 : gMV RX10 414 mX6_lineWidth 1 := ⟨⟨gI5 (List.mem_of_getElem? (i := 210) rfl), rfl⟩, bX6_lineWidth⟩
theorem kX10_417 : gMV RX10 417 mX6_lineStart 1 := ⟨⟨gI5 (List.mem_of_getElem? (i := 214) rfl), rfl⟩, bX6_lineStart⟩
theorem kX10_420 : gMV RX10 420 mX6_lineWords 1 := ⟨⟨gI5 (List.mem_of_getElem? (i := 218) rfl), rfl⟩, bX6_lineWords⟩
theorem kL_263 : gMSHk RL 263 mL_leastMeasure 3 := ⟨⟨gI5 (List.mem_of_getElem? (i := 222) rfl), rfl⟩, bL_leastMeasure⟩
theorem kL_126 : gMV RL 126 mX10_leastMeasure 1 := ⟨⟨gI5 (List.mem_of_getElem? (i := 225) rfl), rfl⟩, bX10_leastMeasure⟩
theorem wX10_423 : gH (.constantLong RX10 423 (60)) := ⟨gI5 (List.mem_of_getElem? (i := 229) rfl), rfl⟩
theorem kX10_427 : gMV RX10 427 mX6_leastMeasureFor 1 := ⟨⟨gI5 (List.mem_of_getElem? (i := 231) rfl), rfl⟩, bX6_leastMeasureFor⟩
theorem wX6_98 : gH (.constant RX6 98 100000) := ⟨gI5 (List.mem_of_getElem? (i := 235) rfl), rfl⟩
theorem kX6_99 : gMV RX6 99 mX6_breakLines 1 := ⟨⟨gI5 (List.mem_of_getElem? (i := 236) rfl), rfl⟩, bX6_breakLines⟩
theorem kL_266 : gMSHk RL 266 mL_meanAdvance 2 := ⟨⟨gI5 (List.mem_of_getElem? (i := 238) rfl), rfl⟩, bL_meanAdvance⟩
theorem kL_129 : gMV RL 129 mX10_meanAdvance 0 := ⟨⟨gI6 (List.mem_of_getElem? (i := 15) rfl), rfl⟩, bX10_meanAdvance⟩
theorem kX10_440 : gMV RX10 440 mX1_advanceSum 0 := ⟨⟨gI6 (List.mem_of_getElem? (i := 22) rfl), rfl⟩, bX1_advanceSum⟩
theorem kX1_70 : gMV RX1 70 mX5_glyphCount 0 := ⟨⟨gI6 (List.mem_of_getElem? (i := 26) rfl), rfl⟩, bX5_glyphCount⟩
theorem kX1_74 : gMV RX1 74 mX1_advanceOf 1 := ⟨⟨gI6 (List.mem_of_getElem? (i := 27) rfl), rfl⟩, bX1_advanceOf⟩
theorem kL_270 : gMSHk RL 270 mL_account 3 := ⟨⟨gI6 (List.mem_of_getElem? (i := 28) rfl), rfl⟩, bL_account⟩
theorem kL_135 : gMV RL 135 mX10_account 1 := ⟨⟨gI6 (List.mem_of_getElem? (i := 31) rfl), rfl⟩, bX10_account⟩
theorem wX10_443 : gH (.constantLong RX10 443 (8)) := ⟨gI6 (List.mem_of_getElem? (i := 35) rfl), rfl⟩
theorem kX10_447 : gMV RX10 447 mX5_contourSum 0 := ⟨⟨gI6 (List.mem_of_getElem? (i := 37) rfl), rfl⟩, bX5_contourSum⟩
theorem kX10_450 : gMV RX10 450 mX5_pointSum 0 := ⟨⟨gI6 (List.mem_of_getElem? (i := 41) rfl), rfl⟩, bX5_pointSum⟩
theorem kX5_96 : gMV RX5 96 mX5_pointCountOf 1 := ⟨⟨gI6 (List.mem_of_getElem? (i := 45) rfl), rfl⟩, bX5_pointCountOf⟩
theorem kX10_453 : gMV RX10 453 mX0_ruleSum 0 := ⟨⟨gI6 (List.mem_of_getElem? (i := 46) rfl), rfl⟩, bX0_ruleSum⟩
theorem kX10_456 : gMV RX10 456 mX1_kernedPairSum 0 := ⟨⟨gI6 (List.mem_of_getElem? (i := 50) rfl), rfl⟩, bX1_kernedPairSum⟩
theorem kX1_78 : gMV RX1 78 mX4_kernOf 2 := ⟨⟨gI6 (List.mem_of_getElem? (i := 54) rfl), rfl⟩, bX4_kernOf⟩
theorem kX10_459 : gMV RX10 459 mX8_sum 0 := ⟨⟨gI6 (List.mem_of_getElem? (i := 55) rfl), rfl⟩, bX8_sum⟩
theorem kL_273 : gMSHk RL 273 mL_readGlyph 2 := ⟨⟨gI6 (List.mem_of_getElem? (i := 59) rfl), rfl⟩, bL_readGlyph⟩
theorem kL_138 : gMV RL 138 mX10_readGlyph 0 := ⟨⟨gI6 (List.mem_of_getElem? (i := 62) rfl), rfl⟩, bX10_readGlyph⟩
theorem kX10_462 : gMV RX10 462 mX2_faultIn 1 := ⟨⟨gI6 (List.mem_of_getElem? (i := 66) rfl), rfl⟩, bX2_faultIn⟩
theorem kX2_55 : gMV RX2 55 mX9_length 0 := ⟨⟨gI6 (List.mem_of_getElem? (i := 70) rfl), rfl⟩, bX9_length⟩
theorem kX2_61 : gMV RX2 61 mX9_signAt 1 := ⟨⟨gI6 (List.mem_of_getElem? (i := 71) rfl), rfl⟩, bX9_signAt⟩
theorem kX2_65 : gMV RX2 65 mX2_accepts 1 := ⟨⟨gI6 (List.mem_of_getElem? (i := 72) rfl), rfl⟩, bX2_accepts⟩
theorem kX2_93 : gMV RX2 93 mX2_acceptsCode 1 := ⟨⟨gI6 (List.mem_of_getElem? (i := 76) rfl), rfl⟩, bX2_acceptsCode⟩
theorem wX2_111 : gH (.constantLong RX2 111 (33)) := ⟨gI6 (List.mem_of_getElem? (i := 80) rfl), rfl⟩
theorem wX2_113 : gH (.constantLong RX2 113 (126)) := ⟨gI6 (List.mem_of_getElem? (i := 81) rfl), rfl⟩
theorem kX2_76 : gMN RX2 76 "TypeDesigner" mX10_isWithin 3 := ⟨⟨gI6 (List.mem_of_getElem? (i := 82) rfl), rfl⟩, bX10_isWithin⟩
theorem kX2_96 : gMV RX2 96 mX2_acceptsMinus 1 := ⟨⟨gI6 (List.mem_of_getElem? (i := 83) rfl), rfl⟩, bX2_acceptsMinus⟩
theorem kX2_99 : gMV RX2 99 mX2_acceptsFirstDigit 1 := ⟨⟨gI6 (List.mem_of_getElem? (i := 87) rfl), rfl⟩, bX2_acceptsFirstDigit⟩
theorem kX2_119 : gMS RX2 119 mX2_isDigit 1 := ⟨⟨gI6 (List.mem_of_getElem? (i := 91) rfl), rfl⟩, bX2_isDigit⟩
theorem wX2_134 : gH (.constantLong RX2 134 (48)) := ⟨gI6 (List.mem_of_getElem? (i := 94) rfl), rfl⟩
theorem wX2_136 : gH (.constantLong RX2 136 (57)) := ⟨gI6 (List.mem_of_getElem? (i := 95) rfl), rfl⟩
theorem kX2_102 : gMV RX2 102 mX2_acceptsNextDigit 1 := ⟨⟨gI6 (List.mem_of_getElem? (i := 96) rfl), rfl⟩, bX2_acceptsNextDigit⟩
theorem kX2_105 : gMV RX2 105 mX2_acceptsEndOfNumber 1 := ⟨⟨gI6 (List.mem_of_getElem? (i := 100) rfl), rfl⟩, bX2_acceptsEndOfNumber⟩
theorem kX2_122 : gMV RX2 122 mX2_acceptsEndOfPoint 1 := ⟨⟨gI6 (List.mem_of_getElem? (i := 104) rfl), rfl⟩, bX2_acceptsEndOfPoint⟩
theorem kX2_128 : gMV RX2 128 mX2_signedValue 0 := ⟨⟨gI6 (List.mem_of_getElem? (i := 108) rfl), rfl⟩, bX2_signedValue⟩
theorem kX2_131 : gMV RX2 131 mX7_put 2 := ⟨⟨gI6 (List.mem_of_getElem? (i := 112) rfl), rfl⟩, bX7_put⟩
theorem kX2_115 : gMV RX2 115 mX2_beginCoordinate 1 := ⟨⟨gI6 (List.mem_of_getElem? (i := 113) rfl), rfl⟩, bX2_beginCoordinate⟩
theorem kX2_125 : gMV RX2 125 mX2_acceptsComma 1 := ⟨⟨gI6 (List.mem_of_getElem? (i := 117) rfl), rfl⟩, bX2_acceptsComma⟩
theorem kX2_108 : gMV RX2 108 mX2_acceptsOpening 1 := ⟨⟨gI6 (List.mem_of_getElem? (i := 121) rfl), rfl⟩, bX2_acceptsOpening⟩
theorem kX10_468 : gMV RX10 468 mX2_code 0 := ⟨⟨gI6 (List.mem_of_getElem? (i := 126) rfl), rfl⟩, bX2_code⟩
theorem kX10_471 : gMV RX10 471 mX2_fitsIntoGlyph 0 := ⟨⟨gI6 (List.mem_of_getElem? (i := 130) rfl), rfl⟩, bX2_fitsIntoGlyph⟩
theorem kX2_69 : gMV RX2 69 mX7_get 1 := ⟨⟨gI6 (List.mem_of_getElem? (i := 134) rfl), rfl⟩, bX7_get⟩
theorem wX2_72 : gH (.constantLong RX2 72 (-200)) := ⟨gI6 (List.mem_of_getElem? (i := 135) rfl), rfl⟩
theorem wX2_74 : gH (.constantLong RX2 74 (1200)) := ⟨gI6 (List.mem_of_getElem? (i := 136) rfl), rfl⟩
theorem kX10_476 : gMV RX10 476 mX2_drawInto 2 := ⟨⟨gI6 (List.mem_of_getElem? (i := 138) rfl), rfl⟩, bX2_drawInto⟩
theorem kX2_80 : gMV RX2 80 mX5_removeContours 1 := ⟨⟨gI6 (List.mem_of_getElem? (i := 142) rfl), rfl⟩, bX5_removeContours⟩
theorem kX2_86 : gMV RX2 86 mX5_addEmptyContour 1 := ⟨⟨gI6 (List.mem_of_getElem? (i := 146) rfl), rfl⟩, bX5_addEmptyContour⟩
theorem kX2_89 : gMV RX2 89 mX5_addPoint 4 := ⟨⟨gI6 (List.mem_of_getElem? (i := 147) rfl), rfl⟩, bX5_addPoint⟩
theorem kL_280 : gMSHk RL 280 mL_undo 2 := ⟨⟨gI6 (List.mem_of_getElem? (i := 148) rfl), rfl⟩, bL_undo⟩
theorem kL_141 : gMV RL 141 mX10_undo 0 := ⟨⟨gI6 (List.mem_of_getElem? (i := 151) rfl), rfl⟩, bX10_undo⟩
theorem kX10_480 : gMV RX10 480 mX3_size 0 := ⟨⟨gI6 (List.mem_of_getElem? (i := 155) rfl), rfl⟩, bX3_size⟩
theorem kX10_485 : gMV RX10 485 mX3_takeBack 1 := ⟨⟨gI6 (List.mem_of_getElem? (i := 160) rfl), rfl⟩, bX3_takeBack⟩
theorem kX3_39 : gMx RX3 39 := ⟨⟨gI6 (List.mem_of_getElem? (i := 164) rfl), rfl⟩, ⟨gI3 (List.mem_of_getElem? (i := 138) rfl), rfl⟩, ⟨gI1 (List.mem_of_getElem? (i := 18) rfl), rfl⟩, ⟨gI3 (List.mem_of_getElem? (i := 139) rfl), rfl⟩⟩
theorem kX10_488 : gMV RX10 488 mX6_forget 0 := ⟨⟨gI6 (List.mem_of_getElem? (i := 165) rfl), rfl⟩, bX6_forget⟩
theorem kL_287 : gMSHk RL 287 mL_restore 1 := ⟨⟨gI6 (List.mem_of_getElem? (i := 169) rfl), rfl⟩, bL_restore⟩
theorem kL_144 : gMV RL 144 mX10_restore 0 := ⟨⟨gI6 (List.mem_of_getElem? (i := 172) rfl), rfl⟩, bX10_restore⟩
theorem kX10_496 : gMV RX10 496 mX3_forget 0 := ⟨⟨gI6 (List.mem_of_getElem? (i := 177) rfl), rfl⟩, bX3_forget⟩
theorem kL_157 : gMV RL 157 mX11_thrown 0 := ⟨⟨gI7 (List.mem_of_getElem? (i := 24) rfl), rfl⟩, bX11_thrown⟩
theorem kL_156 : gMV RL 156 mX11_addGlyph 1 := ⟨⟨gI7 (List.mem_of_getElem? (i := 28) rfl), rfl⟩, bX11_addGlyph⟩
theorem kX11_57 : gMS RX11 57 mX11_in 3 := ⟨⟨gI7 (List.mem_of_getElem? (i := 32) rfl), rfl⟩, bX11_in⟩
theorem kX11_85 : gMV RX11 85 mX11_withCode 1 := ⟨⟨gI7 (List.mem_of_getElem? (i := 35) rfl), rfl⟩, bX11_withCode⟩
theorem kX11_69 : gMV RX11 69 mX11_of 2 := ⟨⟨gI7 (List.mem_of_getElem? (i := 39) rfl), rfl⟩, bX11_of⟩
theorem kX11_61 : gMS RX11 61 mX11_at 2 := ⟨⟨gI7 (List.mem_of_getElem? (i := 43) rfl), rfl⟩, bX11_at⟩
theorem kX11_89 : gMV RX11 89 mX11_change 0 := ⟨⟨gI7 (List.mem_of_getElem? (i := 46) rfl), rfl⟩, bX11_change⟩
theorem kX11_79 : gCp RX11 79 := ⟨⟨gI7 (List.mem_of_getElem? (i := 50) rfl), rfl⟩, ⟨gI2 (List.mem_of_getElem? (i := 96) rfl), rfl⟩, ⟨gI2 (List.mem_of_getElem? (i := 95) rfl), rfl⟩, ⟨gI1 (List.mem_of_getElem? (i := 19) rfl), rfl⟩⟩
theorem kX11_92 : gMV RX11 92 mX11_newGlyph 1 := ⟨⟨gI7 (List.mem_of_getElem? (i := 51) rfl), rfl⟩, bX11_newGlyph⟩
theorem kL_163 : gMV RL 163 mX11_addContour 5 := ⟨⟨gI7 (List.mem_of_getElem? (i := 55) rfl), rfl⟩, bX11_addContour⟩
theorem kX11_65 : gMV RX11 65 mX11_isGlyph 1 := ⟨⟨gI7 (List.mem_of_getElem? (i := 59) rfl), rfl⟩, bX11_isGlyph⟩
theorem kX11_99 : gMS RX11 99 mX11_isCoordinate 1 := ⟨⟨gI7 (List.mem_of_getElem? (i := 63) rfl), rfl⟩, bX11_isCoordinate⟩
theorem kX11_103 : gMV RX11 103 mX11_setPoint 5 := ⟨⟨gI7 (List.mem_of_getElem? (i := 66) rfl), rfl⟩, bX11_setPoint⟩
theorem kX11_95 : gMS RX11 95 mX11_pointAt 3 := ⟨⟨gI7 (List.mem_of_getElem? (i := 70) rfl), rfl⟩, bX11_pointAt⟩
theorem kL_166 : gMV RL 166 mX11_movePoint 5 := ⟨⟨gI7 (List.mem_of_getElem? (i := 73) rfl), rfl⟩, bX11_movePoint⟩
theorem kX11_107 : gMV RX11 107 mX11_isPoint 3 := ⟨⟨gI7 (List.mem_of_getElem? (i := 77) rfl), rfl⟩, bX11_isPoint⟩
theorem kX11_72 : gMV RX11 72 mX11_isContour 2 := ⟨⟨gI7 (List.mem_of_getElem? (i := 81) rfl), rfl⟩, bX11_isContour⟩
theorem kL_170 : gMV RL 170 mX11_shift 3 := ⟨⟨gI7 (List.mem_of_getElem? (i := 85) rfl), rfl⟩, bX11_shift⟩
theorem kX11_119 : gMV RX11 119 mX11_edge 2 := ⟨⟨gI7 (List.mem_of_getElem? (i := 89) rfl), rfl⟩, bX11_edge⟩
theorem kX11_111 : gMi RX11 111 := ⟨⟨gI7 (List.mem_of_getElem? (i := 93) rfl), rfl⟩, ⟨gI2 (List.mem_of_getElem? (i := 92) rfl), rfl⟩, ⟨gI1 (List.mem_of_getElem? (i := 18) rfl), rfl⟩, ⟨gI2 (List.mem_of_getElem? (i := 93) rfl), rfl⟩⟩
theorem kX11_116 : gMx RX11 116 := ⟨⟨gI7 (List.mem_of_getElem? (i := 94) rfl), rfl⟩, ⟨gI3 (List.mem_of_getElem? (i := 138) rfl), rfl⟩, ⟨gI1 (List.mem_of_getElem? (i := 18) rfl), rfl⟩, ⟨gI3 (List.mem_of_getElem? (i := 139) rfl), rfl⟩⟩
theorem kL_174 : gMV RL 174 mX11_glyph 2 := ⟨⟨gI7 (List.mem_of_getElem? (i := 95) rfl), rfl⟩, bX11_glyph⟩
theorem kX11_126 : gMV RX11 126 mX11_pointsOf 1 := ⟨⟨gI7 (List.mem_of_getElem? (i := 99) rfl), rfl⟩, bX11_pointsOf⟩
theorem kX11_129 : gMV RX11 129 mX11_advance 1 := ⟨⟨gI7 (List.mem_of_getElem? (i := 103) rfl), rfl⟩, bX11_advance⟩
theorem kX11_141 : gMV RX11 141 mX11_bearing 1 := ⟨⟨gI7 (List.mem_of_getElem? (i := 107) rfl), rfl⟩, bX11_bearing⟩
theorem kX11_138 : gMV RX11 138 mX11_followed 1 := ⟨⟨gI7 (List.mem_of_getElem? (i := 111) rfl), rfl⟩, bX11_followed⟩
theorem kX11_135 : gMS RX11 135 mX11_sideAt 2 := ⟨⟨gI7 (List.mem_of_getElem? (i := 115) rfl), rfl⟩, bX11_sideAt⟩
theorem kX11_132 : gMV RX11 132 mX11_areas 1 := ⟨⟨gI7 (List.mem_of_getElem? (i := 118) rfl), rfl⟩, bX11_areas⟩
theorem kX11_123 : gMV RX11 123 mX11_areaOf 2 := ⟨⟨gI7 (List.mem_of_getElem? (i := 122) rfl), rfl⟩, bX11_areaOf⟩
theorem kL_177 : gMV RL 177 mX11_find 1 := ⟨⟨gI7 (List.mem_of_getElem? (i := 126) rfl), rfl⟩, bX11_find⟩
theorem kL_180 : gMV RL 180 mX11_points 2 := ⟨⟨gI7 (List.mem_of_getElem? (i := 130) rfl), rfl⟩, bX11_points⟩
theorem kL_184 : gMV RL 184 mX11_point 4 := ⟨⟨gI7 (List.mem_of_getElem? (i := 134) rfl), rfl⟩, bX11_point⟩
theorem kL_187 : gMV RL 187 mX11_area 2 := ⟨⟨gI7 (List.mem_of_getElem? (i := 138) rfl), rfl⟩, bX11_area⟩
theorem kL_190 : gMV RL 190 mX11_setSide 3 := ⟨⟨gI7 (List.mem_of_getElem? (i := 142) rfl), rfl⟩, bX11_setSide⟩
theorem kX11_144 : gMV RX11 144 mX11_isSide 2 := ⟨⟨gI7 (List.mem_of_getElem? (i := 146) rfl), rfl⟩, bX11_isSide⟩
theorem kL_193 : gMV RL 193 mX11_follow 5 := ⟨⟨gI7 (List.mem_of_getElem? (i := 150) rfl), rfl⟩, bX11_follow⟩
theorem kX11_147 : gMV RX11 147 mX11_leadsTo 2 := ⟨⟨gI7 (List.mem_of_getElem? (i := 154) rfl), rfl⟩, bX11_leadsTo⟩
theorem kL_196 : gMV RL 196 mX11_side 3 := ⟨⟨gI7 (List.mem_of_getElem? (i := 158) rfl), rfl⟩, bX11_side⟩
theorem kX11_150 : gMV RX11 150 mX11_rulesOf 1 := ⟨⟨gI7 (List.mem_of_getElem? (i := 162) rfl), rfl⟩, bX11_rulesOf⟩
theorem kL_199 : gMV RL 199 mX11_followers 2 := ⟨⟨gI7 (List.mem_of_getElem? (i := 166) rfl), rfl⟩, bX11_followers⟩
theorem kL_203 : gMV RL 203 mX11_setClass 3 := ⟨⟨gI7 (List.mem_of_getElem? (i := 170) rfl), rfl⟩, bX11_setClass⟩
theorem kL_206 : gMV RL 206 mX11_kernClasses 3 := ⟨⟨gI7 (List.mem_of_getElem? (i := 174) rfl), rfl⟩, bX11_kernClasses⟩
theorem kX11_153 : gMS RX11 153 mX11_isClass 1 := ⟨⟨gI7 (List.mem_of_getElem? (i := 178) rfl), rfl⟩, bX11_isClass⟩
theorem kX11_156 : gMS RX11 156 mX11_isKern 1 := ⟨⟨gI7 (List.mem_of_getElem? (i := 181) rfl), rfl⟩, bX11_isKern⟩
theorem kX11_159 : gMV RX11 159 mX11_classKerns 0 := ⟨⟨gI7 (List.mem_of_getElem? (i := 184) rfl), rfl⟩, bX11_classKerns⟩
theorem kL_209 : gMV RL 209 mX11_kernPair 3 := ⟨⟨gI7 (List.mem_of_getElem? (i := 188) rfl), rfl⟩, bX11_kernPair⟩
theorem kX11_163 : gMV RX11 163 mX11_pairOf 2 := ⟨⟨gI7 (List.mem_of_getElem? (i := 192) rfl), rfl⟩, bX11_pairOf⟩
theorem kL_213 : gMV RL 213 mX11_dropKern 3 := ⟨⟨gI7 (List.mem_of_getElem? (i := 196) rfl), rfl⟩, bX11_dropKern⟩
theorem kX11_166 : gMV RX11 166 mX11_isToldFor 2 := ⟨⟨gI7 (List.mem_of_getElem? (i := 200) rfl), rfl⟩, bX11_isToldFor⟩
theorem kL_216 : gMV RL 216 mX11_kern 2 := ⟨⟨gI7 (List.mem_of_getElem? (i := 204) rfl), rfl⟩, bX11_kern⟩
theorem kX11_172 : gMV RX11 172 mX11_kernOf 2 := ⟨⟨gI7 (List.mem_of_getElem? (i := 208) rfl), rfl⟩, bX11_kernOf⟩
theorem kX11_169 : gMV RX11 169 mX11_hasClassKern 2 := ⟨⟨gI7 (List.mem_of_getElem? (i := 212) rfl), rfl⟩, bX11_hasClassKern⟩
theorem kL_219 : gMV RL 219 mX11_why 2 := ⟨⟨gI7 (List.mem_of_getElem? (i := 216) rfl), rfl⟩, bX11_why⟩
theorem kL_222 : gMV RL 222 mX11_addStem 3 := ⟨⟨gI7 (List.mem_of_getElem? (i := 220) rfl), rfl⟩, bX11_addStem⟩
theorem kL_225 : gMV RL 225 mX11_removeStem 2 := ⟨⟨gI7 (List.mem_of_getElem? (i := 224) rfl), rfl⟩, bX11_removeStem⟩
theorem kX11_175 : gMV RX11 175 mX11_isStem 2 := ⟨⟨gI7 (List.mem_of_getElem? (i := 228) rfl), rfl⟩, bX11_isStem⟩
theorem kL_229 : gMV RL 229 mX11_stem 3 := ⟨⟨gI7 (List.mem_of_getElem? (i := 232) rfl), rfl⟩, bX11_stem⟩
theorem kL_232 : gMV RL 232 mX11_place 3 := ⟨⟨gI7 (List.mem_of_getElem? (i := 236) rfl), rfl⟩, bX11_place⟩
theorem kX11_184 : gMV RX11 184 mX11_placeOf 3 := ⟨⟨gI8 (List.mem_of_getElem? (i := 0) rfl), rfl⟩, bX11_placeOf⟩
theorem kX11_181 : gMS RX11 181 mX11_rounded 2 := ⟨⟨gI8 (List.mem_of_getElem? (i := 4) rfl), rfl⟩, bX11_rounded⟩
theorem kX11_178 : gMS RX11 178 mJ9_floorDiv_7cf53 2 := ⟨⟨gI8 (List.mem_of_getElem? (i := 7) rfl), rfl⟩, bJ9_floorDiv_7cf53⟩
theorem kL_236 : gMV RL 236 mX11_isBlack 4 := ⟨⟨gI8 (List.mem_of_getElem? (i := 8) rfl), rfl⟩, bX11_isBlack⟩
theorem kX11_193 : gMV RX11 193 mX11_black 4 := ⟨⟨gI8 (List.mem_of_getElem? (i := 12) rfl), rfl⟩, bX11_black⟩
theorem wX11_187 : gH (.constantLong RX11 187 (500)) := ⟨gI8 (List.mem_of_getElem? (i := 16) rfl), rfl⟩
theorem kX11_189 : gMS RX11 189 mX11_crosses 7 := ⟨⟨gI8 (List.mem_of_getElem? (i := 17) rfl), rfl⟩, bX11_crosses⟩
theorem kL_239 : gMV RL 239 mX11_blackPixels 2 := ⟨⟨gI8 (List.mem_of_getElem? (i := 20) rfl), rfl⟩, bX11_blackPixels⟩
theorem kL_242 : gMV RL 242 mX11_setProof 2 := ⟨⟨gI8 (List.mem_of_getElem? (i := 24) rfl), rfl⟩, bX11_setProof⟩
theorem kL_246 : gMV RL 246 mX11_append 1 := ⟨⟨gI8 (List.mem_of_getElem? (i := 28) rfl), rfl⟩, bX11_append⟩
theorem kL_250 : gMV RL 250 mX11_takeProof 0 := ⟨⟨gI8 (List.mem_of_getElem? (i := 32) rfl), rfl⟩, bX11_takeProof⟩
theorem kL_253 : gMV RL 253 mX11_proofWidth 0 := ⟨⟨gI8 (List.mem_of_getElem? (i := 36) rfl), rfl⟩, bX11_proofWidth⟩
theorem kX11_209 : gMV RX11 209 mX11_begins 1 := ⟨⟨gI8 (List.mem_of_getElem? (i := 40) rfl), rfl⟩, bX11_begins⟩
theorem kX11_206 : gMV RX11 206 mX11_stepOver 2 := ⟨⟨gI8 (List.mem_of_getElem? (i := 44) rfl), rfl⟩, bX11_stepOver⟩
theorem kX11_203 : gMV RX11 203 mX11_widthOf 1 := ⟨⟨gI8 (List.mem_of_getElem? (i := 48) rfl), rfl⟩, bX11_widthOf⟩
theorem kL_256 : gMV RL 256 mX11_position 1 := ⟨⟨gI8 (List.mem_of_getElem? (i := 52) rfl), rfl⟩, bX11_position⟩
theorem kL_259 : gMV RL 259 mX11_lines 1 := ⟨⟨gI8 (List.mem_of_getElem? (i := 56) rfl), rfl⟩, bX11_lines⟩
theorem kX11_222 : gMS RX11 222 mX11_isMeasure 1 := ⟨⟨gI8 (List.mem_of_getElem? (i := 60) rfl), rfl⟩, bX11_isMeasure⟩
theorem wX11_221 : gH (.constant RX11 221 100000) := ⟨gI8 (List.mem_of_getElem? (i := 63) rfl), rfl⟩
theorem kX11_225 : gMV RX11 225 mX11_findWords 0 := ⟨⟨gI8 (List.mem_of_getElem? (i := 64) rfl), rfl⟩, bX11_findWords⟩
theorem kX11_228 : gMV RX11 228 mX11_breakLines 1 := ⟨⟨gI8 (List.mem_of_getElem? (i := 68) rfl), rfl⟩, bX11_breakLines⟩
theorem kX11_218 : gMV RX11 218 mX11_more 1 := ⟨⟨gI8 (List.mem_of_getElem? (i := 72) rfl), rfl⟩, bX11_more⟩
theorem kL_262 : gMV RL 262 mX11_line 3 := ⟨⟨gI8 (List.mem_of_getElem? (i := 76) rfl), rfl⟩, bX11_line⟩
theorem kL_265 : gMV RL 265 mX11_leastMeasure 1 := ⟨⟨gI8 (List.mem_of_getElem? (i := 80) rfl), rfl⟩, bX11_leastMeasure⟩
theorem kX11_232 : gMV RX11 232 mX11_tried 3 := ⟨⟨gI8 (List.mem_of_getElem? (i := 84) rfl), rfl⟩, bX11_tried⟩
theorem kL_269 : gMV RL 269 mX11_meanAdvance 0 := ⟨⟨gI8 (List.mem_of_getElem? (i := 88) rfl), rfl⟩, bX11_meanAdvance⟩
theorem kX11_235 : gMV RX11 235 mX11_advances 0 := ⟨⟨gI8 (List.mem_of_getElem? (i := 92) rfl), rfl⟩, bX11_advances⟩
theorem kL_272 : gMV RL 272 mX11_account 1 := ⟨⟨gI8 (List.mem_of_getElem? (i := 96) rfl), rfl⟩, bX11_account⟩
theorem kX11_238 : gMV RX11 238 mX11_kernedPairs 0 := ⟨⟨gI8 (List.mem_of_getElem? (i := 100) rfl), rfl⟩, bX11_kernedPairs⟩
theorem kX11_241 : gMV RX11 241 mX11_sumOf 1 := ⟨⟨gI8 (List.mem_of_getElem? (i := 104) rfl), rfl⟩, bX11_sumOf⟩
theorem kL_275 : gMV RL 275 mX11_readGlyph 0 := ⟨⟨gI8 (List.mem_of_getElem? (i := 108) rfl), rfl⟩, bX11_readGlyph⟩
theorem kX11_251 : gMV RX11 251 mX11_here 0 := ⟨⟨gI8 (List.mem_of_getElem? (i := 112) rfl), rfl⟩, bX11_here⟩
theorem kX11_270 : gMV RX11 270 mX11_readContour 0 := ⟨⟨gI8 (List.mem_of_getElem? (i := 116) rfl), rfl⟩, bX11_readContour⟩
theorem kX11_261 : gMV RX11 261 mX11_wants 1 := ⟨⟨gI8 (List.mem_of_getElem? (i := 120) rfl), rfl⟩, bX11_wants⟩
theorem kX11_264 : gMV RX11 264 mX11_coordinate 0 := ⟨⟨gI8 (List.mem_of_getElem? (i := 124) rfl), rfl⟩, bX11_coordinate⟩
theorem kX11_254 : gMV RX11 254 mX11_isDigit 0 := ⟨⟨gI8 (List.mem_of_getElem? (i := 128) rfl), rfl⟩, bX11_isDigit⟩
theorem kL_279 : gMV RL 279 mX11_faultPosition 0 := ⟨⟨gI8 (List.mem_of_getElem? (i := 132) rfl), rfl⟩, bX11_faultPosition⟩
theorem kL_282 : gMV RL 282 mX11_undo 0 := ⟨⟨gI8 (List.mem_of_getElem? (i := 136) rfl), rfl⟩, bX11_undo⟩
theorem kL_286 : gMV RL 286 mX11_save 0 := ⟨⟨gI8 (List.mem_of_getElem? (i := 140) rfl), rfl⟩, bX11_save⟩
theorem kL_290 : gMV RL 290 mX11_restore 0 := ⟨⟨gI8 (List.mem_of_getElem? (i := 144) rfl), rfl⟩, bX11_restore⟩
theorem th_IllegalArgumentException : gTh 63 67 7 prog_18_method_2_code "java/lang/IllegalArgumentException" := ⟨by decide +kernel, ⟨by decide +kernel, by decide +kernel, by decide +kernel, by decide +kernel⟩, by decide +kernel⟩
theorem th_IllegalStateException : gTh 84 88 7 prog_19_method_2_code "java/lang/IllegalStateException" := ⟨by decide +kernel, ⟨by decide +kernel, by decide +kernel, by decide +kernel, by decide +kernel⟩, by decide +kernel⟩
theorem th_IndexOutOfBoundsException : gTh 260 262 7 prog_20_method_2_code "java/lang/IndexOutOfBoundsException" := ⟨by decide +kernel, ⟨by decide +kernel, by decide +kernel, by decide +kernel, by decide +kernel⟩, by decide +kernel⟩
theorem th_NoSuchElementException : gTh 174 178 13 prog_28_method_4_code "java/util/NoSuchElementException" := ⟨by decide +kernel, ⟨by decide +kernel, by decide +kernel, by decide +kernel, by decide +kernel⟩, by decide +kernel⟩
theorem th_UnsupportedOperationException : gTh 222 226 7 prog_27_method_2_code "java/lang/UnsupportedOperationException" := ⟨by decide +kernel, ⟨by decide +kernel, by decide +kernel, by decide +kernel, by decide +kernel⟩, by decide +kernel⟩
theorem th_ArithmeticException : gTh 435 439 7 prog_15_method_2_code "java/lang/ArithmeticException" := ⟨by decide +kernel, ⟨by decide +kernel, by decide +kernel, by decide +kernel, by decide +kernel⟩, by decide +kernel⟩
