/-! the methods, and what the tables say of each (by program: wip/whole/gen.py words) -/
abbrev pX0_init : aP := (yX0_init, cX0_init, 2, none, { frames := 8, cells := 2, slots := 114, locals := 110 }, [])
abbrev pX0_spread : aP := (yX0_spread, cX0_spread, 3, none, { frames := 10, cells := 0, slots := 0, locals := 159 }, [])
abbrev pX0_spreadBy : aP := (yX0_spreadBy, cX0_spreadBy, 6, none, { frames := 9, cells := 0, slots := 0, locals := 134 }, [])
abbrev pX0_add : aP := (yX0_add, cX0_add, 4, none, { frames := 8, cells := 0, slots := 0, locals := 110 }, [])
abbrev pX0_riskOf : aP := (yX0_riskOf, cX0_riskOf, 7, (some .long), { frames := 8, cells := 0, slots := 0, locals := 110 }, [])
abbrev pX1_init : aP := (yX1_init, cX1_init, 4, none, { frames := 9, cells := 5, slots := 640, locals := 131 }, [])
abbrev pX1_shiftOf : aP := (yX1_shiftOf, cX1_shiftOf, 1, (some .int), { frames := 8, cells := 0, slots := 0, locals := 110 }, [])
abbrev pX1_reckon : aP := (yX1_reckon, cX1_reckon, 3, (some .boolean), { frames := 12, cells := 0, slots := 0, locals := 210 }, [])
abbrev pX1_part : aP := (yX1_part, cX1_part, 4, none, { frames := 9, cells := 0, slots := 0, locals := 135 }, [])
abbrev pX1_keepIfAhead : aP := (yX1_keepIfAhead, cX1_keepIfAhead, 6, none, { frames := 8, cells := 0, slots := 0, locals := 110 }, [])
abbrev pX1_howMany : aP := (yX1_howMany, cX1_howMany, 5, (some .int), { frames := 8, cells := 0, slots := 0, locals := 110 }, [])
abbrev pX1_numberOf : aP := (yX1_numberOf, cX1_numberOf, 3, (some .int), { frames := 9, cells := 0, slots := 0, locals := 131 }, [])
abbrev pX1_sacksOf : aP := (yX1_sacksOf, cX1_sacksOf, 5, (some .int), { frames := 12, cells := 0, slots := 0, locals := 209 }, [])
abbrev pX1_placeFor : aP := (yX1_placeFor, cX1_placeFor, 10, (some .int), { frames := 12, cells := 0, slots := 0, locals := 210 }, [])
abbrev pX1_judged : aP := (yX1_judged, cX1_judged, 5, (some .int), { frames := 10, cells := 0, slots := 0, locals := 155 }, [])
abbrev pX1_paidBy : aP := (yX1_paidBy, cX1_paidBy, 5, (some .long), { frames := 9, cells := 0, slots := 0, locals := 131 }, [])
abbrev pX2_init : aP := (yX2_init, cX2_init, 3, none, { frames := 8, cells := 38, slots := 278, locals := 110 }, [])
abbrev pX2_fill : aP := (yX2_fill, cX2_fill, 2, (some .boolean), { frames := 11, cells := 0, slots := 0, locals := 186 }, [])
abbrev pX2_missing : aP := (yX2_missing, cX2_missing, 1, (some .long), { frames := 8, cells := 0, slots := 0, locals := 110 }, [])
abbrev pX2_begin : aP := (yX2_begin, cX2_begin, 3, none, { frames := 10, cells := 0, slots := 0, locals := 153 }, [])
abbrev pX2_addRow : aP := (yX2_addRow, cX2_addRow, 3, none, { frames := 9, cells := 0, slots := 0, locals := 131 }, [])
abbrev pX2_placeOf : aP := (yX2_placeOf, cX2_placeOf, 3, (some .int), { frames := 8, cells := 0, slots := 0, locals := 110 }, [])
abbrev pX2_valueOf : aP := (yX2_valueOf, cX2_valueOf, 3, (some .long), { frames := 9, cells := 0, slots := 0, locals := 132 }, [])
abbrev pX2_rowOf : aP := (yX2_rowOf, cX2_rowOf, 3, (some .int), { frames := 8, cells := 0, slots := 0, locals := 110 }, [])
abbrev pX2_push : aP := (yX2_push, cX2_push, 7, none, { frames := 11, cells := 0, slots := 0, locals := 186 }, [])
abbrev pX2_climb : aP := (yX2_climb, cX2_climb, 4, none, { frames := 10, cells := 0, slots := 0, locals := 163 }, [])
abbrev pX2_columnToEnter : aP := (yX2_columnToEnter, cX2_columnToEnter, 3, (some .int), { frames := 8, cells := 0, slots := 0, locals := 110 }, [])
abbrev pX2_rowToLeave : aP := (yX2_rowToLeave, cX2_rowToLeave, 6, (some .int), { frames := 8, cells := 0, slots := 0, locals := 110 }, [])
abbrev pX2_turn : aP := (yX2_turn, cX2_turn, 6, none, { frames := 9, cells := 0, slots := 0, locals := 138 }, [])
abbrev pX2_turnRow : aP := (yX2_turnRow, cX2_turnRow, 9, none, { frames := 8, cells := 0, slots := 0, locals := 110 }, [])
abbrev pX2_weigh : aP := (yX2_weigh, cX2_weigh, 3, (some .boolean), { frames := 10, cells := 0, slots := 0, locals := 155 }, [])
abbrev pX2_weightBy : aP := (yX2_weightBy, cX2_weightBy, 3, (some .int), { frames := 9, cells := 0, slots := 0, locals := 133 }, [])
abbrev pX2_weightOf : aP := (yX2_weightOf, cX2_weightOf, 5, (some .long), { frames := 9, cells := 0, slots := 0, locals := 131 }, [])
abbrev pX2_firstToLeave : aP := (yX2_firstToLeave, cX2_firstToLeave, 5, (some .int), { frames := 10, cells := 0, slots := 0, locals := 155 }, [])
abbrev pX3_init : aP := (yX3_init, cX3_init, 4, none, { frames := 9, cells := 3, slots := 641, locals := 133 }, [])
abbrev pX3_forgetAll : aP := (yX3_forgetAll, cX3_forgetAll, 1, none, { frames := 9, cells := 0, slots := 0, locals := 133 }, [])
abbrev pX3_forget : aP := (yX3_forget, cX3_forget, 3, none, { frames := 9, cells := 0, slots := 0, locals := 131 }, [])
abbrev pX3_costOf : aP := (yX3_costOf, cX3_costOf, 3, (some .int), { frames := 11, cells := 0, slots := 0, locals := 188 }, [])
abbrev pX3_sacksOf : aP := (yX3_sacksOf, cX3_sacksOf, 2, (some .int), { frames := 11, cells := 0, slots := 0, locals := 188 }, [])
abbrev pX3_sacksIn : aP := (yX3_sacksIn, cX3_sacksIn, 9, (some .int), { frames := 11, cells := 0, slots := 0, locals := 188 }, [])
abbrev pX3_worthOf : aP := (yX3_worthOf, cX3_worthOf, 9, (some .int), { frames := 10, cells := 0, slots := 0, locals := 160 }, [])
abbrev pX3_priceMonth : aP := (yX3_priceMonth, cX3_priceMonth, 6, none, { frames := 8, cells := 0, slots := 0, locals := 110 }, [])
abbrev pX3_leastFrom : aP := (yX3_leastFrom, cX3_leastFrom, 10, (some .int), { frames := 9, cells := 0, slots := 0, locals := 131 }, [])
abbrev pX3_leftIn : aP := (yX3_leftIn, cX3_leftIn, 9, (some .int), { frames := 10, cells := 0, slots := 0, locals := 160 }, [])
abbrev pX4_init : aP := (yX4_init, cX4_init, 2, none, { frames := 8, cells := 4, slots := 804, locals := 110 }, [])
abbrev pX4_forget : aP := (yX4_forget, cX4_forget, 1, none, { frames := 8, cells := 0, slots := 0, locals := 110 }, [])
abbrev pX4_reach : aP := (yX4_reach, cX4_reach, 3, none, { frames := 10, cells := 0, slots := 0, locals := 156 }, [])
abbrev pX4_goodsOf : aP := (yX4_goodsOf, cX4_goodsOf, 3, (some .int), { frames := 8, cells := 0, slots := 0, locals := 110 }, [])
abbrev pX4_leastOf : aP := (yX4_leastOf, cX4_leastOf, 5, (some .int), { frames := 8, cells := 0, slots := 0, locals := 110 }, [])
abbrev pX5_init : aP := (yX5_init, cX5_init, 1, none, { frames := 9, cells := 7, slots := 339, locals := 130 }, [])
abbrev pX5_append : aP := (yX5_append, cX5_append, 3, none, { frames := 8, cells := 0, slots := 0, locals := 110 }, [])
abbrev pX5_read : aP := (yX5_read, cX5_read, 3, (some .boolean), { frames := 17, cells := 0, slots := 0, locals := 301 }, [])
abbrev pX5_readLine : aP := (yX5_readLine, cX5_readLine, 2, none, { frames := 16, cells := 0, slots := 0, locals := 280 }, [])
abbrev pX5_isFull : aP := (yX5_isFull, cX5_isFull, 2, (some .boolean), { frames := 8, cells := 0, slots := 0, locals := 110 }, [])
abbrev pX5_readRule : aP := (yX5_readRule, cX5_readRule, 2, none, { frames := 15, cells := 0, slots := 0, locals := 259 }, [])
abbrev pX5_readNumbers : aP := (yX5_readNumbers, cX5_readNumbers, 4, none, { frames := 12, cells := 0, slots := 0, locals := 193 }, [])
abbrev pX5_readNumber : aP := (yX5_readNumber, cX5_readNumber, 3, (some .int), { frames := 11, cells := 0, slots := 0, locals := 171 }, [])
abbrev pX5_note : aP := (yX5_note, cX5_note, 4, none, { frames := 9, cells := 0, slots := 0, locals := 132 }, [])
abbrev pX5_blame : aP := (yX5_blame, cX5_blame, 2, none, { frames := 8, cells := 0, slots := 0, locals := 110 }, [])
abbrev pX5_advance : aP := (yX5_advance, cX5_advance, 1, none, { frames := 10, cells := 0, slots := 0, locals := 151 }, [])
abbrev pX5_readDigits : aP := (yX5_readDigits, cX5_readDigits, 1, none, { frames := 9, cells := 0, slots := 0, locals := 131 }, [])
abbrev pX5_wordHere : aP := (yX5_wordHere, cX5_wordHere, 2, (some (.object "CoalStreet$Word")), { frames := 14, cells := 0, slots := 0, locals := 238 }, [])
abbrev pX5_spells : aP := (yX5_spells, cX5_spells, 3, (some .boolean), { frames := 13, cells := 0, slots := 0, locals := 216 }, [])
abbrev pX5_isBlank : aP := (yX5_isBlank, cX5_isBlank, 1, (some .boolean), { frames := 8, cells := 0, slots := 0, locals := 110 }, [])
abbrev pX5_isLetter : aP := (yX5_isLetter, cX5_isLetter, 1, (some .boolean), { frames := 8, cells := 0, slots := 0, locals := 110 }, [])
abbrev pX5_isDigit : aP := (yX5_isDigit, cX5_isDigit, 1, (some .boolean), { frames := 8, cells := 0, slots := 0, locals := 110 }, [])
abbrev pX6_init : aP := (yX6_init, cX6_init, 2, none, { frames := 10, cells := 21, slots := 2142, locals := 156 }, [])
abbrev pX6_forget : aP := (yX6_forget, cX6_forget, 1, none, { frames := 8, cells := 0, slots := 0, locals := 110 }, [])
abbrev pX6_seek : aP := (yX6_seek, cX6_seek, 6, none, { frames := 14, cells := 0, slots := 0, locals := 253 }, [])
abbrev pX6_keepIfMore : aP := (yX6_keepIfMore, cX6_keepIfMore, 4, none, { frames := 8, cells := 0, slots := 0, locals := 110 }, [])
abbrev pX6_gain : aP := (yX6_gain, cX6_gain, 1, (some .int), { frames := 13, cells := 0, slots := 0, locals := 233 }, [])
abbrev pX7_init : aP := (yX7_init, cX7_init, 1, none, { frames := 9, cells := 14, slots := 172, locals := 130 }, [])
abbrev pX7_copyFrom : aP := (yX7_copyFrom, cX7_copyFrom, 2, none, { frames := 9, cells := 0, slots := 0, locals := 131 }, [])
abbrev pX7_has : aP := (yX7_has, cX7_has, 2, (some .boolean), { frames := 8, cells := 0, slots := 0, locals := 110 }, [])
abbrev pX7_settle : aP := (yX7_settle, cX7_settle, 2, (some .int), { frames := 8, cells := 0, slots := 0, locals := 110 }, [])
abbrev pX7_addDoubt : aP := (yX7_addDoubt, cX7_addDoubt, 5, (some .int), { frames := 8, cells := 0, slots := 0, locals := 110 }, [])
abbrev pX7_allDoubts : aP := (yX7_allDoubts, cX7_allDoubts, 3, (some .int), { frames := 8, cells := 0, slots := 0, locals := 110 }, [])
abbrev pX7_holderOf : aP := (yX7_holderOf, cX7_holderOf, 4, (some .int), { frames := 9, cells := 0, slots := 0, locals := 131 }, [])
abbrev pX7_mayBuy : aP := (yX7_mayBuy, cX7_mayBuy, 3, (some .boolean), { frames := 10, cells := 0, slots := 0, locals := 154 }, [])
abbrev pX7_stepsBetween : aP := (yX7_stepsBetween, cX7_stepsBetween, 5, (some .int), { frames := 9, cells := 0, slots := 0, locals := 133 }, [])
abbrev pX7_trustedBy : aP := (yX7_trustedBy, cX7_trustedBy, 4, (some .int), { frames := 8, cells := 0, slots := 0, locals := 110 }, [])
abbrev pX7_cellarsOf : aP := (yX7_cellarsOf, cX7_cellarsOf, 4, (some .int), { frames := 9, cells := 0, slots := 0, locals := 131 }, [])
abbrev pX7_wantsOf : aP := (yX7_wantsOf, cX7_wantsOf, 5, (some .int), { frames := 9, cells := 0, slots := 0, locals := 131 }, [])
abbrev pX7_wantsThatCount : aP := (yX7_wantsThatCount, cX7_wantsThatCount, 4, (some .int), { frames := 8, cells := 0, slots := 0, locals := 110 }, [])
abbrev pX8_init : aP := (yX8_init, cX8_init, 1, none, { frames := 8, cells := 5, slots := 26, locals := 110 }, [])
abbrev pX8_clear : aP := (yX8_clear, cX8_clear, 1, none, { frames := 9, cells := 0, slots := 0, locals := 133 }, [])
abbrev pX8_copyFrom : aP := (yX8_copyFrom, cX8_copyFrom, 2, none, { frames := 8, cells := 0, slots := 0, locals := 110 }, [])
abbrev pX8_hasStep : aP := (yX8_hasStep, cX8_hasStep, 3, (some .boolean), { frames := 8, cells := 0, slots := 0, locals := 110 }, [])
abbrev pX8_addStep : aP := (yX8_addStep, cX8_addStep, 3, none, { frames := 8, cells := 0, slots := 0, locals := 110 }, [])
abbrev pX8_addCart : aP := (yX8_addCart, cX8_addCart, 3, none, { frames := 8, cells := 0, slots := 0, locals := 110 }, [])
abbrev pX8_eachOf : aP := (yX8_eachOf, cX8_eachOf, 5, (some .int), { frames := 8, cells := 0, slots := 0, locals := 110 }, [])
abbrev pX8_cartsOf : aP := (yX8_cartsOf, cX8_cartsOf, 6, (some .int), { frames := 9, cells := 0, slots := 0, locals := 131 }, [])
abbrev pX9_init : aP := (yX9_init, cX9_init, 1, none, { frames := 9, cells := 4, slots := 175, locals := 133 }, [])
abbrev pX9_lay : aP := (yX9_lay, cX9_lay, 5, none, { frames := 8, cells := 0, slots := 0, locals := 110 }, [])
abbrev pX9_at : aP := (yX9_at, cX9_at, 3, (some .long), { frames := 8, cells := 0, slots := 0, locals := 110 }, [])
abbrev pX9_put : aP := (yX9_put, cX9_put, 7, (some .long), { frames := 8, cells := 0, slots := 0, locals := 110 }, [])
abbrev pX9_proves : aP := (yX9_proves, cX9_proves, 14, (some .boolean), { frames := 10, cells := 0, slots := 0, locals := 155 }, [])
abbrev pX9_cover : aP := (yX9_cover, cX9_cover, 5, none, { frames := 9, cells := 0, slots := 0, locals := 131 }, [])
abbrev pX9_isCovered : aP := (yX9_isCovered, cX9_isCovered, 4, (some .boolean), { frames := 9, cells := 0, slots := 0, locals := 131 }, [])
abbrev pX11_init : aP := (yX11_init, cX11_init, 1, none, { frames := 11, cells := 108, slots := 5380, locals := 177 }, [])
abbrev pX11_house : aP := (yX11_house, cX11_house, 3, (some .int), { frames := 11, cells := 1, slots := 6, locals := 174 }, [])
abbrev pX11_want : aP := (yX11_want, cX11_want, 6, (some .int), { frames := 11, cells := 3, slots := 18, locals := 174 }, [])
abbrev pX11_cellar : aP := (yX11_cellar, cX11_cellar, 4, (some .int), { frames := 11, cells := 2, slots := 12, locals := 174 }, [])
abbrev pX11_bar : aP := (yX11_bar, cX11_bar, 4, (some .boolean), { frames := 11, cells := 3, slots := 18, locals := 174 }, [])
abbrev pX11_trust : aP := (yX11_trust, cX11_trust, 5, (some .boolean), { frames := 11, cells := 3, slots := 18, locals := 174 }, [])
abbrev pX11_holder : aP := (yX11_holder, cX11_holder, 2, (some .int), { frames := 10, cells := 1, slots := 6, locals := 154 }, [])
abbrev pX11_chain : aP := (yX11_chain, cX11_chain, 3, (some .int), { frames := 10, cells := 2, slots := 12, locals := 157 }, [])
abbrev pX11_feed : aP := (yX11_feed, cX11_feed, 6, (some .int), { frames := 9, cells := 0, slots := 0, locals := 132 }, [])
abbrev pX11_text : aP := (yX11_text, cX11_text, 2, (some .int), { frames := 18, cells := 1, slots := 6, locals := 323 }, [])
abbrev pX11_fault : aP := (yX11_fault, cX11_fault, 2, (some .int), { frames := 8, cells := 0, slots := 0, locals := 110 }, [])
abbrev pX11_price : aP := (yX11_price, cX11_price, 2, (some .int), { frames := 11, cells := 1, slots := 6, locals := 178 }, [])
abbrev pX11_buys : aP := (yX11_buys, cX11_buys, 3, (some .int), { frames := 12, cells := 2, slots := 12, locals := 201 }, [])
abbrev pX11_cost : aP := (yX11_cost, cX11_cost, 2, (some .int), { frames := 12, cells := 1, slots := 6, locals := 210 }, [])
abbrev pX11_bought : aP := (yX11_bought, cX11_bought, 3, (some .int), { frames := 12, cells := 2, slots := 12, locals := 216 }, [])
abbrev pX11_least : aP := (yX11_least, cX11_least, 2, (some .int), { frames := 13, cells := 1, slots := 6, locals := 232 }, [])
abbrev pX11_group : aP := (yX11_group, cX11_group, 3, (some .int), { frames := 13, cells := 1, slots := 6, locals := 232 }, [])
abbrev pX11_come : aP := (yX11_come, cX11_come, 3, (some .int), { frames := 13, cells := 3, slots := 18, locals := 239 }, [])
abbrev pX11_join : aP := (yX11_join, cX11_join, 5, (some .int), { frames := 13, cells := 4, slots := 24, locals := 232 }, [])
abbrev pX11_upper : aP := (yX11_upper, cX11_upper, 1, (some .long), { frames := 8, cells := 0, slots := 0, locals := 110 }, [])
abbrev pX11_lower : aP := (yX11_lower, cX11_lower, 1, (some .long), { frames := 8, cells := 0, slots := 0, locals := 110 }, [])
abbrev pX11_pay : aP := (yX11_pay, cX11_pay, 4, (some .int), { frames := 10, cells := 2, slots := 12, locals := 152 }, [])
abbrev pX11_by : aP := (yX11_by, cX11_by, 3, (some .int), { frames := 9, cells := 1, slots := 6, locals := 133 }, [])
abbrev pX11_judge : aP := (yX11_judge, cX11_judge, 2, (some .int), { frames := 14, cells := 2, slots := 12, locals := 253 }, [])
abbrev pX11_can : aP := (yX11_can, cX11_can, 3, (some .boolean), { frames := 14, cells := 3, slots := 18, locals := 253 }, [])
abbrev pX11_share : aP := (yX11_share, cX11_share, 5, none, { frames := 15, cells := 5, slots := 30, locals := 274 }, [])
abbrev pX11_row : aP := (yX11_row, cX11_row, 5, none, { frames := 15, cells := 5, slots := 30, locals := 274 }, [])
abbrev pX11_proof : aP := (yX11_proof, cX11_proof, 4, (some .boolean), { frames := 14, cells := 5, slots := 30, locals := 253 }, [])
abbrev pX11_ruled : aP := (yX11_ruled, cX11_ruled, 3, none, { frames := 15, cells := 4, slots := 24, locals := 274 }, [])
abbrev pX11_keeps : aP := (yX11_keeps, cX11_keeps, 2, (some .int), { frames := 15, cells := 3, slots := 18, locals := 274 }, [])
abbrev pX11_doubt : aP := (yX11_doubt, cX11_doubt, 4, (some .int), { frames := 10, cells := 3, slots := 18, locals := 154 }, [])
abbrev pX11_risk : aP := (yX11_risk, cX11_risk, 4, (some .boolean), { frames := 12, cells := 2, slots := 12, locals := 201 }, [])
abbrev pX11_before : aP := (yX11_before, cX11_before, 10, (some .int), { frames := 12, cells := 1, slots := 6, locals := 201 }, [])
abbrev pX11_seller : aP := (yX11_seller, cX11_seller, 5, (some .int), { frames := 15, cells := 5, slots := 30, locals := 278 }, [])
abbrev pX11_tray : aP := (yX11_tray, cX11_tray, 4, none, { frames := 9, cells := 3, slots := 18, locals := 134 }, [])
abbrev pX11_write : aP := (yX11_write, cX11_write, 5, (some .long), { frames := 9, cells := 3, slots := 18, locals := 136 }, [])
abbrev pX11_take : aP := (yX11_take, cX11_take, 7, (some .int), { frames := 11, cells := 5, slots := 30, locals := 174 }, [])
abbrev pX11_image : aP := (yX11_image, cX11_image, 2, none, { frames := 10, cells := 16, slots := 189, locals := 152 }, [])
abbrev pX11_restore : aP := (yX11_restore, cX11_restore, 2, none, { frames := 11, cells := 2, slots := 12, locals := 173 }, [])
abbrev pX11_count : aP := (yX11_count, cX11_count, 3, (some .int), { frames := 9, cells := 0, slots := 0, locals := 132 }, [])
abbrev pX11_needHouse : aP := (yX11_needHouse, cX11_needHouse, 2, none, { frames := 9, cells := 1, slots := 6, locals := 131 }, [])
abbrev pX11_needTwo : aP := (yX11_needTwo, cX11_needTwo, 3, none, { frames := 10, cells := 3, slots := 18, locals := 152 }, [])
abbrev pX11_needMonth : aP := (yX11_needMonth, cX11_needMonth, 3, none, { frames := 8, cells := 1, slots := 6, locals := 110 }, [])
abbrev pX11_needTray : aP := (yX11_needTray, cX11_needTray, 2, none, { frames := 8, cells := 1, slots := 6, locals := 110 }, [])
abbrev pX11_needLaid : aP := (yX11_needLaid, cX11_needLaid, 2, none, { frames := 8, cells := 1, slots := 6, locals := 110 }, [])
abbrev pX11_needImage : aP := (yX11_needImage, cX11_needImage, 2, none, { frames := 8, cells := 1, slots := 6, locals := 110 }, [])
abbrev pX11_needWithin : aP := (yX11_needWithin, cX11_needWithin, 4, none, { frames := 8, cells := 1, slots := 6, locals := 110 }, [])
abbrev pX11_needSacks : aP := (yX11_needSacks, cX11_needSacks, 2, none, { frames := 9, cells := 1, slots := 6, locals := 133 }, [])
abbrev pX11_needSet : aP := (yX11_needSet, cX11_needSet, 2, none, { frames := 9, cells := 1, slots := 6, locals := 133 }, [])
abbrev pX11_needFew : aP := (yX11_needFew, cX11_needFew, 2, none, { frames := 10, cells := 2, slots := 12, locals := 154 }, [])
abbrev pX11_needMember : aP := (yX11_needMember, cX11_needMember, 3, none, { frames := 9, cells := 1, slots := 6, locals := 131 }, [])
abbrev pX11_needTotal : aP := (yX11_needTotal, cX11_needTotal, 2, none, { frames := 13, cells := 1, slots := 6, locals := 232 }, [])
abbrev pX11_needParting : aP := (yX11_needParting, cX11_needParting, 2, none, { frames := 14, cells := 2, slots := 12, locals := 253 }, [])
abbrev pX11_needRule : aP := (yX11_needRule, cX11_needRule, 2, none, { frames := 14, cells := 2, slots := 12, locals := 253 }, [])
abbrev pX11_isOf : aP := (yX11_isOf, cX11_isOf, 2, (some .boolean), { frames := 8, cells := 0, slots := 0, locals := 110 }, [])
abbrev pX11_orNone : aP := (yX11_orNone, cX11_orNone, 1, (some .int), { frames := 8, cells := 0, slots := 0, locals := 110 }, [])
abbrev pX11_costOfBuys : aP := (yX11_costOfBuys, cX11_costOfBuys, 4, (some .int), { frames := 11, cells := 0, slots := 0, locals := 178 }, [])
abbrev pX11_forgetHouse : aP := (yX11_forgetHouse, cX11_forgetHouse, 2, none, { frames := 10, cells := 0, slots := 0, locals := 153 }, [])
abbrev pX11_forgetAll : aP := (yX11_forgetAll, cX11_forgetAll, 1, none, { frames := 10, cells := 0, slots := 0, locals := 153 }, [])
abbrev pX11_tell : aP := (yX11_tell, cX11_tell, 7, none, { frames := 9, cells := 0, slots := 0, locals := 140 }, [])
abbrev pX11_greatestDivisor : aP := (yX11_greatestDivisor, cX11_greatestDivisor, 11, (some .long), { frames := 8, cells := 0, slots := 0, locals := 110 }, [])
abbrev pX12_init : aP := (yX12_init, cX12_init, 1, none, { frames := 8, cells := 29, slots := 3499, locals := 110 }, [])
abbrev pX12_thrown : aP := (yX12_thrown, cX12_thrown, 1, (some .int), { frames := 8, cells := 0, slots := 0, locals := 110 }, [])
abbrev pX12_fails : aP := (yX12_fails, cX12_fails, 2, (some .int), { frames := 8, cells := 0, slots := 0, locals := 110 }, [])
abbrev pX12_fell : aP := (yX12_fell, cX12_fell, 2, (some .boolean), { frames := 8, cells := 0, slots := 0, locals := 110 }, [])
abbrev pX12_within : aP := (yX12_within, cX12_within, 6, (some .boolean), { frames := 8, cells := 0, slots := 0, locals := 110 }, [])
abbrev pX12_isHouse : aP := (yX12_isHouse, cX12_isHouse, 2, (some .boolean), { frames := 9, cells := 0, slots := 0, locals := 135 }, [])
abbrev pX12_isSet : aP := (yX12_isSet, cX12_isSet, 2, (some .boolean), { frames := 8, cells := 0, slots := 0, locals := 110 }, [])
abbrev pX12_has : aP := (yX12_has, cX12_has, 2, (some .boolean), { frames := 8, cells := 0, slots := 0, locals := 110 }, [])
abbrev pX12_sizeOf : aP := (yX12_sizeOf, cX12_sizeOf, 3, (some .int), { frames := 8, cells := 0, slots := 0, locals := 110 }, [])
abbrev pX12_stale : aP := (yX12_stale, cX12_stale, 2, none, { frames := 8, cells := 0, slots := 0, locals := 110 }, [])
abbrev pX12_house : aP := (yX12_house, cX12_house, 2, (some .int), { frames := 9, cells := 0, slots := 0, locals := 135 }, [])
abbrev pX12_becomes : aP := (yX12_becomes, cX12_becomes, 4, (some .int), { frames := 9, cells := 0, slots := 0, locals := 131 }, [])
abbrev pX12_want : aP := (yX12_want, cX12_want, 4, (some .int), { frames := 10, cells := 0, slots := 0, locals := 156 }, [])
abbrev pX12_cellar : aP := (yX12_cellar, cX12_cellar, 3, (some .int), { frames := 10, cells := 0, slots := 0, locals := 156 }, [])
abbrev pX12_bar : aP := (yX12_bar, cX12_bar, 4, (some .boolean), { frames := 10, cells := 0, slots := 0, locals := 156 }, [])
abbrev pX12_trust : aP := (yX12_trust, cX12_trust, 4, (some .boolean), { frames := 10, cells := 0, slots := 0, locals := 156 }, [])
abbrev pX12_trusts : aP := (yX12_trusts, cX12_trusts, 3, (some .boolean), { frames := 8, cells := 0, slots := 0, locals := 110 }, [])
abbrev pX12_holderOf : aP := (yX12_holderOf, cX12_holderOf, 5, (some .int), { frames := 9, cells := 0, slots := 0, locals := 132 }, [])
abbrev pX12_holder : aP := (yX12_holder, cX12_holder, 2, (some .int), { frames := 10, cells := 0, slots := 0, locals := 156 }, [])
abbrev pX12_chain : aP := (yX12_chain, cX12_chain, 8, (some .int), { frames := 10, cells := 0, slots := 0, locals := 156 }, [])
abbrev pX12_feed : aP := (yX12_feed, cX12_feed, 8, (some .int), { frames := 8, cells := 0, slots := 0, locals := 110 }, [])
abbrev pX12_see : aP := (yX12_see, cX12_see, 2, (some .int), { frames := 8, cells := 0, slots := 0, locals := 110 }, [])
abbrev pX12_isLetter : aP := (yX12_isLetter, cX12_isLetter, 1, (some .boolean), { frames := 8, cells := 0, slots := 0, locals := 110 }, [])
abbrev pX12_isDigit : aP := (yX12_isDigit, cX12_isDigit, 1, (some .boolean), { frames := 8, cells := 0, slots := 0, locals := 110 }, [])
abbrev pX12_next : aP := (yX12_next, cX12_next, 2, none, { frames := 9, cells := 0, slots := 0, locals := 131 }, [])
abbrev pX12_wrong : aP := (yX12_wrong, cX12_wrong, 2, none, { frames := 8, cells := 0, slots := 0, locals := 110 }, [])
abbrev pX12_isWord : aP := (yX12_isWord, cX12_isWord, 4, (some .boolean), { frames := 13, cells := 0, slots := 0, locals := 216 }, [])
abbrev pX12_number : aP := (yX12_number, cX12_number, 4, (some .int), { frames := 10, cells := 0, slots := 0, locals := 152 }, [])
abbrev pX12_isStep : aP := (yX12_isStep, cX12_isStep, 3, (some .boolean), { frames := 8, cells := 0, slots := 0, locals := 110 }, [])
abbrev pX12_readStep : aP := (yX12_readStep, cX12_readStep, 4, none, { frames := 11, cells := 0, slots := 0, locals := 175 }, [])
abbrev pX12_readCart : aP := (yX12_readCart, cX12_readCart, 4, none, { frames := 11, cells := 0, slots := 0, locals := 175 }, [])
abbrev pX12_readOne : aP := (yX12_readOne, cX12_readOne, 5, none, { frames := 11, cells := 0, slots := 0, locals := 175 }, [])
abbrev pX12_readRise : aP := (yX12_readRise, cX12_readRise, 3, none, { frames := 11, cells := 0, slots := 0, locals := 175 }, [])
abbrev pX12_readRule : aP := (yX12_readRule, cX12_readRule, 2, none, { frames := 14, cells := 0, slots := 0, locals := 239 }, [])
abbrev pX12_readLine : aP := (yX12_readLine, cX12_readLine, 1, none, { frames := 15, cells := 0, slots := 0, locals := 260 }, [])
abbrev pX12_text : aP := (yX12_text, cX12_text, 4, (some .int), { frames := 16, cells := 0, slots := 0, locals := 280 }, [])
abbrev pX12_fault : aP := (yX12_fault, cX12_fault, 2, (some .int), { frames := 8, cells := 0, slots := 0, locals := 110 }, [])
abbrev pX12_priceAt : aP := (yX12_priceAt, cX12_priceAt, 7, (some .int), { frames := 8, cells := 0, slots := 0, locals := 110 }, [])
abbrev pX12_layPrices : aP := (yX12_layPrices, cX12_layPrices, 7, none, { frames := 9, cells := 0, slots := 0, locals := 136 }, [])
abbrev pX12_price : aP := (yX12_price, cX12_price, 2, (some .int), { frames := 10, cells := 0, slots := 0, locals := 162 }, [])
abbrev pX12_buysOf : aP := (yX12_buysOf, cX12_buysOf, 3, (some .int), { frames := 10, cells := 0, slots := 0, locals := 162 }, [])
abbrev pX12_buys : aP := (yX12_buys, cX12_buys, 3, (some .int), { frames := 11, cells := 0, slots := 0, locals := 184 }, [])
abbrev pX12_sums : aP := (yX12_sums, cX12_sums, 4, none, { frames := 9, cells := 0, slots := 0, locals := 131 }, [])
abbrev pX12_plan : aP := (yX12_plan, cX12_plan, 6, (some .int), { frames := 13, cells := 0, slots := 0, locals := 233 }, [])
abbrev pX12_costBy : aP := (yX12_costBy, cX12_costBy, 5, (some .int), { frames := 11, cells := 0, slots := 0, locals := 184 }, [])
abbrev pX12_sacksBy : aP := (yX12_sacksBy, cX12_sacksBy, 4, (some .int), { frames := 8, cells := 0, slots := 0, locals := 110 }, [])
abbrev pX12_tries : aP := (yX12_tries, cX12_tries, 6, none, { frames := 12, cells := 0, slots := 0, locals := 208 }, [])
abbrev pX12_layPlan : aP := (yX12_layPlan, cX12_layPlan, 6, none, { frames := 14, cells := 0, slots := 0, locals := 258 }, [])
abbrev pX12_isBarred : aP := (yX12_isBarred, cX12_isBarred, 4, (some .boolean), { frames := 9, cells := 0, slots := 0, locals := 131 }, [])
abbrev pX12_costOf : aP := (yX12_costOf, cX12_costOf, 3, (some .int), { frames := 14, cells := 0, slots := 0, locals := 258 }, [])
abbrev pX12_cost : aP := (yX12_cost, cX12_cost, 2, (some .int), { frames := 15, cells := 0, slots := 0, locals := 280 }, [])
abbrev pX12_sacksOf : aP := (yX12_sacksOf, cX12_sacksOf, 4, (some .int), { frames := 15, cells := 0, slots := 0, locals := 283 }, [])
abbrev pX12_bought : aP := (yX12_bought, cX12_bought, 4, (some .int), { frames := 16, cells := 0, slots := 0, locals := 306 }, [])
abbrev pX12_totalOf : aP := (yX12_totalOf, cX12_totalOf, 2, (some .int), { frames := 25, cells := 0, slots := 0, locals := 529 }, [])
abbrev pX12_parted : aP := (yX12_parted, cX12_parted, 6, none, { frames := 24, cells := 0, slots := 0, locals := 504 }, [])
abbrev pX12_weigh : aP := (yX12_weigh, cX12_weigh, 5, none, { frames := 15, cells := 0, slots := 0, locals := 280 }, [])
abbrev pX12_groupAt : aP := (yX12_groupAt, cX12_groupAt, 5, (some .int), { frames := 9, cells := 0, slots := 0, locals := 131 }, [])
abbrev pX12_least : aP := (yX12_least, cX12_least, 2, (some .int), { frames := 26, cells := 0, slots := 0, locals := 550 }, [])
abbrev pX12_group : aP := (yX12_group, cX12_group, 3, (some .int), { frames := 26, cells := 0, slots := 0, locals := 550 }, [])
abbrev pX12_come : aP := (yX12_come, cX12_come, 8, (some .int), { frames := 26, cells := 0, slots := 0, locals := 550 }, [])
abbrev pX12_join : aP := (yX12_join, cX12_join, 7, (some .int), { frames := 26, cells := 0, slots := 0, locals := 550 }, [])
abbrev pX12_upper : aP := (yX12_upper, cX12_upper, 1, (some .long), { frames := 8, cells := 0, slots := 0, locals := 110 }, [])
abbrev pX12_lower : aP := (yX12_lower, cX12_lower, 1, (some .long), { frames := 8, cells := 0, slots := 0, locals := 110 }, [])
abbrev pX12_fraction : aP := (yX12_fraction, cX12_fraction, 11, none, { frames := 8, cells := 0, slots := 0, locals := 110 }, [])
abbrev pX12_pay : aP := (yX12_pay, cX12_pay, 4, (some .int), { frames := 10, cells := 0, slots := 0, locals := 156 }, [])
abbrev pX12_by : aP := (yX12_by, cX12_by, 3, (some .int), { frames := 9, cells := 0, slots := 0, locals := 135 }, [])
abbrev pX12_paid : aP := (yX12_paid, cX12_paid, 5, (some .long), { frames := 9, cells := 0, slots := 0, locals := 131 }, [])
abbrev pX12_leaves : aP := (yX12_leaves, cX12_leaves, 6, (some .int), { frames := 15, cells := 0, slots := 0, locals := 280 }, [])
abbrev pX12_judge : aP := (yX12_judge, cX12_judge, 4, (some .int), { frames := 26, cells := 0, slots := 0, locals := 550 }, [])
abbrev pX12_isFew : aP := (yX12_isFew, cX12_isFew, 2, (some .boolean), { frames := 9, cells := 0, slots := 0, locals := 135 }, [])
abbrev pX12_table : aP := (yX12_table, cX12_table, 4, none, { frames := 15, cells := 0, slots := 0, locals := 280 }, [])
abbrev pX12_aim : aP := (yX12_aim, cX12_aim, 5, none, { frames := 8, cells := 0, slots := 0, locals := 110 }, [])
abbrev pX12_comesIn : aP := (yX12_comesIn, cX12_comesIn, 4, (some .int), { frames := 8, cells := 0, slots := 0, locals := 110 }, [])
abbrev pX12_goesOut : aP := (yX12_goesOut, cX12_goesOut, 10, (some .int), { frames := 8, cells := 0, slots := 0, locals := 110 }, [])
abbrev pX12_turns : aP := (yX12_turns, cX12_turns, 9, none, { frames := 8, cells := 0, slots := 0, locals := 110 }, [])
abbrev pX12_solve : aP := (yX12_solve, cX12_solve, 4, (some .long), { frames := 9, cells := 0, slots := 0, locals := 139 }, [])
abbrev pX12_can : aP := (yX12_can, cX12_can, 5, (some .boolean), { frames := 26, cells := 0, slots := 0, locals := 550 }, [])
abbrev pX12_holdsSome : aP := (yX12_holdsSome, cX12_holdsSome, 3, (some .boolean), { frames := 26, cells := 0, slots := 0, locals := 550 }, [])
abbrev pX12_columnOf : aP := (yX12_columnOf, cX12_columnOf, 3, (some .int), { frames := 8, cells := 0, slots := 0, locals := 110 }, [])
abbrev pX12_isOf : aP := (yX12_isOf, cX12_isOf, 3, (some .boolean), { frames := 9, cells := 0, slots := 0, locals := 135 }, [])
abbrev pX12_share : aP := (yX12_share, cX12_share, 6, none, { frames := 27, cells := 0, slots := 0, locals := 572 }, [])
abbrev pX12_row : aP := (yX12_row, cX12_row, 4, none, { frames := 27, cells := 0, slots := 0, locals := 572 }, [])
abbrev pX12_proof : aP := (yX12_proof, cX12_proof, 9, (some .boolean), { frames := 26, cells := 0, slots := 0, locals := 550 }, [])
abbrev pX12_weights : aP := (yX12_weights, cX12_weights, 5, (some .long), { frames := 15, cells := 0, slots := 0, locals := 280 }, [])
abbrev pX12_ruled : aP := (yX12_ruled, cX12_ruled, 6, none, { frames := 26, cells := 0, slots := 0, locals := 550 }, [])
abbrev pX12_keeps : aP := (yX12_keeps, cX12_keeps, 6, (some .int), { frames := 26, cells := 0, slots := 0, locals := 550 }, [])
abbrev pX12_doubt : aP := (yX12_doubt, cX12_doubt, 5, (some .int), { frames := 10, cells := 0, slots := 0, locals := 156 }, [])
abbrev pX12_layLikely : aP := (yX12_layLikely, cX12_layLikely, 7, none, { frames := 9, cells := 0, slots := 0, locals := 134 }, [])
abbrev pX12_adds : aP := (yX12_adds, cX12_adds, 5, none, { frames := 8, cells := 0, slots := 0, locals := 110 }, [])
abbrev pX12_riskOf : aP := (yX12_riskOf, cX12_riskOf, 5, (some .long), { frames := 11, cells := 0, slots := 0, locals := 184 }, [])
abbrev pX12_risk : aP := (yX12_risk, cX12_risk, 3, (some .boolean), { frames := 12, cells := 0, slots := 0, locals := 208 }, [])
abbrev pX12_before : aP := (yX12_before, cX12_before, 4, (some .int), { frames := 12, cells := 0, slots := 0, locals := 208 }, [])
abbrev pX12_gain : aP := (yX12_gain, cX12_gain, 9, (some .int), { frames := 26, cells := 0, slots := 0, locals := 550 }, [])
abbrev pX12_seller : aP := (yX12_seller, cX12_seller, 11, (some .int), { frames := 27, cells := 0, slots := 0, locals := 578 }, [])
abbrev pX12_isTray : aP := (yX12_isTray, cX12_isTray, 1, (some .boolean), { frames := 9, cells := 0, slots := 0, locals := 135 }, [])
abbrev pX12_tray : aP := (yX12_tray, cX12_tray, 5, none, { frames := 10, cells := 0, slots := 0, locals := 155 }, [])
abbrev pX12_write : aP := (yX12_write, cX12_write, 6, (some .long), { frames := 10, cells := 0, slots := 0, locals := 155 }, [])
abbrev pX12_take : aP := (yX12_take, cX12_take, 4, (some .int), { frames := 10, cells := 0, slots := 0, locals := 156 }, [])
abbrev pX12_image : aP := (yX12_image, cX12_image, 3, none, { frames := 9, cells := 0, slots := 0, locals := 135 }, [])
abbrev pX12_restore : aP := (yX12_restore, cX12_restore, 3, none, { frames := 9, cells := 0, slots := 0, locals := 135 }, [])
abbrev pX12_count : aP := (yX12_count, cX12_count, 4, (some .int), { frames := 8, cells := 0, slots := 0, locals := 110 }, [])
abbrev pJ6_numberOfTrailingZeros_0f7a4 : aP := (yJ6_numberOfTrailingZeros_0f7a4, cJ6_numberOfTrailingZeros_0f7a4, 2, (some .int), { frames := 8, cells := 0, slots := 0, locals := 110 }, [])
abbrev pJ6_bitCount_0f7a4 : aP := (yJ6_bitCount_0f7a4, cJ6_bitCount_0f7a4, 1, (some .int), { frames := 8, cells := 0, slots := 0, locals := 110 }, [])
abbrev pJ0_length_8abf5 : aP := (yJ0_length_8abf5, cJ0_length_8abf5, 1, (some .int), { frames := 9, cells := 0, slots := 0, locals := 130 }, [])
abbrev pJ0_charAt_5068e : aP := (yJ0_charAt_5068e, cJ0_charAt_5068e, 2, (some .char), { frames := 12, cells := 0, slots := 0, locals := 195 }, [])
abbrev pJ7_fill_d0a16 : aP := (yJ7_fill_d0a16, cJ7_fill_d0a16, 5, none, { frames := 8, cells := 0, slots := 0, locals := 110 }, [])
abbrev pJ7_fill_53178 : aP := (yJ7_fill_53178, cJ7_fill_53178, 4, none, { frames := 8, cells := 0, slots := 0, locals := 110 }, [])
theorem cbX0_init : a_cb pX0_init 1 := ⟨(lw_ok_in (List.mem_of_getElem? (i := 475) (by decide +kernel)) rfl), (lw_ok_in (List.mem_of_getElem? (i := 120) (by decide +kernel)) rfl), by decide +kernel⟩
theorem cbX0_spread : a_cb pX0_spread 1 := ⟨(lw_ok_in (List.mem_of_getElem? (i := 1406) (by decide +kernel)) rfl), (lw_ok_in (List.mem_of_getElem? (i := 120) (by decide +kernel)) rfl), by decide +kernel⟩
theorem cbX0_spreadBy : a_cb pX0_spreadBy 1 := ⟨(lw_ok_in (List.mem_of_getElem? (i := 1412) (by decide +kernel)) rfl), (lw_ok_in (List.mem_of_getElem? (i := 120) (by decide +kernel)) rfl), by decide +kernel⟩
theorem cbX0_add : a_cb pX0_add 2 := ⟨(lw_ok_in (List.mem_of_getElem? (i := 1417) (by decide +kernel)) rfl), (lw_ok_in (List.mem_of_getElem? (i := 120) (by decide +kernel)) rfl), by decide +kernel⟩
theorem cbX0_riskOf : a_cb pX0_riskOf 2 := ⟨(lw_ok_in (List.mem_of_getElem? (i := 1421) (by decide +kernel)) rfl), (lw_ok_in (List.mem_of_getElem? (i := 120) (by decide +kernel)) rfl), by decide +kernel⟩
theorem cbX1_init : a_cb pX1_init 1 := ⟨(lw_ok_in (List.mem_of_getElem? (i := 388) (by decide +kernel)) rfl), (lw_ok_in (List.mem_of_getElem? (i := 117) (by decide +kernel)) rfl), by decide +kernel⟩
theorem cbX1_shiftOf : a_cb pX1_shiftOf 1 := ⟨(lw_ok_in (List.mem_of_getElem? (i := 396) (by decide +kernel)) rfl), (lw_ok_in (List.mem_of_getElem? (i := 117) (by decide +kernel)) rfl), by decide +kernel⟩
theorem cbX1_reckon : a_cb pX1_reckon 1 := ⟨(lw_ok_in (List.mem_of_getElem? (i := 1119) (by decide +kernel)) rfl), (lw_ok_in (List.mem_of_getElem? (i := 117) (by decide +kernel)) rfl), by decide +kernel⟩
theorem cbX1_part : a_cb pX1_part 1 := ⟨(lw_ok_in (List.mem_of_getElem? (i := 1124) (by decide +kernel)) rfl), (lw_ok_in (List.mem_of_getElem? (i := 117) (by decide +kernel)) rfl), by decide +kernel⟩
theorem cbX1_keepIfAhead : a_cb pX1_keepIfAhead 2 := ⟨(lw_ok_in (List.mem_of_getElem? (i := 1129) (by decide +kernel)) rfl), (lw_ok_in (List.mem_of_getElem? (i := 117) (by decide +kernel)) rfl), by decide +kernel⟩
theorem cbX1_howMany : a_cb pX1_howMany 1 := ⟨(lw_ok_in (List.mem_of_getElem? (i := 1140) (by decide +kernel)) rfl), (lw_ok_in (List.mem_of_getElem? (i := 117) (by decide +kernel)) rfl), by decide +kernel⟩
theorem cbX1_numberOf : a_cb pX1_numberOf 2 := ⟨(lw_ok_in (List.mem_of_getElem? (i := 1144) (by decide +kernel)) rfl), (lw_ok_in (List.mem_of_getElem? (i := 117) (by decide +kernel)) rfl), by decide +kernel⟩
theorem cbX1_sacksOf : a_cb pX1_sacksOf 1 := ⟨(lw_ok_in (List.mem_of_getElem? (i := 1453) (by decide +kernel)) rfl), (lw_ok_in (List.mem_of_getElem? (i := 117) (by decide +kernel)) rfl), by decide +kernel⟩
theorem cbX1_placeFor : a_cb pX1_placeFor 2 := ⟨(lw_ok_in (List.mem_of_getElem? (i := 1156) (by decide +kernel)) rfl), (lw_ok_in (List.mem_of_getElem? (i := 117) (by decide +kernel)) rfl), by decide +kernel⟩
theorem cbX1_judged : a_cb pX1_judged 1 := ⟨(lw_ok_in (List.mem_of_getElem? (i := 1210) (by decide +kernel)) rfl), (lw_ok_in (List.mem_of_getElem? (i := 117) (by decide +kernel)) rfl), by decide +kernel⟩
theorem cbX1_paidBy : a_cb pX1_paidBy 1 := ⟨(lw_ok_in (List.mem_of_getElem? (i := 1214) (by decide +kernel)) rfl), (lw_ok_in (List.mem_of_getElem? (i := 117) (by decide +kernel)) rfl), by decide +kernel⟩
theorem cbX2_init : a_cb pX2_init 2 := ⟨(lw_ok_in (List.mem_of_getElem? (i := 426) (by decide +kernel)) rfl), (lw_ok_in (List.mem_of_getElem? (i := 119) (by decide +kernel)) rfl), by decide +kernel⟩
theorem cbX2_fill : a_cb pX2_fill 1 := ⟨(lw_ok_in (List.mem_of_getElem? (i := 1230) (by decide +kernel)) rfl), (lw_ok_in (List.mem_of_getElem? (i := 119) (by decide +kernel)) rfl), by decide +kernel⟩
theorem cbX2_missing : a_cb pX2_missing 0 := ⟨(lw_ok_in (List.mem_of_getElem? (i := 1268) (by decide +kernel)) rfl), (lw_ok_in (List.mem_of_getElem? (i := 119) (by decide +kernel)) rfl), by decide +kernel⟩
theorem cbX2_begin : a_cb pX2_begin 1 := ⟨(lw_ok_in (List.mem_of_getElem? (i := 1234) (by decide +kernel)) rfl), (lw_ok_in (List.mem_of_getElem? (i := 119) (by decide +kernel)) rfl), by decide +kernel⟩
theorem cbX2_addRow : a_cb pX2_addRow 1 := ⟨(lw_ok_in (List.mem_of_getElem? (i := 1239) (by decide +kernel)) rfl), (lw_ok_in (List.mem_of_getElem? (i := 119) (by decide +kernel)) rfl), by decide +kernel⟩
theorem cbX2_placeOf : a_cb pX2_placeOf 1 := ⟨(lw_ok_in (List.mem_of_getElem? (i := 1295) (by decide +kernel)) rfl), (lw_ok_in (List.mem_of_getElem? (i := 119) (by decide +kernel)) rfl), by decide +kernel⟩
theorem cbX2_valueOf : a_cb pX2_valueOf 1 := ⟨(lw_ok_in (List.mem_of_getElem? (i := 1307) (by decide +kernel)) rfl), (lw_ok_in (List.mem_of_getElem? (i := 119) (by decide +kernel)) rfl), by decide +kernel⟩
theorem cbX2_rowOf : a_cb pX2_rowOf 1 := ⟨(lw_ok_in (List.mem_of_getElem? (i := 1303) (by decide +kernel)) rfl), (lw_ok_in (List.mem_of_getElem? (i := 119) (by decide +kernel)) rfl), by decide +kernel⟩
theorem cbX2_push : a_cb pX2_push 2 := ⟨(lw_ok_in (List.mem_of_getElem? (i := 1299) (by decide +kernel)) rfl), (lw_ok_in (List.mem_of_getElem? (i := 119) (by decide +kernel)) rfl), by decide +kernel⟩
theorem cbX2_climb : a_cb pX2_climb 0 := ⟨(lw_ok_in (List.mem_of_getElem? (i := 1247) (by decide +kernel)) rfl), (lw_ok_in (List.mem_of_getElem? (i := 119) (by decide +kernel)) rfl), by decide +kernel⟩
theorem cbX2_columnToEnter : a_cb pX2_columnToEnter 0 := ⟨(lw_ok_in (List.mem_of_getElem? (i := 1252) (by decide +kernel)) rfl), (lw_ok_in (List.mem_of_getElem? (i := 119) (by decide +kernel)) rfl), by decide +kernel⟩
theorem cbX2_rowToLeave : a_cb pX2_rowToLeave 1 := ⟨(lw_ok_in (List.mem_of_getElem? (i := 1256) (by decide +kernel)) rfl), (lw_ok_in (List.mem_of_getElem? (i := 119) (by decide +kernel)) rfl), by decide +kernel⟩
theorem cbX2_turn : a_cb pX2_turn 2 := ⟨(lw_ok_in (List.mem_of_getElem? (i := 1260) (by decide +kernel)) rfl), (lw_ok_in (List.mem_of_getElem? (i := 119) (by decide +kernel)) rfl), by decide +kernel⟩
theorem cbX2_turnRow : a_cb pX2_turnRow 3 := ⟨(lw_ok_in (List.mem_of_getElem? (i := 1264) (by decide +kernel)) rfl), (lw_ok_in (List.mem_of_getElem? (i := 119) (by decide +kernel)) rfl), by decide +kernel⟩
theorem cbX2_weigh : a_cb pX2_weigh 1 := ⟨(lw_ok_in (List.mem_of_getElem? (i := 1359) (by decide +kernel)) rfl), (lw_ok_in (List.mem_of_getElem? (i := 119) (by decide +kernel)) rfl), by decide +kernel⟩
theorem cbX2_weightBy : a_cb pX2_weightBy 2 := ⟨(lw_ok_in (List.mem_of_getElem? (i := 1364) (by decide +kernel)) rfl), (lw_ok_in (List.mem_of_getElem? (i := 119) (by decide +kernel)) rfl), by decide +kernel⟩
theorem cbX2_weightOf : a_cb pX2_weightOf 1 := ⟨(lw_ok_in (List.mem_of_getElem? (i := 1372) (by decide +kernel)) rfl), (lw_ok_in (List.mem_of_getElem? (i := 119) (by decide +kernel)) rfl), by decide +kernel⟩
theorem cbX2_firstToLeave : a_cb pX2_firstToLeave 1 := ⟨(lw_ok_in (List.mem_of_getElem? (i := 1384) (by decide +kernel)) rfl), (lw_ok_in (List.mem_of_getElem? (i := 119) (by decide +kernel)) rfl), by decide +kernel⟩
theorem cbX3_init : a_cb pX3_init 3 := ⟨(lw_ok_in (List.mem_of_getElem? (i := 359) (by decide +kernel)) rfl), (lw_ok_in (List.mem_of_getElem? (i := 115) (by decide +kernel)) rfl), by decide +kernel⟩
theorem cbX3_forgetAll : a_cb pX3_forgetAll 0 := ⟨(lw_ok_in (List.mem_of_getElem? (i := 995) (by decide +kernel)) rfl), (lw_ok_in (List.mem_of_getElem? (i := 115) (by decide +kernel)) rfl), by decide +kernel⟩
theorem cbX3_forget : a_cb pX3_forget 1 := ⟨(lw_ok_in (List.mem_of_getElem? (i := 723) (by decide +kernel)) rfl), (lw_ok_in (List.mem_of_getElem? (i := 115) (by decide +kernel)) rfl), by decide +kernel⟩
theorem cbX3_costOf : a_cb pX3_costOf 1 := ⟨(lw_ok_in (List.mem_of_getElem? (i := 1054) (by decide +kernel)) rfl), (lw_ok_in (List.mem_of_getElem? (i := 115) (by decide +kernel)) rfl), by decide +kernel⟩
theorem cbX3_sacksOf : a_cb pX3_sacksOf 1 := ⟨(lw_ok_in (List.mem_of_getElem? (i := 1100) (by decide +kernel)) rfl), (lw_ok_in (List.mem_of_getElem? (i := 115) (by decide +kernel)) rfl), by decide +kernel⟩
theorem cbX3_sacksIn : a_cb pX3_sacksIn 2 := ⟨(lw_ok_in (List.mem_of_getElem? (i := 1104) (by decide +kernel)) rfl), (lw_ok_in (List.mem_of_getElem? (i := 115) (by decide +kernel)) rfl), by decide +kernel⟩
theorem cbX3_worthOf : a_cb pX3_worthOf 1 := ⟨(lw_ok_in (List.mem_of_getElem? (i := 1070) (by decide +kernel)) rfl), (lw_ok_in (List.mem_of_getElem? (i := 115) (by decide +kernel)) rfl), by decide +kernel⟩
theorem cbX3_priceMonth : a_cb pX3_priceMonth 2 := ⟨(lw_ok_in (List.mem_of_getElem? (i := 1083) (by decide +kernel)) rfl), (lw_ok_in (List.mem_of_getElem? (i := 115) (by decide +kernel)) rfl), by decide +kernel⟩
theorem cbX3_leastFrom : a_cb pX3_leastFrom 4 := ⟨(lw_ok_in (List.mem_of_getElem? (i := 1088) (by decide +kernel)) rfl), (lw_ok_in (List.mem_of_getElem? (i := 115) (by decide +kernel)) rfl), by decide +kernel⟩
theorem cbX3_leftIn : a_cb pX3_leftIn 4 := ⟨(lw_ok_in (List.mem_of_getElem? (i := 1108) (by decide +kernel)) rfl), (lw_ok_in (List.mem_of_getElem? (i := 115) (by decide +kernel)) rfl), by decide +kernel⟩
theorem cbX4_init : a_cb pX4_init 1 := ⟨(lw_ok_in (List.mem_of_getElem? (i := 331) (by decide +kernel)) rfl), (lw_ok_in (List.mem_of_getElem? (i := 114) (by decide +kernel)) rfl), by decide +kernel⟩
theorem cbX4_forget : a_cb pX4_forget 0 := ⟨(lw_ok_in (List.mem_of_getElem? (i := 991) (by decide +kernel)) rfl), (lw_ok_in (List.mem_of_getElem? (i := 114) (by decide +kernel)) rfl), by decide +kernel⟩
theorem cbX4_reach : a_cb pX4_reach 1 := ⟨(lw_ok_in (List.mem_of_getElem? (i := 1006) (by decide +kernel)) rfl), (lw_ok_in (List.mem_of_getElem? (i := 114) (by decide +kernel)) rfl), by decide +kernel⟩
theorem cbX4_goodsOf : a_cb pX4_goodsOf 2 := ⟨(lw_ok_in (List.mem_of_getElem? (i := 1015) (by decide +kernel)) rfl), (lw_ok_in (List.mem_of_getElem? (i := 114) (by decide +kernel)) rfl), by decide +kernel⟩
theorem cbX4_leastOf : a_cb pX4_leastOf 1 := ⟨(lw_ok_in (List.mem_of_getElem? (i := 1028) (by decide +kernel)) rfl), (lw_ok_in (List.mem_of_getElem? (i := 114) (by decide +kernel)) rfl), by decide +kernel⟩
theorem cbX5_init : a_cb pX5_init 0 := ⟨(lw_ok_in (List.mem_of_getElem? (i := 283) (by decide +kernel)) rfl), (lw_ok_in (List.mem_of_getElem? (i := 113) (by decide +kernel)) rfl), by decide +kernel⟩
theorem cbX5_append : a_cb pX5_append 1 := ⟨(lw_ok_in (List.mem_of_getElem? (i := 611) (by decide +kernel)) rfl), (lw_ok_in (List.mem_of_getElem? (i := 113) (by decide +kernel)) rfl), by decide +kernel⟩
theorem cbX5_read : a_cb pX5_read 1 := ⟨(lw_ok_in (List.mem_of_getElem? (i := 833) (by decide +kernel)) rfl), (lw_ok_in (List.mem_of_getElem? (i := 113) (by decide +kernel)) rfl), by decide +kernel⟩
theorem cbX5_readLine : a_cb pX5_readLine 0 := ⟨(lw_ok_in (List.mem_of_getElem? (i := 866) (by decide +kernel)) rfl), (lw_ok_in (List.mem_of_getElem? (i := 113) (by decide +kernel)) rfl), by decide +kernel⟩
theorem cbX5_isFull : a_cb pX5_isFull 1 := ⟨(lw_ok_in (List.mem_of_getElem? (i := 928) (by decide +kernel)) rfl), (lw_ok_in (List.mem_of_getElem? (i := 113) (by decide +kernel)) rfl), by decide +kernel⟩
theorem cbX5_readRule : a_cb pX5_readRule 0 := ⟨(lw_ok_in (List.mem_of_getElem? (i := 938) (by decide +kernel)) rfl), (lw_ok_in (List.mem_of_getElem? (i := 113) (by decide +kernel)) rfl), by decide +kernel⟩
theorem cbX5_readNumbers : a_cb pX5_readNumbers 1 := ⟨(lw_ok_in (List.mem_of_getElem? (i := 942) (by decide +kernel)) rfl), (lw_ok_in (List.mem_of_getElem? (i := 113) (by decide +kernel)) rfl), by decide +kernel⟩
theorem cbX5_readNumber : a_cb pX5_readNumber 2 := ⟨(lw_ok_in (List.mem_of_getElem? (i := 946) (by decide +kernel)) rfl), (lw_ok_in (List.mem_of_getElem? (i := 113) (by decide +kernel)) rfl), by decide +kernel⟩
theorem cbX5_note : a_cb pX5_note 3 := ⟨(lw_ok_in (List.mem_of_getElem? (i := 954) (by decide +kernel)) rfl), (lw_ok_in (List.mem_of_getElem? (i := 113) (by decide +kernel)) rfl), by decide +kernel⟩
theorem cbX5_blame : a_cb pX5_blame 1 := ⟨(lw_ok_in (List.mem_of_getElem? (i := 862) (by decide +kernel)) rfl), (lw_ok_in (List.mem_of_getElem? (i := 113) (by decide +kernel)) rfl), by decide +kernel⟩
theorem cbX5_advance : a_cb pX5_advance 0 := ⟨(lw_ok_in (List.mem_of_getElem? (i := 845) (by decide +kernel)) rfl), (lw_ok_in (List.mem_of_getElem? (i := 113) (by decide +kernel)) rfl), by decide +kernel⟩
theorem cbX5_readDigits : a_cb pX5_readDigits 0 := ⟨(lw_ok_in (List.mem_of_getElem? (i := 858) (by decide +kernel)) rfl), (lw_ok_in (List.mem_of_getElem? (i := 113) (by decide +kernel)) rfl), by decide +kernel⟩
theorem cbX5_wordHere : a_cb pX5_wordHere 0 := ⟨(lw_ok_in (List.mem_of_getElem? (i := 870) (by decide +kernel)) rfl), (lw_ok_in (List.mem_of_getElem? (i := 113) (by decide +kernel)) rfl), by decide +kernel⟩
theorem cbX5_spells : a_cb pX5_spells 1 := ⟨(lw_ok_in (List.mem_of_getElem? (i := 876) (by decide +kernel)) rfl), (lw_ok_in (List.mem_of_getElem? (i := 113) (by decide +kernel)) rfl), by decide +kernel⟩
theorem cbX5_isBlank : a_cb pX5_isBlank 1 := ⟨(lw_ok_in (List.mem_of_getElem? (i := 848) (by decide +kernel)) rfl), (lw_ok_in (List.mem_of_getElem? (i := 113) (by decide +kernel)) rfl), by decide +kernel⟩
theorem cbX5_isLetter : a_cb pX5_isLetter 1 := ⟨(lw_ok_in (List.mem_of_getElem? (i := 851) (by decide +kernel)) rfl), (lw_ok_in (List.mem_of_getElem? (i := 113) (by decide +kernel)) rfl), by decide +kernel⟩
theorem cbX5_isDigit : a_cb pX5_isDigit 1 := ⟨(lw_ok_in (List.mem_of_getElem? (i := 854) (by decide +kernel)) rfl), (lw_ok_in (List.mem_of_getElem? (i := 113) (by decide +kernel)) rfl), by decide +kernel⟩
theorem cbX6_init : a_cb pX6_init 1 := ⟨(lw_ok_in (List.mem_of_getElem? (i := 495) (by decide +kernel)) rfl), (lw_ok_in (List.mem_of_getElem? (i := 121) (by decide +kernel)) rfl), by decide +kernel⟩
theorem cbX6_forget : a_cb pX6_forget 0 := ⟨(lw_ok_in (List.mem_of_getElem? (i := 730) (by decide +kernel)) rfl), (lw_ok_in (List.mem_of_getElem? (i := 121) (by decide +kernel)) rfl), by decide +kernel⟩
theorem cbX6_seek : a_cb pX6_seek 3 := ⟨(lw_ok_in (List.mem_of_getElem? (i := 1439) (by decide +kernel)) rfl), (lw_ok_in (List.mem_of_getElem? (i := 121) (by decide +kernel)) rfl), by decide +kernel⟩
theorem cbX6_keepIfMore : a_cb pX6_keepIfMore 3 := ⟨(lw_ok_in (List.mem_of_getElem? (i := 1458) (by decide +kernel)) rfl), (lw_ok_in (List.mem_of_getElem? (i := 121) (by decide +kernel)) rfl), by decide +kernel⟩
theorem cbX6_gain : a_cb pX6_gain 0 := ⟨(lw_ok_in (List.mem_of_getElem? (i := 1446) (by decide +kernel)) rfl), (lw_ok_in (List.mem_of_getElem? (i := 121) (by decide +kernel)) rfl), by decide +kernel⟩
theorem cbX7_init : a_cb pX7_init 0 := ⟨(lw_ok_in (List.mem_of_getElem? (i := 151) (by decide +kernel)) rfl), (lw_ok_in (List.mem_of_getElem? (i := 111) (by decide +kernel)) rfl), by decide +kernel⟩
theorem cbX7_copyFrom : a_cb pX7_copyFrom 1 := ⟨(lw_ok_in (List.mem_of_getElem? (i := 1524) (by decide +kernel)) rfl), (lw_ok_in (List.mem_of_getElem? (i := 111) (by decide +kernel)) rfl), by decide +kernel⟩
theorem cbX7_has : a_cb pX7_has 1 := ⟨(lw_ok_in (List.mem_of_getElem? (i := 746) (by decide +kernel)) rfl), (lw_ok_in (List.mem_of_getElem? (i := 111) (by decide +kernel)) rfl), by decide +kernel⟩
theorem cbX7_settle : a_cb pX7_settle 1 := ⟨(lw_ok_in (List.mem_of_getElem? (i := 715) (by decide +kernel)) rfl), (lw_ok_in (List.mem_of_getElem? (i := 111) (by decide +kernel)) rfl), by decide +kernel⟩
theorem cbX7_addDoubt : a_cb pX7_addDoubt 3 := ⟨(lw_ok_in (List.mem_of_getElem? (i := 1395) (by decide +kernel)) rfl), (lw_ok_in (List.mem_of_getElem? (i := 111) (by decide +kernel)) rfl), by decide +kernel⟩
theorem cbX7_allDoubts : a_cb pX7_allDoubts 0 := ⟨(lw_ok_in (List.mem_of_getElem? (i := 631) (by decide +kernel)) rfl), (lw_ok_in (List.mem_of_getElem? (i := 111) (by decide +kernel)) rfl), by decide +kernel⟩
theorem cbX7_holderOf : a_cb pX7_holderOf 1 := ⟨(lw_ok_in (List.mem_of_getElem? (i := 806) (by decide +kernel)) rfl), (lw_ok_in (List.mem_of_getElem? (i := 111) (by decide +kernel)) rfl), by decide +kernel⟩
theorem cbX7_mayBuy : a_cb pX7_mayBuy 1 := ⟨(lw_ok_in (List.mem_of_getElem? (i := 1058) (by decide +kernel)) rfl), (lw_ok_in (List.mem_of_getElem? (i := 111) (by decide +kernel)) rfl), by decide +kernel⟩
theorem cbX7_stepsBetween : a_cb pX7_stepsBetween 2 := ⟨(lw_ok_in (List.mem_of_getElem? (i := 818) (by decide +kernel)) rfl), (lw_ok_in (List.mem_of_getElem? (i := 111) (by decide +kernel)) rfl), by decide +kernel⟩
theorem cbX7_trustedBy : a_cb pX7_trustedBy 1 := ⟨(lw_ok_in (List.mem_of_getElem? (i := 822) (by decide +kernel)) rfl), (lw_ok_in (List.mem_of_getElem? (i := 111) (by decide +kernel)) rfl), by decide +kernel⟩
theorem cbX7_cellarsOf : a_cb pX7_cellarsOf 1 := ⟨(lw_ok_in (List.mem_of_getElem? (i := 1074) (by decide +kernel)) rfl), (lw_ok_in (List.mem_of_getElem? (i := 111) (by decide +kernel)) rfl), by decide +kernel⟩
theorem cbX7_wantsOf : a_cb pX7_wantsOf 2 := ⟨(lw_ok_in (List.mem_of_getElem? (i := 1079) (by decide +kernel)) rfl), (lw_ok_in (List.mem_of_getElem? (i := 111) (by decide +kernel)) rfl), by decide +kernel⟩
theorem cbX7_wantsThatCount : a_cb pX7_wantsThatCount 1 := ⟨(lw_ok_in (List.mem_of_getElem? (i := 1368) (by decide +kernel)) rfl), (lw_ok_in (List.mem_of_getElem? (i := 111) (by decide +kernel)) rfl), by decide +kernel⟩
theorem cbX8_init : a_cb pX8_init 0 := ⟨(lw_ok_in (List.mem_of_getElem? (i := 157) (by decide +kernel)) rfl), (lw_ok_in (List.mem_of_getElem? (i := 112) (by decide +kernel)) rfl), by decide +kernel⟩
theorem cbX8_clear : a_cb pX8_clear 0 := ⟨(lw_ok_in (List.mem_of_getElem? (i := 840) (by decide +kernel)) rfl), (lw_ok_in (List.mem_of_getElem? (i := 112) (by decide +kernel)) rfl), by decide +kernel⟩
theorem cbX8_copyFrom : a_cb pX8_copyFrom 1 := ⟨(lw_ok_in (List.mem_of_getElem? (i := 980) (by decide +kernel)) rfl), (lw_ok_in (List.mem_of_getElem? (i := 112) (by decide +kernel)) rfl), by decide +kernel⟩
theorem cbX8_hasStep : a_cb pX8_hasStep 1 := ⟨(lw_ok_in (List.mem_of_getElem? (i := 950) (by decide +kernel)) rfl), (lw_ok_in (List.mem_of_getElem? (i := 112) (by decide +kernel)) rfl), by decide +kernel⟩
theorem cbX8_addStep : a_cb pX8_addStep 2 := ⟨(lw_ok_in (List.mem_of_getElem? (i := 962) (by decide +kernel)) rfl), (lw_ok_in (List.mem_of_getElem? (i := 112) (by decide +kernel)) rfl), by decide +kernel⟩
theorem cbX8_addCart : a_cb pX8_addCart 2 := ⟨(lw_ok_in (List.mem_of_getElem? (i := 966) (by decide +kernel)) rfl), (lw_ok_in (List.mem_of_getElem? (i := 112) (by decide +kernel)) rfl), by decide +kernel⟩
theorem cbX8_eachOf : a_cb pX8_eachOf 1 := ⟨(lw_ok_in (List.mem_of_getElem? (i := 1010) (by decide +kernel)) rfl), (lw_ok_in (List.mem_of_getElem? (i := 112) (by decide +kernel)) rfl), by decide +kernel⟩
theorem cbX8_cartsOf : a_cb pX8_cartsOf 2 := ⟨(lw_ok_in (List.mem_of_getElem? (i := 1020) (by decide +kernel)) rfl), (lw_ok_in (List.mem_of_getElem? (i := 112) (by decide +kernel)) rfl), by decide +kernel⟩
theorem cbX9_init : a_cb pX9_init 0 := ⟨(lw_ok_in (List.mem_of_getElem? (i := 550) (by decide +kernel)) rfl), (lw_ok_in (List.mem_of_getElem? (i := 122) (by decide +kernel)) rfl), by decide +kernel⟩
theorem cbX9_lay : a_cb pX9_lay 3 := ⟨(lw_ok_in (List.mem_of_getElem? (i := 1469) (by decide +kernel)) rfl), (lw_ok_in (List.mem_of_getElem? (i := 122) (by decide +kernel)) rfl), by decide +kernel⟩
theorem cbX9_at : a_cb pX9_at 2 := ⟨(lw_ok_in (List.mem_of_getElem? (i := 1334) (by decide +kernel)) rfl), (lw_ok_in (List.mem_of_getElem? (i := 122) (by decide +kernel)) rfl), by decide +kernel⟩
theorem cbX9_put : a_cb pX9_put 3 := ⟨(lw_ok_in (List.mem_of_getElem? (i := 1500) (by decide +kernel)) rfl), (lw_ok_in (List.mem_of_getElem? (i := 122) (by decide +kernel)) rfl), by decide +kernel⟩
theorem cbX9_proves : a_cb pX9_proves 4 := ⟨(lw_ok_in (List.mem_of_getElem? (i := 1329) (by decide +kernel)) rfl), (lw_ok_in (List.mem_of_getElem? (i := 122) (by decide +kernel)) rfl), by decide +kernel⟩
theorem cbX9_cover : a_cb pX9_cover 2 := ⟨(lw_ok_in (List.mem_of_getElem? (i := 1339) (by decide +kernel)) rfl), (lw_ok_in (List.mem_of_getElem? (i := 122) (by decide +kernel)) rfl), by decide +kernel⟩
theorem cbX9_isCovered : a_cb pX9_isCovered 2 := ⟨(lw_ok_in (List.mem_of_getElem? (i := 1344) (by decide +kernel)) rfl), (lw_ok_in (List.mem_of_getElem? (i := 122) (by decide +kernel)) rfl), by decide +kernel⟩
theorem cbX11_init : a_cb pX11_init 0 := ⟨(lw_ok_in (List.mem_of_getElem? (i := 143) (by decide +kernel)) rfl), (lw_ok_in (List.mem_of_getElem? (i := 110) (by decide +kernel)) rfl), by decide +kernel⟩
theorem cbX11_house : a_cb pX11_house 1 := ⟨(lw_ok_in (List.mem_of_getElem? (i := 639) (by decide +kernel)) rfl), (lw_ok_in (List.mem_of_getElem? (i := 110) (by decide +kernel)) rfl), by decide +kernel⟩
theorem cbX11_want : a_cb pX11_want 3 := ⟨(lw_ok_in (List.mem_of_getElem? (i := 738) (by decide +kernel)) rfl), (lw_ok_in (List.mem_of_getElem? (i := 110) (by decide +kernel)) rfl), by decide +kernel⟩
theorem cbX11_cellar : a_cb pX11_cellar 2 := ⟨(lw_ok_in (List.mem_of_getElem? (i := 772) (by decide +kernel)) rfl), (lw_ok_in (List.mem_of_getElem? (i := 110) (by decide +kernel)) rfl), by decide +kernel⟩
theorem cbX11_bar : a_cb pX11_bar 2 := ⟨(lw_ok_in (List.mem_of_getElem? (i := 779) (by decide +kernel)) rfl), (lw_ok_in (List.mem_of_getElem? (i := 110) (by decide +kernel)) rfl), by decide +kernel⟩
theorem cbX11_trust : a_cb pX11_trust 3 := ⟨(lw_ok_in (List.mem_of_getElem? (i := 791) (by decide +kernel)) rfl), (lw_ok_in (List.mem_of_getElem? (i := 110) (by decide +kernel)) rfl), by decide +kernel⟩
theorem cbX11_holder : a_cb pX11_holder 1 := ⟨(lw_ok_in (List.mem_of_getElem? (i := 798) (by decide +kernel)) rfl), (lw_ok_in (List.mem_of_getElem? (i := 110) (by decide +kernel)) rfl), by decide +kernel⟩
theorem cbX11_chain : a_cb pX11_chain 2 := ⟨(lw_ok_in (List.mem_of_getElem? (i := 814) (by decide +kernel)) rfl), (lw_ok_in (List.mem_of_getElem? (i := 110) (by decide +kernel)) rfl), by decide +kernel⟩
theorem cbX11_feed : a_cb pX11_feed 5 := ⟨(lw_ok_in (List.mem_of_getElem? (i := 607) (by decide +kernel)) rfl), (lw_ok_in (List.mem_of_getElem? (i := 110) (by decide +kernel)) rfl), by decide +kernel⟩
theorem cbX11_text : a_cb pX11_text 1 := ⟨(lw_ok_in (List.mem_of_getElem? (i := 829) (by decide +kernel)) rfl), (lw_ok_in (List.mem_of_getElem? (i := 110) (by decide +kernel)) rfl), by decide +kernel⟩
theorem cbX11_fault : a_cb pX11_fault 1 := ⟨(lw_ok_in (List.mem_of_getElem? (i := 615) (by decide +kernel)) rfl), (lw_ok_in (List.mem_of_getElem? (i := 110) (by decide +kernel)) rfl), by decide +kernel⟩
theorem cbX11_price : a_cb pX11_price 1 := ⟨(lw_ok_in (List.mem_of_getElem? (i := 1002) (by decide +kernel)) rfl), (lw_ok_in (List.mem_of_getElem? (i := 110) (by decide +kernel)) rfl), by decide +kernel⟩
theorem cbX11_buys : a_cb pX11_buys 2 := ⟨(lw_ok_in (List.mem_of_getElem? (i := 1039) (by decide +kernel)) rfl), (lw_ok_in (List.mem_of_getElem? (i := 110) (by decide +kernel)) rfl), by decide +kernel⟩
theorem cbX11_cost : a_cb pX11_cost 1 := ⟨(lw_ok_in (List.mem_of_getElem? (i := 1050) (by decide +kernel)) rfl), (lw_ok_in (List.mem_of_getElem? (i := 110) (by decide +kernel)) rfl), by decide +kernel⟩
theorem cbX11_bought : a_cb pX11_bought 2 := ⟨(lw_ok_in (List.mem_of_getElem? (i := 1096) (by decide +kernel)) rfl), (lw_ok_in (List.mem_of_getElem? (i := 110) (by decide +kernel)) rfl), by decide +kernel⟩
theorem cbX11_least : a_cb pX11_least 1 := ⟨(lw_ok_in (List.mem_of_getElem? (i := 1115) (by decide +kernel)) rfl), (lw_ok_in (List.mem_of_getElem? (i := 110) (by decide +kernel)) rfl), by decide +kernel⟩
theorem cbX11_group : a_cb pX11_group 2 := ⟨(lw_ok_in (List.mem_of_getElem? (i := 1136) (by decide +kernel)) rfl), (lw_ok_in (List.mem_of_getElem? (i := 110) (by decide +kernel)) rfl), by decide +kernel⟩
theorem cbX11_come : a_cb pX11_come 2 := ⟨(lw_ok_in (List.mem_of_getElem? (i := 1152) (by decide +kernel)) rfl), (lw_ok_in (List.mem_of_getElem? (i := 110) (by decide +kernel)) rfl), by decide +kernel⟩
theorem cbX11_join : a_cb pX11_join 3 := ⟨(lw_ok_in (List.mem_of_getElem? (i := 1163) (by decide +kernel)) rfl), (lw_ok_in (List.mem_of_getElem? (i := 110) (by decide +kernel)) rfl), by decide +kernel⟩
theorem cbX11_upper : a_cb pX11_upper 0 := ⟨(lw_ok_in (List.mem_of_getElem? (i := 619) (by decide +kernel)) rfl), (lw_ok_in (List.mem_of_getElem? (i := 110) (by decide +kernel)) rfl), by decide +kernel⟩
theorem cbX11_lower : a_cb pX11_lower 0 := ⟨(lw_ok_in (List.mem_of_getElem? (i := 623) (by decide +kernel)) rfl), (lw_ok_in (List.mem_of_getElem? (i := 110) (by decide +kernel)) rfl), by decide +kernel⟩
theorem cbX11_pay : a_cb pX11_pay 2 := ⟨(lw_ok_in (List.mem_of_getElem? (i := 1172) (by decide +kernel)) rfl), (lw_ok_in (List.mem_of_getElem? (i := 110) (by decide +kernel)) rfl), by decide +kernel⟩
theorem cbX11_by : a_cb pX11_by 1 := ⟨(lw_ok_in (List.mem_of_getElem? (i := 1179) (by decide +kernel)) rfl), (lw_ok_in (List.mem_of_getElem? (i := 110) (by decide +kernel)) rfl), by decide +kernel⟩
theorem cbX11_judge : a_cb pX11_judge 1 := ⟨(lw_ok_in (List.mem_of_getElem? (i := 1187) (by decide +kernel)) rfl), (lw_ok_in (List.mem_of_getElem? (i := 110) (by decide +kernel)) rfl), by decide +kernel⟩
theorem cbX11_can : a_cb pX11_can 1 := ⟨(lw_ok_in (List.mem_of_getElem? (i := 1221) (by decide +kernel)) rfl), (lw_ok_in (List.mem_of_getElem? (i := 110) (by decide +kernel)) rfl), by decide +kernel⟩
theorem cbX11_share : a_cb pX11_share 3 := ⟨(lw_ok_in (List.mem_of_getElem? (i := 1283) (by decide +kernel)) rfl), (lw_ok_in (List.mem_of_getElem? (i := 110) (by decide +kernel)) rfl), by decide +kernel⟩
theorem cbX11_row : a_cb pX11_row 2 := ⟨(lw_ok_in (List.mem_of_getElem? (i := 1314) (by decide +kernel)) rfl), (lw_ok_in (List.mem_of_getElem? (i := 110) (by decide +kernel)) rfl), by decide +kernel⟩
theorem cbX11_proof : a_cb pX11_proof 3 := ⟨(lw_ok_in (List.mem_of_getElem? (i := 1321) (by decide +kernel)) rfl), (lw_ok_in (List.mem_of_getElem? (i := 110) (by decide +kernel)) rfl), by decide +kernel⟩
theorem cbX11_ruled : a_cb pX11_ruled 2 := ⟨(lw_ok_in (List.mem_of_getElem? (i := 1351) (by decide +kernel)) rfl), (lw_ok_in (List.mem_of_getElem? (i := 110) (by decide +kernel)) rfl), by decide +kernel⟩
theorem cbX11_keeps : a_cb pX11_keeps 1 := ⟨(lw_ok_in (List.mem_of_getElem? (i := 1380) (by decide +kernel)) rfl), (lw_ok_in (List.mem_of_getElem? (i := 110) (by decide +kernel)) rfl), by decide +kernel⟩
theorem cbX11_doubt : a_cb pX11_doubt 3 := ⟨(lw_ok_in (List.mem_of_getElem? (i := 1391) (by decide +kernel)) rfl), (lw_ok_in (List.mem_of_getElem? (i := 110) (by decide +kernel)) rfl), by decide +kernel⟩
theorem cbX11_risk : a_cb pX11_risk 2 := ⟨(lw_ok_in (List.mem_of_getElem? (i := 1402) (by decide +kernel)) rfl), (lw_ok_in (List.mem_of_getElem? (i := 110) (by decide +kernel)) rfl), by decide +kernel⟩
theorem cbX11_before : a_cb pX11_before 1 := ⟨(lw_ok_in (List.mem_of_getElem? (i := 1428) (by decide +kernel)) rfl), (lw_ok_in (List.mem_of_getElem? (i := 110) (by decide +kernel)) rfl), by decide +kernel⟩
theorem cbX11_seller : a_cb pX11_seller 4 := ⟨(lw_ok_in (List.mem_of_getElem? (i := 1435) (by decide +kernel)) rfl), (lw_ok_in (List.mem_of_getElem? (i := 110) (by decide +kernel)) rfl), by decide +kernel⟩
theorem cbX11_tray : a_cb pX11_tray 3 := ⟨(lw_ok_in (List.mem_of_getElem? (i := 1465) (by decide +kernel)) rfl), (lw_ok_in (List.mem_of_getElem? (i := 110) (by decide +kernel)) rfl), by decide +kernel⟩
theorem cbX11_write : a_cb pX11_write 3 := ⟨(lw_ok_in (List.mem_of_getElem? (i := 1477) (by decide +kernel)) rfl), (lw_ok_in (List.mem_of_getElem? (i := 110) (by decide +kernel)) rfl), by decide +kernel⟩
theorem cbX11_take : a_cb pX11_take 2 := ⟨(lw_ok_in (List.mem_of_getElem? (i := 1507) (by decide +kernel)) rfl), (lw_ok_in (List.mem_of_getElem? (i := 110) (by decide +kernel)) rfl), by decide +kernel⟩
theorem cbX11_image : a_cb pX11_image 1 := ⟨(lw_ok_in (List.mem_of_getElem? (i := 1516) (by decide +kernel)) rfl), (lw_ok_in (List.mem_of_getElem? (i := 110) (by decide +kernel)) rfl), by decide +kernel⟩
theorem cbX11_restore : a_cb pX11_restore 1 := ⟨(lw_ok_in (List.mem_of_getElem? (i := 1533) (by decide +kernel)) rfl), (lw_ok_in (List.mem_of_getElem? (i := 110) (by decide +kernel)) rfl), by decide +kernel⟩
theorem cbX11_count : a_cb pX11_count 1 := ⟨(lw_ok_in (List.mem_of_getElem? (i := 627) (by decide +kernel)) rfl), (lw_ok_in (List.mem_of_getElem? (i := 110) (by decide +kernel)) rfl), by decide +kernel⟩
theorem cbX11_needHouse : a_cb pX11_needHouse 1 := ⟨(lw_ok_in (List.mem_of_getElem? (i := 742) (by decide +kernel)) rfl), (lw_ok_in (List.mem_of_getElem? (i := 110) (by decide +kernel)) rfl), by decide +kernel⟩
theorem cbX11_needTwo : a_cb pX11_needTwo 2 := ⟨(lw_ok_in (List.mem_of_getElem? (i := 783) (by decide +kernel)) rfl), (lw_ok_in (List.mem_of_getElem? (i := 110) (by decide +kernel)) rfl), by decide +kernel⟩
theorem cbX11_needMonth : a_cb pX11_needMonth 2 := ⟨(lw_ok_in (List.mem_of_getElem? (i := 765) (by decide +kernel)) rfl), (lw_ok_in (List.mem_of_getElem? (i := 110) (by decide +kernel)) rfl), by decide +kernel⟩
theorem cbX11_needTray : a_cb pX11_needTray 1 := ⟨(lw_ok_in (List.mem_of_getElem? (i := 1325) (by decide +kernel)) rfl), (lw_ok_in (List.mem_of_getElem? (i := 110) (by decide +kernel)) rfl), by decide +kernel⟩
theorem cbX11_needLaid : a_cb pX11_needLaid 1 := ⟨(lw_ok_in (List.mem_of_getElem? (i := 1481) (by decide +kernel)) rfl), (lw_ok_in (List.mem_of_getElem? (i := 110) (by decide +kernel)) rfl), by decide +kernel⟩
theorem cbX11_needImage : a_cb pX11_needImage 1 := ⟨(lw_ok_in (List.mem_of_getElem? (i := 1520) (by decide +kernel)) rfl), (lw_ok_in (List.mem_of_getElem? (i := 110) (by decide +kernel)) rfl), by decide +kernel⟩
theorem cbX11_needWithin : a_cb pX11_needWithin 3 := ⟨(lw_ok_in (List.mem_of_getElem? (i := 647) (by decide +kernel)) rfl), (lw_ok_in (List.mem_of_getElem? (i := 110) (by decide +kernel)) rfl), by decide +kernel⟩
theorem cbX11_needSacks : a_cb pX11_needSacks 1 := ⟨(lw_ok_in (List.mem_of_getElem? (i := 643) (by decide +kernel)) rfl), (lw_ok_in (List.mem_of_getElem? (i := 110) (by decide +kernel)) rfl), by decide +kernel⟩
theorem cbX11_needSet : a_cb pX11_needSet 1 := ⟨(lw_ok_in (List.mem_of_getElem? (i := 802) (by decide +kernel)) rfl), (lw_ok_in (List.mem_of_getElem? (i := 110) (by decide +kernel)) rfl), by decide +kernel⟩
theorem cbX11_needFew : a_cb pX11_needFew 1 := ⟨(lw_ok_in (List.mem_of_getElem? (i := 1225) (by decide +kernel)) rfl), (lw_ok_in (List.mem_of_getElem? (i := 110) (by decide +kernel)) rfl), by decide +kernel⟩
theorem cbX11_needMember : a_cb pX11_needMember 2 := ⟨(lw_ok_in (List.mem_of_getElem? (i := 1287) (by decide +kernel)) rfl), (lw_ok_in (List.mem_of_getElem? (i := 110) (by decide +kernel)) rfl), by decide +kernel⟩
theorem cbX11_needTotal : a_cb pX11_needTotal 1 := ⟨(lw_ok_in (List.mem_of_getElem? (i := 1191) (by decide +kernel)) rfl), (lw_ok_in (List.mem_of_getElem? (i := 110) (by decide +kernel)) rfl), by decide +kernel⟩
theorem cbX11_needParting : a_cb pX11_needParting 1 := ⟨(lw_ok_in (List.mem_of_getElem? (i := 1291) (by decide +kernel)) rfl), (lw_ok_in (List.mem_of_getElem? (i := 110) (by decide +kernel)) rfl), by decide +kernel⟩
theorem cbX11_needRule : a_cb pX11_needRule 1 := ⟨(lw_ok_in (List.mem_of_getElem? (i := 1355) (by decide +kernel)) rfl), (lw_ok_in (List.mem_of_getElem? (i := 110) (by decide +kernel)) rfl), by decide +kernel⟩
theorem cbX11_isOf : a_cb pX11_isOf 2 := ⟨(lw_ok_in (List.mem_of_getElem? (i := 726) (by decide +kernel)) rfl), (lw_ok_in (List.mem_of_getElem? (i := 110) (by decide +kernel)) rfl), by decide +kernel⟩
theorem cbX11_orNone : a_cb pX11_orNone 1 := ⟨(lw_ok_in (List.mem_of_getElem? (i := 1031) (by decide +kernel)) rfl), (lw_ok_in (List.mem_of_getElem? (i := 110) (by decide +kernel)) rfl), by decide +kernel⟩
theorem cbX11_costOfBuys : a_cb pX11_costOfBuys 2 := ⟨(lw_ok_in (List.mem_of_getElem? (i := 1043) (by decide +kernel)) rfl), (lw_ok_in (List.mem_of_getElem? (i := 110) (by decide +kernel)) rfl), by decide +kernel⟩
theorem cbX11_forgetHouse : a_cb pX11_forgetHouse 1 := ⟨(lw_ok_in (List.mem_of_getElem? (i := 719) (by decide +kernel)) rfl), (lw_ok_in (List.mem_of_getElem? (i := 110) (by decide +kernel)) rfl), by decide +kernel⟩
theorem cbX11_forgetAll : a_cb pX11_forgetAll 0 := ⟨(lw_ok_in (List.mem_of_getElem? (i := 987) (by decide +kernel)) rfl), (lw_ok_in (List.mem_of_getElem? (i := 110) (by decide +kernel)) rfl), by decide +kernel⟩
theorem cbX11_tell : a_cb pX11_tell 2 := ⟨(lw_ok_in (List.mem_of_getElem? (i := 1273) (by decide +kernel)) rfl), (lw_ok_in (List.mem_of_getElem? (i := 110) (by decide +kernel)) rfl), by decide +kernel⟩
theorem cbX11_greatestDivisor : a_cb pX11_greatestDivisor 2 := ⟨(lw_ok_in (List.mem_of_getElem? (i := 1276) (by decide +kernel)) rfl), (lw_ok_in (List.mem_of_getElem? (i := 110) (by decide +kernel)) rfl), by decide +kernel⟩
theorem cbX12_init : a_cb pX12_init 0 := ⟨(lw_ok_in (List.mem_of_getElem? (i := 1538) (by decide +kernel)) rfl), (lw_ok_in (List.mem_of_getElem? (i := 123) (by decide +kernel)) rfl), by decide +kernel⟩
theorem cbX12_thrown : a_cb pX12_thrown 0 := ⟨(lw_ok_in (List.mem_of_getElem? (i := 1700) (by decide +kernel)) rfl), (lw_ok_in (List.mem_of_getElem? (i := 123) (by decide +kernel)) rfl), by decide +kernel⟩
theorem cbX12_fails : a_cb pX12_fails 1 := ⟨(lw_ok_in (List.mem_of_getElem? (i := 1712) (by decide +kernel)) rfl), (lw_ok_in (List.mem_of_getElem? (i := 123) (by decide +kernel)) rfl), by decide +kernel⟩
theorem cbX12_fell : a_cb pX12_fell 1 := ⟨(lw_ok_in (List.mem_of_getElem? (i := 1741) (by decide +kernel)) rfl), (lw_ok_in (List.mem_of_getElem? (i := 123) (by decide +kernel)) rfl), by decide +kernel⟩
theorem cbX12_within : a_cb pX12_within 3 := ⟨(lw_ok_in (List.mem_of_getElem? (i := 1708) (by decide +kernel)) rfl), (lw_ok_in (List.mem_of_getElem? (i := 123) (by decide +kernel)) rfl), by decide +kernel⟩
theorem cbX12_isHouse : a_cb pX12_isHouse 1 := ⟨(lw_ok_in (List.mem_of_getElem? (i := 1724) (by decide +kernel)) rfl), (lw_ok_in (List.mem_of_getElem? (i := 123) (by decide +kernel)) rfl), by decide +kernel⟩
theorem cbX12_isSet : a_cb pX12_isSet 1 := ⟨(lw_ok_in (List.mem_of_getElem? (i := 1753) (by decide +kernel)) rfl), (lw_ok_in (List.mem_of_getElem? (i := 123) (by decide +kernel)) rfl), by decide +kernel⟩
theorem cbX12_has : a_cb pX12_has 2 := ⟨(lw_ok_in (List.mem_of_getElem? (i := 1760) (by decide +kernel)) rfl), (lw_ok_in (List.mem_of_getElem? (i := 123) (by decide +kernel)) rfl), by decide +kernel⟩
theorem cbX12_sizeOf : a_cb pX12_sizeOf 1 := ⟨(lw_ok_in (List.mem_of_getElem? (i := 1909) (by decide +kernel)) rfl), (lw_ok_in (List.mem_of_getElem? (i := 123) (by decide +kernel)) rfl), by decide +kernel⟩
theorem cbX12_stale : a_cb pX12_stale 0 := ⟨(lw_ok_in (List.mem_of_getElem? (i := 1716) (by decide +kernel)) rfl), (lw_ok_in (List.mem_of_getElem? (i := 123) (by decide +kernel)) rfl), by decide +kernel⟩
theorem cbX12_house : a_cb pX12_house 1 := ⟨(lw_ok_in (List.mem_of_getElem? (i := 1704) (by decide +kernel)) rfl), (lw_ok_in (List.mem_of_getElem? (i := 123) (by decide +kernel)) rfl), by decide +kernel⟩
theorem cbX12_becomes : a_cb pX12_becomes 2 := ⟨(lw_ok_in (List.mem_of_getElem? (i := 1729) (by decide +kernel)) rfl), (lw_ok_in (List.mem_of_getElem? (i := 123) (by decide +kernel)) rfl), by decide +kernel⟩
theorem cbX12_want : a_cb pX12_want 3 := ⟨(lw_ok_in (List.mem_of_getElem? (i := 1720) (by decide +kernel)) rfl), (lw_ok_in (List.mem_of_getElem? (i := 123) (by decide +kernel)) rfl), by decide +kernel⟩
theorem cbX12_cellar : a_cb pX12_cellar 2 := ⟨(lw_ok_in (List.mem_of_getElem? (i := 1733) (by decide +kernel)) rfl), (lw_ok_in (List.mem_of_getElem? (i := 123) (by decide +kernel)) rfl), by decide +kernel⟩
theorem cbX12_bar : a_cb pX12_bar 2 := ⟨(lw_ok_in (List.mem_of_getElem? (i := 1737) (by decide +kernel)) rfl), (lw_ok_in (List.mem_of_getElem? (i := 123) (by decide +kernel)) rfl), by decide +kernel⟩
theorem cbX12_trust : a_cb pX12_trust 3 := ⟨(lw_ok_in (List.mem_of_getElem? (i := 1745) (by decide +kernel)) rfl), (lw_ok_in (List.mem_of_getElem? (i := 123) (by decide +kernel)) rfl), by decide +kernel⟩
theorem cbX12_trusts : a_cb pX12_trusts 2 := ⟨(lw_ok_in (List.mem_of_getElem? (i := 1764) (by decide +kernel)) rfl), (lw_ok_in (List.mem_of_getElem? (i := 123) (by decide +kernel)) rfl), by decide +kernel⟩
theorem cbX12_holderOf : a_cb pX12_holderOf 1 := ⟨(lw_ok_in (List.mem_of_getElem? (i := 1757) (by decide +kernel)) rfl), (lw_ok_in (List.mem_of_getElem? (i := 123) (by decide +kernel)) rfl), by decide +kernel⟩
theorem cbX12_holder : a_cb pX12_holder 1 := ⟨(lw_ok_in (List.mem_of_getElem? (i := 1749) (by decide +kernel)) rfl), (lw_ok_in (List.mem_of_getElem? (i := 123) (by decide +kernel)) rfl), by decide +kernel⟩
theorem cbX12_chain : a_cb pX12_chain 2 := ⟨(lw_ok_in (List.mem_of_getElem? (i := 1768) (by decide +kernel)) rfl), (lw_ok_in (List.mem_of_getElem? (i := 123) (by decide +kernel)) rfl), by decide +kernel⟩
theorem cbX12_feed : a_cb pX12_feed 5 := ⟨(lw_ok_in (List.mem_of_getElem? (i := 1772) (by decide +kernel)) rfl), (lw_ok_in (List.mem_of_getElem? (i := 123) (by decide +kernel)) rfl), by decide +kernel⟩
theorem cbX12_see : a_cb pX12_see 1 := ⟨(lw_ok_in (List.mem_of_getElem? (i := 1787) (by decide +kernel)) rfl), (lw_ok_in (List.mem_of_getElem? (i := 123) (by decide +kernel)) rfl), by decide +kernel⟩
theorem cbX12_isLetter : a_cb pX12_isLetter 1 := ⟨(lw_ok_in (List.mem_of_getElem? (i := 1783) (by decide +kernel)) rfl), (lw_ok_in (List.mem_of_getElem? (i := 123) (by decide +kernel)) rfl), by decide +kernel⟩
theorem cbX12_isDigit : a_cb pX12_isDigit 1 := ⟨(lw_ok_in (List.mem_of_getElem? (i := 1790) (by decide +kernel)) rfl), (lw_ok_in (List.mem_of_getElem? (i := 123) (by decide +kernel)) rfl), by decide +kernel⟩
theorem cbX12_next : a_cb pX12_next 0 := ⟨(lw_ok_in (List.mem_of_getElem? (i := 1780) (by decide +kernel)) rfl), (lw_ok_in (List.mem_of_getElem? (i := 123) (by decide +kernel)) rfl), by decide +kernel⟩
theorem cbX12_wrong : a_cb pX12_wrong 1 := ⟨(lw_ok_in (List.mem_of_getElem? (i := 1811) (by decide +kernel)) rfl), (lw_ok_in (List.mem_of_getElem? (i := 123) (by decide +kernel)) rfl), by decide +kernel⟩
theorem cbX12_isWord : a_cb pX12_isWord 1 := ⟨(lw_ok_in (List.mem_of_getElem? (i := 1799) (by decide +kernel)) rfl), (lw_ok_in (List.mem_of_getElem? (i := 123) (by decide +kernel)) rfl), by decide +kernel⟩
theorem cbX12_number : a_cb pX12_number 2 := ⟨(lw_ok_in (List.mem_of_getElem? (i := 1820) (by decide +kernel)) rfl), (lw_ok_in (List.mem_of_getElem? (i := 123) (by decide +kernel)) rfl), by decide +kernel⟩
theorem cbX12_isStep : a_cb pX12_isStep 1 := ⟨(lw_ok_in (List.mem_of_getElem? (i := 1816) (by decide +kernel)) rfl), (lw_ok_in (List.mem_of_getElem? (i := 123) (by decide +kernel)) rfl), by decide +kernel⟩
theorem cbX12_readStep : a_cb pX12_readStep 0 := ⟨(lw_ok_in (List.mem_of_getElem? (i := 1807) (by decide +kernel)) rfl), (lw_ok_in (List.mem_of_getElem? (i := 123) (by decide +kernel)) rfl), by decide +kernel⟩
theorem cbX12_readCart : a_cb pX12_readCart 0 := ⟨(lw_ok_in (List.mem_of_getElem? (i := 1825) (by decide +kernel)) rfl), (lw_ok_in (List.mem_of_getElem? (i := 123) (by decide +kernel)) rfl), by decide +kernel⟩
theorem cbX12_readOne : a_cb pX12_readOne 3 := ⟨(lw_ok_in (List.mem_of_getElem? (i := 1830) (by decide +kernel)) rfl), (lw_ok_in (List.mem_of_getElem? (i := 123) (by decide +kernel)) rfl), by decide +kernel⟩
theorem cbX12_readRise : a_cb pX12_readRise 0 := ⟨(lw_ok_in (List.mem_of_getElem? (i := 1837) (by decide +kernel)) rfl), (lw_ok_in (List.mem_of_getElem? (i := 123) (by decide +kernel)) rfl), by decide +kernel⟩
theorem cbX12_readRule : a_cb pX12_readRule 0 := ⟨(lw_ok_in (List.mem_of_getElem? (i := 1843) (by decide +kernel)) rfl), (lw_ok_in (List.mem_of_getElem? (i := 123) (by decide +kernel)) rfl), by decide +kernel⟩
theorem cbX12_readLine : a_cb pX12_readLine 0 := ⟨(lw_ok_in (List.mem_of_getElem? (i := 1794) (by decide +kernel)) rfl), (lw_ok_in (List.mem_of_getElem? (i := 123) (by decide +kernel)) rfl), by decide +kernel⟩
theorem cbX12_text : a_cb pX12_text 1 := ⟨(lw_ok_in (List.mem_of_getElem? (i := 1776) (by decide +kernel)) rfl), (lw_ok_in (List.mem_of_getElem? (i := 123) (by decide +kernel)) rfl), by decide +kernel⟩
theorem cbX12_fault : a_cb pX12_fault 1 := ⟨(lw_ok_in (List.mem_of_getElem? (i := 1850) (by decide +kernel)) rfl), (lw_ok_in (List.mem_of_getElem? (i := 123) (by decide +kernel)) rfl), by decide +kernel⟩
theorem cbX12_priceAt : a_cb pX12_priceAt 1 := ⟨(lw_ok_in (List.mem_of_getElem? (i := 1863) (by decide +kernel)) rfl), (lw_ok_in (List.mem_of_getElem? (i := 123) (by decide +kernel)) rfl), by decide +kernel⟩
theorem cbX12_layPrices : a_cb pX12_layPrices 0 := ⟨(lw_ok_in (List.mem_of_getElem? (i := 1859) (by decide +kernel)) rfl), (lw_ok_in (List.mem_of_getElem? (i := 123) (by decide +kernel)) rfl), by decide +kernel⟩
theorem cbX12_price : a_cb pX12_price 1 := ⟨(lw_ok_in (List.mem_of_getElem? (i := 1854) (by decide +kernel)) rfl), (lw_ok_in (List.mem_of_getElem? (i := 123) (by decide +kernel)) rfl), by decide +kernel⟩
theorem cbX12_buysOf : a_cb pX12_buysOf 2 := ⟨(lw_ok_in (List.mem_of_getElem? (i := 1874) (by decide +kernel)) rfl), (lw_ok_in (List.mem_of_getElem? (i := 123) (by decide +kernel)) rfl), by decide +kernel⟩
theorem cbX12_buys : a_cb pX12_buys 2 := ⟨(lw_ok_in (List.mem_of_getElem? (i := 1870) (by decide +kernel)) rfl), (lw_ok_in (List.mem_of_getElem? (i := 123) (by decide +kernel)) rfl), by decide +kernel⟩
theorem cbX12_sums : a_cb pX12_sums 1 := ⟨(lw_ok_in (List.mem_of_getElem? (i := 1894) (by decide +kernel)) rfl), (lw_ok_in (List.mem_of_getElem? (i := 123) (by decide +kernel)) rfl), by decide +kernel⟩
theorem cbX12_plan : a_cb pX12_plan 1 := ⟨(lw_ok_in (List.mem_of_getElem? (i := 1890) (by decide +kernel)) rfl), (lw_ok_in (List.mem_of_getElem? (i := 123) (by decide +kernel)) rfl), by decide +kernel⟩
theorem cbX12_costBy : a_cb pX12_costBy 3 := ⟨(lw_ok_in (List.mem_of_getElem? (i := 1902) (by decide +kernel)) rfl), (lw_ok_in (List.mem_of_getElem? (i := 123) (by decide +kernel)) rfl), by decide +kernel⟩
theorem cbX12_sacksBy : a_cb pX12_sacksBy 3 := ⟨(lw_ok_in (List.mem_of_getElem? (i := 1906) (by decide +kernel)) rfl), (lw_ok_in (List.mem_of_getElem? (i := 123) (by decide +kernel)) rfl), by decide +kernel⟩
theorem cbX12_tries : a_cb pX12_tries 3 := ⟨(lw_ok_in (List.mem_of_getElem? (i := 1898) (by decide +kernel)) rfl), (lw_ok_in (List.mem_of_getElem? (i := 123) (by decide +kernel)) rfl), by decide +kernel⟩
theorem cbX12_layPlan : a_cb pX12_layPlan 1 := ⟨(lw_ok_in (List.mem_of_getElem? (i := 1921) (by decide +kernel)) rfl), (lw_ok_in (List.mem_of_getElem? (i := 123) (by decide +kernel)) rfl), by decide +kernel⟩
theorem cbX12_isBarred : a_cb pX12_isBarred 1 := ⟨(lw_ok_in (List.mem_of_getElem? (i := 1886) (by decide +kernel)) rfl), (lw_ok_in (List.mem_of_getElem? (i := 123) (by decide +kernel)) rfl), by decide +kernel⟩
theorem cbX12_costOf : a_cb pX12_costOf 1 := ⟨(lw_ok_in (List.mem_of_getElem? (i := 1882) (by decide +kernel)) rfl), (lw_ok_in (List.mem_of_getElem? (i := 123) (by decide +kernel)) rfl), by decide +kernel⟩
theorem cbX12_cost : a_cb pX12_cost 1 := ⟨(lw_ok_in (List.mem_of_getElem? (i := 1878) (by decide +kernel)) rfl), (lw_ok_in (List.mem_of_getElem? (i := 123) (by decide +kernel)) rfl), by decide +kernel⟩
theorem cbX12_sacksOf : a_cb pX12_sacksOf 1 := ⟨(lw_ok_in (List.mem_of_getElem? (i := 1917) (by decide +kernel)) rfl), (lw_ok_in (List.mem_of_getElem? (i := 123) (by decide +kernel)) rfl), by decide +kernel⟩
theorem cbX12_bought : a_cb pX12_bought 2 := ⟨(lw_ok_in (List.mem_of_getElem? (i := 1913) (by decide +kernel)) rfl), (lw_ok_in (List.mem_of_getElem? (i := 123) (by decide +kernel)) rfl), by decide +kernel⟩
theorem cbX12_totalOf : a_cb pX12_totalOf 1 := ⟨(lw_ok_in (List.mem_of_getElem? (i := 1929) (by decide +kernel)) rfl), (lw_ok_in (List.mem_of_getElem? (i := 123) (by decide +kernel)) rfl), by decide +kernel⟩
theorem cbX12_parted : a_cb pX12_parted 3 := ⟨(lw_ok_in (List.mem_of_getElem? (i := 1933) (by decide +kernel)) rfl), (lw_ok_in (List.mem_of_getElem? (i := 123) (by decide +kernel)) rfl), by decide +kernel⟩
theorem cbX12_weigh : a_cb pX12_weigh 1 := ⟨(lw_ok_in (List.mem_of_getElem? (i := 1937) (by decide +kernel)) rfl), (lw_ok_in (List.mem_of_getElem? (i := 123) (by decide +kernel)) rfl), by decide +kernel⟩
theorem cbX12_groupAt : a_cb pX12_groupAt 2 := ⟨(lw_ok_in (List.mem_of_getElem? (i := 1950) (by decide +kernel)) rfl), (lw_ok_in (List.mem_of_getElem? (i := 123) (by decide +kernel)) rfl), by decide +kernel⟩
theorem cbX12_least : a_cb pX12_least 1 := ⟨(lw_ok_in (List.mem_of_getElem? (i := 1925) (by decide +kernel)) rfl), (lw_ok_in (List.mem_of_getElem? (i := 123) (by decide +kernel)) rfl), by decide +kernel⟩
theorem cbX12_group : a_cb pX12_group 2 := ⟨(lw_ok_in (List.mem_of_getElem? (i := 1941) (by decide +kernel)) rfl), (lw_ok_in (List.mem_of_getElem? (i := 123) (by decide +kernel)) rfl), by decide +kernel⟩
theorem cbX12_come : a_cb pX12_come 2 := ⟨(lw_ok_in (List.mem_of_getElem? (i := 1946) (by decide +kernel)) rfl), (lw_ok_in (List.mem_of_getElem? (i := 123) (by decide +kernel)) rfl), by decide +kernel⟩
theorem cbX12_join : a_cb pX12_join 3 := ⟨(lw_ok_in (List.mem_of_getElem? (i := 1954) (by decide +kernel)) rfl), (lw_ok_in (List.mem_of_getElem? (i := 123) (by decide +kernel)) rfl), by decide +kernel⟩
theorem cbX12_upper : a_cb pX12_upper 0 := ⟨(lw_ok_in (List.mem_of_getElem? (i := 1960) (by decide +kernel)) rfl), (lw_ok_in (List.mem_of_getElem? (i := 123) (by decide +kernel)) rfl), by decide +kernel⟩
theorem cbX12_lower : a_cb pX12_lower 0 := ⟨(lw_ok_in (List.mem_of_getElem? (i := 1964) (by decide +kernel)) rfl), (lw_ok_in (List.mem_of_getElem? (i := 123) (by decide +kernel)) rfl), by decide +kernel⟩
theorem cbX12_fraction : a_cb pX12_fraction 2 := ⟨(lw_ok_in (List.mem_of_getElem? (i := 2022) (by decide +kernel)) rfl), (lw_ok_in (List.mem_of_getElem? (i := 123) (by decide +kernel)) rfl), by decide +kernel⟩
theorem cbX12_pay : a_cb pX12_pay 2 := ⟨(lw_ok_in (List.mem_of_getElem? (i := 1968) (by decide +kernel)) rfl), (lw_ok_in (List.mem_of_getElem? (i := 123) (by decide +kernel)) rfl), by decide +kernel⟩
theorem cbX12_by : a_cb pX12_by 1 := ⟨(lw_ok_in (List.mem_of_getElem? (i := 1972) (by decide +kernel)) rfl), (lw_ok_in (List.mem_of_getElem? (i := 123) (by decide +kernel)) rfl), by decide +kernel⟩
theorem cbX12_paid : a_cb pX12_paid 1 := ⟨(lw_ok_in (List.mem_of_getElem? (i := 1981) (by decide +kernel)) rfl), (lw_ok_in (List.mem_of_getElem? (i := 123) (by decide +kernel)) rfl), by decide +kernel⟩
theorem cbX12_leaves : a_cb pX12_leaves 2 := ⟨(lw_ok_in (List.mem_of_getElem? (i := 1985) (by decide +kernel)) rfl), (lw_ok_in (List.mem_of_getElem? (i := 123) (by decide +kernel)) rfl), by decide +kernel⟩
theorem cbX12_judge : a_cb pX12_judge 1 := ⟨(lw_ok_in (List.mem_of_getElem? (i := 1977) (by decide +kernel)) rfl), (lw_ok_in (List.mem_of_getElem? (i := 123) (by decide +kernel)) rfl), by decide +kernel⟩
theorem cbX12_isFew : a_cb pX12_isFew 1 := ⟨(lw_ok_in (List.mem_of_getElem? (i := 1993) (by decide +kernel)) rfl), (lw_ok_in (List.mem_of_getElem? (i := 123) (by decide +kernel)) rfl), by decide +kernel⟩
theorem cbX12_table : a_cb pX12_table 1 := ⟨(lw_ok_in (List.mem_of_getElem? (i := 1998) (by decide +kernel)) rfl), (lw_ok_in (List.mem_of_getElem? (i := 123) (by decide +kernel)) rfl), by decide +kernel⟩
theorem cbX12_aim : a_cb pX12_aim 2 := ⟨(lw_ok_in (List.mem_of_getElem? (i := 2002) (by decide +kernel)) rfl), (lw_ok_in (List.mem_of_getElem? (i := 123) (by decide +kernel)) rfl), by decide +kernel⟩
theorem cbX12_comesIn : a_cb pX12_comesIn 1 := ⟨(lw_ok_in (List.mem_of_getElem? (i := 2010) (by decide +kernel)) rfl), (lw_ok_in (List.mem_of_getElem? (i := 123) (by decide +kernel)) rfl), by decide +kernel⟩
theorem cbX12_goesOut : a_cb pX12_goesOut 1 := ⟨(lw_ok_in (List.mem_of_getElem? (i := 2014) (by decide +kernel)) rfl), (lw_ok_in (List.mem_of_getElem? (i := 123) (by decide +kernel)) rfl), by decide +kernel⟩
theorem cbX12_turns : a_cb pX12_turns 2 := ⟨(lw_ok_in (List.mem_of_getElem? (i := 2018) (by decide +kernel)) rfl), (lw_ok_in (List.mem_of_getElem? (i := 123) (by decide +kernel)) rfl), by decide +kernel⟩
theorem cbX12_solve : a_cb pX12_solve 0 := ⟨(lw_ok_in (List.mem_of_getElem? (i := 2006) (by decide +kernel)) rfl), (lw_ok_in (List.mem_of_getElem? (i := 123) (by decide +kernel)) rfl), by decide +kernel⟩
theorem cbX12_can : a_cb pX12_can 1 := ⟨(lw_ok_in (List.mem_of_getElem? (i := 1989) (by decide +kernel)) rfl), (lw_ok_in (List.mem_of_getElem? (i := 123) (by decide +kernel)) rfl), by decide +kernel⟩
theorem cbX12_holdsSome : a_cb pX12_holdsSome 1 := ⟨(lw_ok_in (List.mem_of_getElem? (i := 2034) (by decide +kernel)) rfl), (lw_ok_in (List.mem_of_getElem? (i := 123) (by decide +kernel)) rfl), by decide +kernel⟩
theorem cbX12_columnOf : a_cb pX12_columnOf 1 := ⟨(lw_ok_in (List.mem_of_getElem? (i := 2038) (by decide +kernel)) rfl), (lw_ok_in (List.mem_of_getElem? (i := 123) (by decide +kernel)) rfl), by decide +kernel⟩
theorem cbX12_isOf : a_cb pX12_isOf 2 := ⟨(lw_ok_in (List.mem_of_getElem? (i := 2030) (by decide +kernel)) rfl), (lw_ok_in (List.mem_of_getElem? (i := 123) (by decide +kernel)) rfl), by decide +kernel⟩
theorem cbX12_share : a_cb pX12_share 3 := ⟨(lw_ok_in (List.mem_of_getElem? (i := 2026) (by decide +kernel)) rfl), (lw_ok_in (List.mem_of_getElem? (i := 123) (by decide +kernel)) rfl), by decide +kernel⟩
theorem cbX12_row : a_cb pX12_row 2 := ⟨(lw_ok_in (List.mem_of_getElem? (i := 2042) (by decide +kernel)) rfl), (lw_ok_in (List.mem_of_getElem? (i := 123) (by decide +kernel)) rfl), by decide +kernel⟩
theorem cbX12_proof : a_cb pX12_proof 3 := ⟨(lw_ok_in (List.mem_of_getElem? (i := 2046) (by decide +kernel)) rfl), (lw_ok_in (List.mem_of_getElem? (i := 123) (by decide +kernel)) rfl), by decide +kernel⟩
theorem cbX12_weights : a_cb pX12_weights 1 := ⟨(lw_ok_in (List.mem_of_getElem? (i := 2058) (by decide +kernel)) rfl), (lw_ok_in (List.mem_of_getElem? (i := 123) (by decide +kernel)) rfl), by decide +kernel⟩
theorem cbX12_ruled : a_cb pX12_ruled 2 := ⟨(lw_ok_in (List.mem_of_getElem? (i := 2054) (by decide +kernel)) rfl), (lw_ok_in (List.mem_of_getElem? (i := 123) (by decide +kernel)) rfl), by decide +kernel⟩
theorem cbX12_keeps : a_cb pX12_keeps 1 := ⟨(lw_ok_in (List.mem_of_getElem? (i := 2062) (by decide +kernel)) rfl), (lw_ok_in (List.mem_of_getElem? (i := 123) (by decide +kernel)) rfl), by decide +kernel⟩
theorem cbX12_doubt : a_cb pX12_doubt 3 := ⟨(lw_ok_in (List.mem_of_getElem? (i := 2066) (by decide +kernel)) rfl), (lw_ok_in (List.mem_of_getElem? (i := 123) (by decide +kernel)) rfl), by decide +kernel⟩
theorem cbX12_layLikely : a_cb pX12_layLikely 1 := ⟨(lw_ok_in (List.mem_of_getElem? (i := 2075) (by decide +kernel)) rfl), (lw_ok_in (List.mem_of_getElem? (i := 123) (by decide +kernel)) rfl), by decide +kernel⟩
theorem cbX12_adds : a_cb pX12_adds 2 := ⟨(lw_ok_in (List.mem_of_getElem? (i := 2079) (by decide +kernel)) rfl), (lw_ok_in (List.mem_of_getElem? (i := 123) (by decide +kernel)) rfl), by decide +kernel⟩
theorem cbX12_riskOf : a_cb pX12_riskOf 1 := ⟨(lw_ok_in (List.mem_of_getElem? (i := 2083) (by decide +kernel)) rfl), (lw_ok_in (List.mem_of_getElem? (i := 123) (by decide +kernel)) rfl), by decide +kernel⟩
theorem cbX12_risk : a_cb pX12_risk 2 := ⟨(lw_ok_in (List.mem_of_getElem? (i := 2071) (by decide +kernel)) rfl), (lw_ok_in (List.mem_of_getElem? (i := 123) (by decide +kernel)) rfl), by decide +kernel⟩
theorem cbX12_before : a_cb pX12_before 1 := ⟨(lw_ok_in (List.mem_of_getElem? (i := 2087) (by decide +kernel)) rfl), (lw_ok_in (List.mem_of_getElem? (i := 123) (by decide +kernel)) rfl), by decide +kernel⟩
theorem cbX12_gain : a_cb pX12_gain 5 := ⟨(lw_ok_in (List.mem_of_getElem? (i := 2096) (by decide +kernel)) rfl), (lw_ok_in (List.mem_of_getElem? (i := 123) (by decide +kernel)) rfl), by decide +kernel⟩
theorem cbX12_seller : a_cb pX12_seller 4 := ⟨(lw_ok_in (List.mem_of_getElem? (i := 2091) (by decide +kernel)) rfl), (lw_ok_in (List.mem_of_getElem? (i := 123) (by decide +kernel)) rfl), by decide +kernel⟩
theorem cbX12_isTray : a_cb pX12_isTray 1 := ⟨(lw_ok_in (List.mem_of_getElem? (i := 2049) (by decide +kernel)) rfl), (lw_ok_in (List.mem_of_getElem? (i := 123) (by decide +kernel)) rfl), by decide +kernel⟩
theorem cbX12_tray : a_cb pX12_tray 3 := ⟨(lw_ok_in (List.mem_of_getElem? (i := 2100) (by decide +kernel)) rfl), (lw_ok_in (List.mem_of_getElem? (i := 123) (by decide +kernel)) rfl), by decide +kernel⟩
theorem cbX12_write : a_cb pX12_write 3 := ⟨(lw_ok_in (List.mem_of_getElem? (i := 2105) (by decide +kernel)) rfl), (lw_ok_in (List.mem_of_getElem? (i := 123) (by decide +kernel)) rfl), by decide +kernel⟩
theorem cbX12_take : a_cb pX12_take 2 := ⟨(lw_ok_in (List.mem_of_getElem? (i := 2109) (by decide +kernel)) rfl), (lw_ok_in (List.mem_of_getElem? (i := 123) (by decide +kernel)) rfl), by decide +kernel⟩
theorem cbX12_image : a_cb pX12_image 1 := ⟨(lw_ok_in (List.mem_of_getElem? (i := 2113) (by decide +kernel)) rfl), (lw_ok_in (List.mem_of_getElem? (i := 123) (by decide +kernel)) rfl), by decide +kernel⟩
theorem cbX12_restore : a_cb pX12_restore 1 := ⟨(lw_ok_in (List.mem_of_getElem? (i := 2117) (by decide +kernel)) rfl), (lw_ok_in (List.mem_of_getElem? (i := 123) (by decide +kernel)) rfl), by decide +kernel⟩
theorem cbX12_count : a_cb pX12_count 1 := ⟨(lw_ok_in (List.mem_of_getElem? (i := 2121) (by decide +kernel)) rfl), (lw_ok_in (List.mem_of_getElem? (i := 123) (by decide +kernel)) rfl), by decide +kernel⟩
theorem cbJ6_numberOfTrailingZeros_0f7a4 : a_cb pJ6_numberOfTrailingZeros_0f7a4 1 := ⟨(lw_ok_in (List.mem_of_getElem? (i := 392) (by decide +kernel)) rfl), (lw_ok_in (List.mem_of_getElem? (i := 118) (by decide +kernel)) rfl), by decide +kernel⟩
theorem cbJ6_bitCount_0f7a4 : a_cb pJ6_bitCount_0f7a4 1 := ⟨(lw_ok_in (List.mem_of_getElem? (i := 1062) (by decide +kernel)) rfl), (lw_ok_in (List.mem_of_getElem? (i := 118) (by decide +kernel)) rfl), by decide +kernel⟩
theorem cbJ0_length_8abf5 : a_cb pJ0_length_8abf5 0 := ⟨(lw_ok_in (List.mem_of_getElem? (i := 880) (by decide +kernel)) rfl), (lw_ok_in (List.mem_of_getElem? (i := 132) (by decide +kernel)) rfl), by decide +kernel⟩
theorem cbJ0_charAt_5068e : a_cb pJ0_charAt_5068e 1 := ⟨(lw_ok_in (List.mem_of_getElem? (i := 890) (by decide +kernel)) rfl), (lw_ok_in (List.mem_of_getElem? (i := 132) (by decide +kernel)) rfl), by decide +kernel⟩
theorem cbJ7_fill_d0a16 : a_cb pJ7_fill_d0a16 2 := ⟨(lw_ok_in (List.mem_of_getElem? (i := 1243) (by decide +kernel)) rfl), (lw_ok_in (List.mem_of_getElem? (i := 116) (by decide +kernel)) rfl), by decide +kernel⟩
theorem cbJ7_fill_53178 : a_cb pJ7_fill_53178 2 := ⟨(lw_ok_in (List.mem_of_getElem? (i := 363) (by decide +kernel)) rfl), (lw_ok_in (List.mem_of_getElem? (i := 116) (by decide +kernel)) rfl), by decide +kernel⟩
