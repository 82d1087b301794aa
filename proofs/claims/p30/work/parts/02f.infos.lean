/-! methods, links, fields, constants: by program out of the tables -/
def mJ6_bitCount_0f7a4 : ZY := (yJ6_bitCount_0f7a4, cJ6_bitCount_0f7a4, 1, (some .int))
theorem yy_J6_bitCount_0f7a4 : zz_YS mJ6_bitCount_0f7a4 1 := ⟨⟨zz_in (i := 14) (by decide +kernel) rfl, zz_in (i := 432) (by decide +kernel) rfl, ⟨by decide +kernel, by decide +kernel, by decide +kernel⟩, by decide⟩, zz_in (i := 431) (by decide +kernel) rfl⟩
def mJ9_abs_0f7a4 : ZY := (yJ9_abs_0f7a4, cJ9_abs_0f7a4, 1, (some .int))
theorem yy_J9_abs_0f7a4 : zz_YS mJ9_abs_0f7a4 1 := ⟨⟨zz_in (i := 13) (by decide +kernel) rfl, zz_in (i := 318) (by decide +kernel) rfl, ⟨by decide +kernel, by decide +kernel, by decide +kernel⟩, by decide⟩, zz_in (i := 317) (by decide +kernel) rfl⟩
def mJ9_min_7cf53 : ZY := (yJ9_min_7cf53, cJ9_min_7cf53, 2, (some .int))
theorem yy_J9_min_7cf53 : zz_YS mJ9_min_7cf53 2 := ⟨⟨zz_in (i := 13) (by decide +kernel) rfl, zz_in (i := 277) (by decide +kernel) rfl, ⟨by decide +kernel, by decide +kernel, by decide +kernel⟩, by decide⟩, zz_in (i := 276) (by decide +kernel) rfl⟩
def mL_act : ZY := (yL_act, cL_act, 4, (some .int))
theorem yy_L_act : zz_YS mL_act 2 := ⟨⟨zz_in (i := 3) (by decide +kernel) rfl, zz_in (i := 530) (by decide +kernel) rfl, ⟨by decide +kernel, by decide +kernel, by decide +kernel⟩, by decide⟩, zz_in (i := 529) (by decide +kernel) rfl⟩
def mL_addsUp : ZY := (yL_addsUp, cL_addsUp, 7, (some .boolean))
theorem yy_L_addsUp : zz_YS mL_addsUp 1 := ⟨⟨zz_in (i := 3) (by decide +kernel) rfl, zz_in (i := 565) (by decide +kernel) rfl, ⟨by decide +kernel, by decide +kernel, by decide +kernel⟩, by decide⟩, zz_in (i := 564) (by decide +kernel) rfl⟩
def mL_cell : ZY := (yL_cell, cL_cell, 2, (some .int))
theorem yy_L_cell : zz_YS mL_cell 2 := ⟨⟨zz_in (i := 3) (by decide +kernel) rfl, zz_in (i := 504) (by decide +kernel) rfl, ⟨by decide +kernel, by decide +kernel, by decide +kernel⟩, by decide⟩, zz_in (i := 503) (by decide +kernel) rfl⟩
def mL_digest : ZY := (yL_digest, cL_digest, 4, (some .long))
theorem yy_L_digest : zz_YS mL_digest 1 := ⟨⟨zz_in (i := 3) (by decide +kernel) rfl, zz_in (i := 511) (by decide +kernel) rfl, ⟨by decide +kernel, by decide +kernel, by decide +kernel⟩, by decide⟩, zz_in (i := 510) (by decide +kernel) rfl⟩
def mL_isDial : ZY := (yL_isDial, cL_isDial, 17, (some .boolean))
theorem yy_L_isDial : zz_YS mL_isDial 3 := ⟨⟨zz_in (i := 3) (by decide +kernel) rfl, zz_in (i := 569) (by decide +kernel) rfl, ⟨by decide +kernel, by decide +kernel, by decide +kernel⟩, by decide⟩, zz_in (i := 568) (by decide +kernel) rfl⟩
def mL_isError : ZY := (yL_isError, cL_isError, 1, (some .boolean))
theorem yy_L_isError : zz_YS mL_isError 1 := ⟨⟨zz_in (i := 3) (by decide +kernel) rfl, zz_in (i := 560) (by decide +kernel) rfl, ⟨by decide +kernel, by decide +kernel, by decide +kernel⟩, by decide⟩, zz_in (i := 559) (by decide +kernel) rfl⟩
def mL_low : ZY := (yL_low, cL_low, 2, (some .int))
theorem yy_L_low : zz_YS mL_low 2 := ⟨⟨zz_in (i := 3) (by decide +kernel) rfl, zz_in (i := 507) (by decide +kernel) rfl, ⟨by decide +kernel, by decide +kernel, by decide +kernel⟩, by decide⟩, zz_in (i := 506) (by decide +kernel) rfl⟩
def mX0_copyFrom : ZY := (yX0_copyFrom, cX0_copyFrom, 2, none)
theorem yy_X0_copyFrom : zz_YV mX0_copyFrom 1 := ⟨⟨zz_in (i := 8) (by decide +kernel) rfl, zz_in (i := 249) (by decide +kernel) rfl, ⟨by decide +kernel, by decide +kernel, by decide +kernel⟩, by decide⟩, zz_in (i := 247) (by decide +kernel) rfl, zz_in (i := 248) (by decide +kernel) rfl⟩
def mX0_init : ZY := (yX0_init, cX0_init, 1, none)
theorem yy_X0_init : zz_YI mX0_init 0 := ⟨⟨zz_in (i := 8) (by decide +kernel) rfl, zz_in (i := 60) (by decide +kernel) rfl, ⟨by decide +kernel, by decide +kernel, by decide +kernel⟩, by decide⟩, zz_in (i := 59) (by decide +kernel) rfl, rfl, rfl⟩
def mX0_isByWallNow : ZY := (yX0_isByWallNow, cX0_isByWallNow, 1, (some .boolean))
theorem yy_X0_isByWallNow : zz_YV mX0_isByWallNow 0 := ⟨⟨zz_in (i := 8) (by decide +kernel) rfl, zz_in (i := 351) (by decide +kernel) rfl, ⟨by decide +kernel, by decide +kernel, by decide +kernel⟩, by decide⟩, zz_in (i := 349) (by decide +kernel) rfl, zz_in (i := 350) (by decide +kernel) rfl⟩
def mX0_weight : ZY := (yX0_weight, cX0_weight, 1, (some .int))
theorem yy_X0_weight : zz_YV mX0_weight 0 := ⟨⟨zz_in (i := 8) (by decide +kernel) rfl, zz_in (i := 404) (by decide +kernel) rfl, ⟨by decide +kernel, by decide +kernel, by decide +kernel⟩, by decide⟩, zz_in (i := 402) (by decide +kernel) rfl, zz_in (i := 403) (by decide +kernel) rfl⟩
def mX1_compareReadings : ZY := (yX1_compareReadings, cX1_compareReadings, 5, none)
theorem yy_X1_compareReadings : zz_YV mX1_compareReadings 0 := ⟨⟨zz_in (i := 11) (by decide +kernel) rfl, zz_in (i := 395) (by decide +kernel) rfl, ⟨by decide +kernel, by decide +kernel, by decide +kernel⟩, by decide⟩, zz_in (i := 393) (by decide +kernel) rfl, zz_in (i := 394) (by decide +kernel) rfl⟩
def mX1_countLines : ZY := (yX1_countLines, cX1_countLines, 3, (some .int))
theorem yy_X1_countLines : zz_YV mX1_countLines 0 := ⟨⟨zz_in (i := 11) (by decide +kernel) rfl, zz_in (i := 386) (by decide +kernel) rfl, ⟨by decide +kernel, by decide +kernel, by decide +kernel⟩, by decide⟩, zz_in (i := 384) (by decide +kernel) rfl, zz_in (i := 385) (by decide +kernel) rfl⟩
def mX1_firstLine : ZY := (yX1_firstLine, cX1_firstLine, 2, (some .int))
theorem yy_X1_firstLine : zz_YV mX1_firstLine 0 := ⟨⟨zz_in (i := 11) (by decide +kernel) rfl, zz_in (i := 481) (by decide +kernel) rfl, ⟨by decide +kernel, by decide +kernel, by decide +kernel⟩, by decide⟩, zz_in (i := 479) (by decide +kernel) rfl, zz_in (i := 480) (by decide +kernel) rfl⟩
def mX1_init : ZY := (yX1_init, cX1_init, 1, none)
theorem yy_X1_init : zz_YI mX1_init 0 := ⟨⟨zz_in (i := 11) (by decide +kernel) rfl, zz_in (i := 196) (by decide +kernel) rfl, ⟨by decide +kernel, by decide +kernel, by decide +kernel⟩, by decide⟩, zz_in (i := 195) (by decide +kernel) rfl, rfl, rfl⟩
def mX1_lastLine : ZY := (yX1_lastLine, cX1_lastLine, 2, (some .int))
theorem yy_X1_lastLine : zz_YV mX1_lastLine 0 := ⟨⟨zz_in (i := 11) (by decide +kernel) rfl, zz_in (i := 485) (by decide +kernel) rfl, ⟨by decide +kernel, by decide +kernel, by decide +kernel⟩, by decide⟩, zz_in (i := 483) (by decide +kernel) rfl, zz_in (i := 484) (by decide +kernel) rfl⟩
def mX1_lay : ZY := (yX1_lay, cX1_lay, 17, none)
theorem yy_X1_lay : zz_YV mX1_lay 3 := ⟨⟨zz_in (i := 11) (by decide +kernel) rfl, zz_in (i := 365) (by decide +kernel) rfl, ⟨by decide +kernel, by decide +kernel, by decide +kernel⟩, by decide⟩, zz_in (i := 363) (by decide +kernel) rfl, zz_in (i := 364) (by decide +kernel) rfl⟩
def mX1_offsetAt : ZY := (yX1_offsetAt, cX1_offsetAt, 2, (some .int))
theorem yy_X1_offsetAt : zz_YV mX1_offsetAt 1 := ⟨⟨zz_in (i := 11) (by decide +kernel) rfl, zz_in (i := 390) (by decide +kernel) rfl, ⟨by decide +kernel, by decide +kernel, by decide +kernel⟩, by decide⟩, zz_in (i := 388) (by decide +kernel) rfl, zz_in (i := 389) (by decide +kernel) rfl⟩
def mX1_offsetOfShadow : ZY := (yX1_offsetOfShadow, cX1_offsetOfShadow, 6, (some .int))
theorem yy_X1_offsetOfShadow : zz_YS mX1_offsetOfShadow 2 := ⟨⟨zz_in (i := 11) (by decide +kernel) rfl, zz_in (i := 377) (by decide +kernel) rfl, ⟨by decide +kernel, by decide +kernel, by decide +kernel⟩, by decide⟩, zz_in (i := 376) (by decide +kernel) rfl⟩
def mX1_readingByLines : ZY := (yX1_readingByLines, cX1_readingByLines, 5, (some .int))
theorem yy_X1_readingByLines : zz_YV mX1_readingByLines 1 := ⟨⟨zz_in (i := 11) (by decide +kernel) rfl, zz_in (i := 399) (by decide +kernel) rfl, ⟨by decide +kernel, by decide +kernel, by decide +kernel⟩, by decide⟩, zz_in (i := 397) (by decide +kernel) rfl, zz_in (i := 398) (by decide +kernel) rfl⟩
def mX1_readingByShadow : ZY := (yX1_readingByShadow, cX1_readingByShadow, 7, (some .int))
theorem yy_X1_readingByShadow : zz_YV mX1_readingByShadow 1 := ⟨⟨zz_in (i := 11) (by decide +kernel) rfl, zz_in (i := 583) (by decide +kernel) rfl, ⟨by decide +kernel, by decide +kernel, by decide +kernel⟩, by decide⟩, zz_in (i := 581) (by decide +kernel) rfl, zz_in (i := 582) (by decide +kernel) rfl⟩
def mX2_init : ZY := (yX2_init, cX2_init, 2, none)
theorem yy_X2_init : zz_YI mX2_init 0 := ⟨⟨zz_in (i := 9) (by decide +kernel) rfl, zz_in (i := 155) (by decide +kernel) rfl, ⟨by decide +kernel, by decide +kernel, by decide +kernel⟩, by decide⟩, zz_in (i := 154) (by decide +kernel) rfl, rfl, rfl⟩
def mX2_keepMarked : ZY := (yX2_keepMarked, cX2_keepMarked, 1, none)
theorem yy_X2_keepMarked : zz_YV mX2_keepMarked 0 := ⟨⟨zz_in (i := 9) (by decide +kernel) rfl, zz_in (i := 274) (by decide +kernel) rfl, ⟨by decide +kernel, by decide +kernel, by decide +kernel⟩, by decide⟩, zz_in (i := 272) (by decide +kernel) rfl, zz_in (i := 273) (by decide +kernel) rfl⟩
def mX2_mark : ZY := (yX2_mark, cX2_mark, 2, none)
theorem yy_X2_mark : zz_YV mX2_mark 1 := ⟨⟨zz_in (i := 9) (by decide +kernel) rfl, zz_in (i := 233) (by decide +kernel) rfl, ⟨by decide +kernel, by decide +kernel, by decide +kernel⟩, by decide⟩, zz_in (i := 231) (by decide +kernel) rfl, zz_in (i := 232) (by decide +kernel) rfl⟩
def mX2_returnToMarked : ZY := (yX2_returnToMarked, cX2_returnToMarked, 2, none)
theorem yy_X2_returnToMarked : zz_YV mX2_returnToMarked 1 := ⟨⟨zz_in (i := 9) (by decide +kernel) rfl, zz_in (i := 447) (by decide +kernel) rfl, ⟨by decide +kernel, by decide +kernel, by decide +kernel⟩, by decide⟩, zz_in (i := 445) (by decide +kernel) rfl, zz_in (i := 446) (by decide +kernel) rfl⟩
def mX2_stepBack : ZY := (yX2_stepBack, cX2_stepBack, 2, none)
theorem yy_X2_stepBack : zz_YV mX2_stepBack 1 := ⟨⟨zz_in (i := 9) (by decide +kernel) rfl, zz_in (i := 443) (by decide +kernel) rfl, ⟨by decide +kernel, by decide +kernel, by decide +kernel⟩, by decide⟩, zz_in (i := 441) (by decide +kernel) rfl, zz_in (i := 442) (by decide +kernel) rfl⟩
def mX3_init : ZY := (yX3_init, cX3_init, 1, none)
theorem yy_X3_init : zz_YI mX3_init 0 := ⟨⟨zz_in (i := 10) (by decide +kernel) rfl, zz_in (i := 175) (by decide +kernel) rfl, ⟨by decide +kernel, by decide +kernel, by decide +kernel⟩, by decide⟩, zz_in (i := 174) (by decide +kernel) rfl, rfl, rfl⟩
def mX4_acceptedOnes : ZY := (yX4_acceptedOnes, cX4_acceptedOnes, 3, (some .int))
theorem yy_X4_acceptedOnes : zz_YV mX4_acceptedOnes 0 := ⟨⟨zz_in (i := 6) (by decide +kernel) rfl, zz_in (i := 424) (by decide +kernel) rfl, ⟨by decide +kernel, by decide +kernel, by decide +kernel⟩, by decide⟩, zz_in (i := 422) (by decide +kernel) rfl, zz_in (i := 423) (by decide +kernel) rfl⟩
def mX4_castMelt : ZY := (yX4_castMelt, cX4_castMelt, 3, (some .int))
theorem yy_X4_castMelt : zz_YV mX4_castMelt 0 := ⟨⟨zz_in (i := 6) (by decide +kernel) rfl, zz_in (i := 420) (by decide +kernel) rfl, ⟨by decide +kernel, by decide +kernel, by decide +kernel⟩, by decide⟩, zz_in (i := 418) (by decide +kernel) rfl, zz_in (i := 419) (by decide +kernel) rfl⟩
def mX4_changeCorrection : ZY := (yX4_changeCorrection, cX4_changeCorrection, 4, (some .int))
theorem yy_X4_changeCorrection : zz_YV mX4_changeCorrection 2 := ⟨⟨zz_in (i := 6) (by decide +kernel) rfl, zz_in (i := 256) (by decide +kernel) rfl, ⟨by decide +kernel, by decide +kernel, by decide +kernel⟩, by decide⟩, zz_in (i := 254) (by decide +kernel) rfl, zz_in (i := 255) (by decide +kernel) rfl⟩
def mX4_changeSetting : ZY := (yX4_changeSetting, cX4_changeSetting, 4, (some .int))
theorem yy_X4_changeSetting : zz_YV mX4_changeSetting 2 := ⟨⟨zz_in (i := 6) (by decide +kernel) rfl, zz_in (i := 285) (by decide +kernel) rfl, ⟨by decide +kernel, by decide +kernel, by decide +kernel⟩, by decide⟩, zz_in (i := 283) (by decide +kernel) rfl, zz_in (i := 284) (by decide +kernel) rfl⟩
def mX4_commissionsForWall : ZY := (yX4_commissionsForWall, cX4_commissionsForWall, 4, (some .int))
theorem yy_X4_commissionsForWall : zz_YV mX4_commissionsForWall 1 := ⟨⟨zz_in (i := 6) (by decide +kernel) rfl, zz_in (i := 523) (by decide +kernel) rfl, ⟨by decide +kernel, by decide +kernel, by decide +kernel⟩, by decide⟩, zz_in (i := 521) (by decide +kernel) rfl, zz_in (i := 522) (by decide +kernel) rfl⟩
def mX4_commissionsInState : ZY := (yX4_commissionsInState, cX4_commissionsInState, 4, (some .int))
theorem yy_X4_commissionsInState : zz_YV mX4_commissionsInState 1 := ⟨⟨zz_in (i := 6) (by decide +kernel) rfl, zz_in (i := 459) (by decide +kernel) rfl, ⟨by decide +kernel, by decide +kernel, by decide +kernel⟩, by decide⟩, zz_in (i := 457) (by decide +kernel) rfl, zz_in (i := 458) (by decide +kernel) rfl⟩
def mX4_conclude : ZY := (yX4_conclude, cX4_conclude, 4, (some .int))
theorem yy_X4_conclude : zz_YV mX4_conclude 2 := ⟨⟨zz_in (i := 6) (by decide +kernel) rfl, zz_in (i := 410) (by decide +kernel) rfl, ⟨by decide +kernel, by decide +kernel, by decide +kernel⟩, by decide⟩, zz_in (i := 408) (by decide +kernel) rfl, zz_in (i := 409) (by decide +kernel) rfl⟩
def mX4_copyFrom : ZY := (yX4_copyFrom, cX4_copyFrom, 3, none)
theorem yy_X4_copyFrom : zz_YV mX4_copyFrom 1 := ⟨⟨zz_in (i := 6) (by decide +kernel) rfl, zz_in (i := 241) (by decide +kernel) rfl, ⟨by decide +kernel, by decide +kernel, by decide +kernel⟩, by decide⟩, zz_in (i := 239) (by decide +kernel) rfl, zz_in (i := 240) (by decide +kernel) rfl⟩
def mX4_declinationOfDial : ZY := (yX4_declinationOfDial, cX4_declinationOfDial, 3, (some .int))
theorem yy_X4_declinationOfDial : zz_YV mX4_declinationOfDial 1 := ⟨⟨zz_in (i := 6) (by decide +kernel) rfl, zz_in (i := 346) (by decide +kernel) rfl, ⟨by decide +kernel, by decide +kernel, by decide +kernel⟩, by decide⟩, zz_in (i := 344) (by decide +kernel) rfl, zz_in (i := 345) (by decide +kernel) rfl⟩
def mX4_declinationOfWall : ZY := (yX4_declinationOfWall, cX4_declinationOfWall, 2, (some .int))
theorem yy_X4_declinationOfWall : zz_YV mX4_declinationOfWall 1 := ⟨⟨zz_in (i := 6) (by decide +kernel) rfl, zz_in (i := 355) (by decide +kernel) rfl, ⟨by decide +kernel, by decide +kernel, by decide +kernel⟩, by decide⟩, zz_in (i := 353) (by decide +kernel) rfl, zz_in (i := 354) (by decide +kernel) rfl⟩
def mX4_handOver : ZY := (yX4_handOver, cX4_handOver, 2, (some .int))
theorem yy_X4_handOver : zz_YV mX4_handOver 1 := ⟨⟨zz_in (i := 6) (by decide +kernel) rfl, zz_in (i := 546) (by decide +kernel) rfl, ⟨by decide +kernel, by decide +kernel, by decide +kernel⟩, by decide⟩, zz_in (i := 544) (by decide +kernel) rfl, zz_in (i := 545) (by decide +kernel) rfl⟩
def mX4_hasCommission : ZY := (yX4_hasCommission, cX4_hasCommission, 2, (some .boolean))
theorem yy_X4_hasCommission : zz_YV mX4_hasCommission 1 := ⟨⟨zz_in (i := 6) (by decide +kernel) rfl, zz_in (i := 338) (by decide +kernel) rfl, ⟨by decide +kernel, by decide +kernel, by decide +kernel⟩, by decide⟩, zz_in (i := 336) (by decide +kernel) rfl, zz_in (i := 337) (by decide +kernel) rfl⟩
def mX4_hasWall : ZY := (yX4_hasWall, cX4_hasWall, 2, (some .boolean))
theorem yy_X4_hasWall : zz_YV mX4_hasWall 1 := ⟨⟨zz_in (i := 6) (by decide +kernel) rfl, zz_in (i := 311) (by decide +kernel) rfl, ⟨by decide +kernel, by decide +kernel, by decide +kernel⟩, by decide⟩, zz_in (i := 309) (by decide +kernel) rfl, zz_in (i := 310) (by decide +kernel) rfl⟩
def mX4_init : ZY := (yX4_init, cX4_init, 2, none)
theorem yy_X4_init : zz_YI mX4_init 0 := ⟨⟨zz_in (i := 6) (by decide +kernel) rfl, zz_in (i := 33) (by decide +kernel) rfl, ⟨by decide +kernel, by decide +kernel, by decide +kernel⟩, by decide⟩, zz_in (i := 32) (by decide +kernel) rfl, rfl, rfl⟩
def mX4_knownWalls : ZY := (yX4_knownWalls, cX4_knownWalls, 3, (some .int))
theorem yy_X4_knownWalls : zz_YV mX4_knownWalls 0 := ⟨⟨zz_in (i := 6) (by decide +kernel) rfl, zz_in (i := 455) (by decide +kernel) rfl, ⟨by decide +kernel, by decide +kernel, by decide +kernel⟩, by decide⟩, zz_in (i := 453) (by decide +kernel) rfl, zz_in (i := 454) (by decide +kernel) rfl⟩
def mX4_measureWall : ZY := (yX4_measureWall, cX4_measureWall, 4, (some .int))
theorem yy_X4_measureWall : zz_YV mX4_measureWall 2 := ⟨⟨zz_in (i := 6) (by decide +kernel) rfl, zz_in (i := 307) (by decide +kernel) rfl, ⟨by decide +kernel, by decide +kernel, by decide +kernel⟩, by decide⟩, zz_in (i := 305) (by decide +kernel) rfl, zz_in (i := 306) (by decide +kernel) rfl⟩
def mX4_meltsNeeded : ZY := (yX4_meltsNeeded, cX4_meltsNeeded, 4, (some .int))
theorem yy_X4_meltsNeeded : zz_YV mX4_meltsNeeded 0 := ⟨⟨zz_in (i := 6) (by decide +kernel) rfl, zz_in (i := 501) (by decide +kernel) rfl, ⟨by decide +kernel, by decide +kernel, by decide +kernel⟩, by decide⟩, zz_in (i := 499) (by decide +kernel) rfl, zz_in (i := 500) (by decide +kernel) rfl⟩
def mX4_nextMelt : ZY := (yX4_nextMelt, cX4_nextMelt, 6, (some .int))
theorem yy_X4_nextMelt : zz_YV mX4_nextMelt 1 := ⟨⟨zz_in (i := 6) (by decide +kernel) rfl, zz_in (i := 428) (by decide +kernel) rfl, ⟨by decide +kernel, by decide +kernel, by decide +kernel⟩, by decide⟩, zz_in (i := 426) (by decide +kernel) rfl, zz_in (i := 427) (by decide +kernel) rfl⟩
def mX4_openCommission : ZY := (yX4_openCommission, cX4_openCommission, 6, (some .int))
theorem yy_X4_openCommission : zz_YV mX4_openCommission 4 := ⟨⟨zz_in (i := 6) (by decide +kernel) rfl, zz_in (i := 326) (by decide +kernel) rfl, ⟨by decide +kernel, by decide +kernel, by decide +kernel⟩, by decide⟩, zz_in (i := 324) (by decide +kernel) rfl, zz_in (i := 325) (by decide +kernel) rfl⟩
def mX4_openWall : ZY := (yX4_openWall, cX4_openWall, 2, (some .int))
theorem yy_X4_openWall : zz_YV mX4_openWall 0 := ⟨⟨zz_in (i := 6) (by decide +kernel) rfl, zz_in (i := 297) (by decide +kernel) rfl, ⟨by decide +kernel, by decide +kernel, by decide +kernel⟩, by decide⟩, zz_in (i := 295) (by decide +kernel) rfl, zz_in (i := 296) (by decide +kernel) rfl⟩
def mX4_reopen : ZY := (yX4_reopen, cX4_reopen, 3, (some .int))
theorem yy_X4_reopen : zz_YV mX4_reopen 2 := ⟨⟨zz_in (i := 6) (by decide +kernel) rfl, zz_in (i := 538) (by decide +kernel) rfl, ⟨by decide +kernel, by decide +kernel, by decide +kernel⟩, by decide⟩, zz_in (i := 536) (by decide +kernel) rfl, zz_in (i := 537) (by decide +kernel) rfl⟩
def mX5_copyFrom : ZY := (yX5_copyFrom, cX5_copyFrom, 3, none)
theorem yy_X5_copyFrom : zz_YV mX5_copyFrom 1 := ⟨⟨zz_in (i := 5) (by decide +kernel) rfl, zz_in (i := 237) (by decide +kernel) rfl, ⟨by decide +kernel, by decide +kernel, by decide +kernel⟩, by decide⟩, zz_in (i := 235) (by decide +kernel) rfl, zz_in (i := 236) (by decide +kernel) rfl⟩
def mX5_init : ZY := (yX5_init, cX5_init, 2, none)
theorem yy_X5_init : zz_YI mX5_init 0 := ⟨⟨zz_in (i := 5) (by decide +kernel) rfl, zz_in (i := 27) (by decide +kernel) rfl, ⟨by decide +kernel, by decide +kernel, by decide +kernel⟩, by decide⟩, zz_in (i := 26) (by decide +kernel) rfl, rfl, rfl⟩
def mX5_keepSnapshot : ZY := (yX5_keepSnapshot, cX5_keepSnapshot, 2, (some .int))
theorem yy_X5_keepSnapshot : zz_YV mX5_keepSnapshot 1 := ⟨⟨zz_in (i := 5) (by decide +kernel) rfl, zz_in (i := 555) (by decide +kernel) rfl, ⟨by decide +kernel, by decide +kernel, by decide +kernel⟩, by decide⟩, zz_in (i := 553) (by decide +kernel) rfl, zz_in (i := 554) (by decide +kernel) rfl⟩
def mX5_snapshots : ZY := (yX5_snapshots, cX5_snapshots, 3, (some .int))
theorem yy_X5_snapshots : zz_YV mX5_snapshots 0 := ⟨⟨zz_in (i := 5) (by decide +kernel) rfl, zz_in (i := 463) (by decide +kernel) rfl, ⟨by decide +kernel, by decide +kernel, by decide +kernel⟩, by decide⟩, zz_in (i := 461) (by decide +kernel) rfl, zz_in (i := 462) (by decide +kernel) rfl⟩
def mX6_copyFrom : ZY := (yX6_copyFrom, cX6_copyFrom, 2, none)
theorem yy_X6_copyFrom : zz_YV mX6_copyFrom 1 := ⟨⟨zz_in (i := 7) (by decide +kernel) rfl, zz_in (i := 245) (by decide +kernel) rfl, ⟨by decide +kernel, by decide +kernel, by decide +kernel⟩, by decide⟩, zz_in (i := 243) (by decide +kernel) rfl, zz_in (i := 244) (by decide +kernel) rfl⟩
def mX6_init : ZY := (yX6_init, cX6_init, 1, none)
theorem yy_X6_init : zz_YI mX6_init 0 := ⟨⟨zz_in (i := 7) (by decide +kernel) rfl, zz_in (i := 42) (by decide +kernel) rfl, ⟨by decide +kernel, by decide +kernel, by decide +kernel⟩, by decide⟩, zz_in (i := 41) (by decide +kernel) rfl, rfl, rfl⟩
def mX6_isKnown : ZY := (yX6_isKnown, cX6_isKnown, 2, (some .boolean))
theorem yy_X6_isKnown : zz_YV mX6_isKnown 1 := ⟨⟨zz_in (i := 7) (by decide +kernel) rfl, zz_in (i := 315) (by decide +kernel) rfl, ⟨by decide +kernel, by decide +kernel, by decide +kernel⟩, by decide⟩, zz_in (i := 313) (by decide +kernel) rfl, zz_in (i := 314) (by decide +kernel) rfl⟩
def mX7_addWall : ZY := (yX7_addWall, cX7_addWall, 1, (some .int))
theorem yy_X7_addWall : zz_YV mX7_addWall 0 := ⟨⟨zz_in (i := 4) (by decide +kernel) rfl, zz_in (i := 293) (by decide +kernel) rfl, ⟨by decide +kernel, by decide +kernel, by decide +kernel⟩, by decide⟩, zz_in (i := 291) (by decide +kernel) rfl, zz_in (i := 292) (by decide +kernel) rfl⟩
def mX7_apart : ZY := (yX7_apart, cX7_apart, 3, (some .int))
theorem yy_X7_apart : zz_YV mX7_apart 2 := ⟨⟨zz_in (i := 4) (by decide +kernel) rfl, zz_in (i := 587) (by decide +kernel) rfl, ⟨by decide +kernel, by decide +kernel, by decide +kernel⟩, by decide⟩, zz_in (i := 585) (by decide +kernel) rfl, zz_in (i := 586) (by decide +kernel) rfl⟩
def mX7_ask : ZY := (yX7_ask, cX7_ask, 5, (some .int))
theorem yy_X7_ask : zz_YV mX7_ask 4 := ⟨⟨zz_in (i := 4) (by decide +kernel) rfl, zz_in (i := 322) (by decide +kernel) rfl, ⟨by decide +kernel, by decide +kernel, by decide +kernel⟩, by decide⟩, zz_in (i := 320) (by decide +kernel) rfl, zz_in (i := 321) (by decide +kernel) rfl⟩
def mX7_askAgain : ZY := (yX7_askAgain, cX7_askAgain, 2, (some .int))
theorem yy_X7_askAgain : zz_YV mX7_askAgain 1 := ⟨⟨zz_in (i := 4) (by decide +kernel) rfl, zz_in (i := 534) (by decide +kernel) rfl, ⟨by decide +kernel, by decide +kernel, by decide +kernel⟩, by decide⟩, zz_in (i := 532) (by decide +kernel) rfl, zz_in (i := 533) (by decide +kernel) rfl⟩
def mX7_bestLatitude : ZY := (yX7_bestLatitude, cX7_bestLatitude, 6, (some .int))
theorem yy_X7_bestLatitude : zz_YV mX7_bestLatitude 1 := ⟨⟨zz_in (i := 4) (by decide +kernel) rfl, zz_in (i := 493) (by decide +kernel) rfl, ⟨by decide +kernel, by decide +kernel, by decide +kernel⟩, by decide⟩, zz_in (i := 491) (by decide +kernel) rfl, zz_in (i := 492) (by decide +kernel) rfl⟩
def mX7_cast : ZY := (yX7_cast, cX7_cast, 1, (some .int))
theorem yy_X7_cast : zz_YV mX7_cast 0 := ⟨⟨zz_in (i := 4) (by decide +kernel) rfl, zz_in (i := 416) (by decide +kernel) rfl, ⟨by decide +kernel, by decide +kernel, by decide +kernel⟩, by decide⟩, zz_in (i := 414) (by decide +kernel) rfl, zz_in (i := 415) (by decide +kernel) rfl⟩
def mX7_commission : ZY := (yX7_commission, cX7_commission, 4, (some .int))
theorem yy_X7_commission : zz_YV mX7_commission 2 := ⟨⟨zz_in (i := 4) (by decide +kernel) rfl, zz_in (i := 467) (by decide +kernel) rfl, ⟨by decide +kernel, by decide +kernel, by decide +kernel⟩, by decide⟩, zz_in (i := 465) (by decide +kernel) rfl, zz_in (i := 466) (by decide +kernel) rfl⟩
def mX7_correction : ZY := (yX7_correction, cX7_correction, 2, (some .int))
theorem yy_X7_correction : zz_YV mX7_correction 1 := ⟨⟨zz_in (i := 4) (by decide +kernel) rfl, zz_in (i := 527) (by decide +kernel) rfl, ⟨by decide +kernel, by decide +kernel, by decide +kernel⟩, by decide⟩, zz_in (i := 525) (by decide +kernel) rfl, zz_in (i := 526) (by decide +kernel) rfl⟩
def mX7_count : ZY := (yX7_count, cX7_count, 2, (some .int))
theorem yy_X7_count : zz_YV mX7_count 1 := ⟨⟨zz_in (i := 4) (by decide +kernel) rfl, zz_in (i := 451) (by decide +kernel) rfl, ⟨by decide +kernel, by decide +kernel, by decide +kernel⟩, by decide⟩, zz_in (i := 449) (by decide +kernel) rfl, zz_in (i := 450) (by decide +kernel) rfl⟩
def mX7_decide : ZY := (yX7_decide, cX7_decide, 2, (some .int))
theorem yy_X7_decide : zz_YV mX7_decide 1 := ⟨⟨zz_in (i := 4) (by decide +kernel) rfl, zz_in (i := 330) (by decide +kernel) rfl, ⟨by decide +kernel, by decide +kernel, by decide +kernel⟩, by decide⟩, zz_in (i := 328) (by decide +kernel) rfl, zz_in (i := 329) (by decide +kernel) rfl⟩
def mX7_deliver : ZY := (yX7_deliver, cX7_deliver, 2, (some .int))
theorem yy_X7_deliver : zz_YV mX7_deliver 1 := ⟨⟨zz_in (i := 4) (by decide +kernel) rfl, zz_in (i := 542) (by decide +kernel) rfl, ⟨by decide +kernel, by decide +kernel, by decide +kernel⟩, by decide⟩, zz_in (i := 540) (by decide +kernel) rfl, zz_in (i := 541) (by decide +kernel) rfl⟩
def mX7_init : ZY := (yX7_init, cX7_init, 1, none)
theorem yy_X7_init : zz_YI mX7_init 0 := ⟨⟨zz_in (i := 4) (by decide +kernel) rfl, zz_in (i := 19) (by decide +kernel) rfl, ⟨by decide +kernel, by decide +kernel, by decide +kernel⟩, by decide⟩, zz_in (i := 18) (by decide +kernel) rfl, rfl, rfl⟩
def mX7_isError : ZY := (yX7_isError, cX7_isError, 1, (some .boolean))
theorem yy_X7_isError : zz_YS mX7_isError 1 := ⟨⟨zz_in (i := 4) (by decide +kernel) rfl, zz_in (i := 267) (by decide +kernel) rfl, ⟨by decide +kernel, by decide +kernel, by decide +kernel⟩, by decide⟩, zz_in (i := 266) (by decide +kernel) rfl⟩
def mX7_isWithin : ZY := (yX7_isWithin, cX7_isWithin, 3, (some .boolean))
theorem yy_X7_isWithin : zz_YS mX7_isWithin 3 := ⟨⟨zz_in (i := 4) (by decide +kernel) rfl, zz_in (i := 259) (by decide +kernel) rfl, ⟨by decide +kernel, by decide +kernel, by decide +kernel⟩, by decide⟩, zz_in (i := 258) (by decide +kernel) rfl⟩
def mX7_judge : ZY := (yX7_judge, cX7_judge, 2, (some .int))
theorem yy_X7_judge : zz_YV mX7_judge 1 := ⟨⟨zz_in (i := 4) (by decide +kernel) rfl, zz_in (i := 334) (by decide +kernel) rfl, ⟨by decide +kernel, by decide +kernel, by decide +kernel⟩, by decide⟩, zz_in (i := 333) (by decide +kernel) rfl, zz_in (i := 1) (by decide +kernel) rfl⟩
def mX7_layDial : ZY := (yX7_layDial, cX7_layDial, 4, (some .boolean))
theorem yy_X7_layDial : zz_YV mX7_layDial 1 := ⟨⟨zz_in (i := 4) (by decide +kernel) rfl, zz_in (i := 342) (by decide +kernel) rfl, ⟨by decide +kernel, by decide +kernel, by decide +kernel⟩, by decide⟩, zz_in (i := 341) (by decide +kernel) rfl, zz_in (i := 2) (by decide +kernel) rfl⟩
def mX7_lines : ZY := (yX7_lines, cX7_lines, 3, (some .int))
theorem yy_X7_lines : zz_YV mX7_lines 2 := ⟨⟨zz_in (i := 4) (by decide +kernel) rfl, zz_in (i := 477) (by decide +kernel) rfl, ⟨by decide +kernel, by decide +kernel, by decide +kernel⟩, by decide⟩, zz_in (i := 475) (by decide +kernel) rfl, zz_in (i := 476) (by decide +kernel) rfl⟩
def mX7_measure : ZY := (yX7_measure, cX7_measure, 3, (some .int))
theorem yy_X7_measure : zz_YV mX7_measure 2 := ⟨⟨zz_in (i := 4) (by decide +kernel) rfl, zz_in (i := 303) (by decide +kernel) rfl, ⟨by decide +kernel, by decide +kernel, by decide +kernel⟩, by decide⟩, zz_in (i := 301) (by decide +kernel) rfl, zz_in (i := 302) (by decide +kernel) rfl⟩
def mX7_melts : ZY := (yX7_melts, cX7_melts, 1, (some .int))
theorem yy_X7_melts : zz_YV mX7_melts 0 := ⟨⟨zz_in (i := 4) (by decide +kernel) rfl, zz_in (i := 497) (by decide +kernel) rfl, ⟨by decide +kernel, by decide +kernel, by decide +kernel⟩, by decide⟩, zz_in (i := 495) (by decide +kernel) rfl, zz_in (i := 496) (by decide +kernel) rfl⟩
def mX7_offset : ZY := (yX7_offset, cX7_offset, 3, (some .int))
theorem yy_X7_offset : zz_YV mX7_offset 2 := ⟨⟨zz_in (i := 4) (by decide +kernel) rfl, zz_in (i := 573) (by decide +kernel) rfl, ⟨by decide +kernel, by decide +kernel, by decide +kernel⟩, by decide⟩, zz_in (i := 571) (by decide +kernel) rfl, zz_in (i := 572) (by decide +kernel) rfl⟩
def mX7_read : ZY := (yX7_read, cX7_read, 6, (some .int))
theorem yy_X7_read : zz_YV mX7_read 4 := ⟨⟨zz_in (i := 4) (by decide +kernel) rfl, zz_in (i := 578) (by decide +kernel) rfl, ⟨by decide +kernel, by decide +kernel, by decide +kernel⟩, by decide⟩, zz_in (i := 576) (by decide +kernel) rfl, zz_in (i := 577) (by decide +kernel) rfl⟩
def mX7_reason : ZY := (yX7_reason, cX7_reason, 2, (some .int))
theorem yy_X7_reason : zz_YV mX7_reason 1 := ⟨⟨zz_in (i := 4) (by decide +kernel) rfl, zz_in (i := 489) (by decide +kernel) rfl, ⟨by decide +kernel, by decide +kernel, by decide +kernel⟩, by decide⟩, zz_in (i := 487) (by decide +kernel) rfl, zz_in (i := 488) (by decide +kernel) rfl⟩
def mX7_recorded : ZY := (yX7_recorded, cX7_recorded, 2, (some .int))
theorem yy_X7_recorded : zz_YV mX7_recorded 1 := ⟨⟨zz_in (i := 4) (by decide +kernel) rfl, zz_in (i := 264) (by decide +kernel) rfl, ⟨by decide +kernel, by decide +kernel, by decide +kernel⟩, by decide⟩, zz_in (i := 263) (by decide +kernel) rfl, zz_in (i := 0) (by decide +kernel) rfl⟩
def mX7_rounded : ZY := (yX7_rounded, cX7_rounded, 8, (some .long))
theorem yy_X7_rounded : zz_YS mX7_rounded 2 := ⟨⟨zz_in (i := 4) (by decide +kernel) rfl, zz_in (i := 359) (by decide +kernel) rfl, ⟨by decide +kernel, by decide +kernel, by decide +kernel⟩, by decide⟩, zz_in (i := 358) (by decide +kernel) rfl⟩
def mX7_set : ZY := (yX7_set, cX7_set, 3, (some .int))
theorem yy_X7_set : zz_YV mX7_set 2 := ⟨⟨zz_in (i := 4) (by decide +kernel) rfl, zz_in (i := 281) (by decide +kernel) rfl, ⟨by decide +kernel, by decide +kernel, by decide +kernel⟩, by decide⟩, zz_in (i := 279) (by decide +kernel) rfl, zz_in (i := 280) (by decide +kernel) rfl⟩
def mX7_setCorrection : ZY := (yX7_setCorrection, cX7_setCorrection, 3, (some .int))
theorem yy_X7_setCorrection : zz_YV mX7_setCorrection 2 := ⟨⟨zz_in (i := 4) (by decide +kernel) rfl, zz_in (i := 229) (by decide +kernel) rfl, ⟨by decide +kernel, by decide +kernel, by decide +kernel⟩, by decide⟩, zz_in (i := 227) (by decide +kernel) rfl, zz_in (i := 228) (by decide +kernel) rfl⟩
def mX7_sine : ZY := (yX7_sine, cX7_sine, 2, (some .int))
theorem yy_X7_sine : zz_YV mX7_sine 1 := ⟨⟨zz_in (i := 4) (by decide +kernel) rfl, zz_in (i := 471) (by decide +kernel) rfl, ⟨by decide +kernel, by decide +kernel, by decide +kernel⟩, by decide⟩, zz_in (i := 469) (by decide +kernel) rfl, zz_in (i := 470) (by decide +kernel) rfl⟩
def mX7_sineOf : ZY := (yX7_sineOf, cX7_sineOf, 6, (some .int))
theorem yy_X7_sineOf : zz_YS mX7_sineOf 1 := ⟨⟨zz_in (i := 4) (by decide +kernel) rfl, zz_in (i := 368) (by decide +kernel) rfl, ⟨by decide +kernel, by decide +kernel, by decide +kernel⟩, by decide⟩, zz_in (i := 367) (by decide +kernel) rfl⟩
def mX7_take : ZY := (yX7_take, cX7_take, 2, (some .int))
theorem yy_X7_take : zz_YV mX7_take 1 := ⟨⟨zz_in (i := 4) (by decide +kernel) rfl, zz_in (i := 551) (by decide +kernel) rfl, ⟨by decide +kernel, by decide +kernel, by decide +kernel⟩, by decide⟩, zz_in (i := 549) (by decide +kernel) rfl, zz_in (i := 550) (by decide +kernel) rfl⟩
def mX7_undo : ZY := (yX7_undo, cX7_undo, 1, (some .int))
theorem yy_X7_undo : zz_YV mX7_undo 0 := ⟨⟨zz_in (i := 4) (by decide +kernel) rfl, zz_in (i := 439) (by decide +kernel) rfl, ⟨by decide +kernel, by decide +kernel, by decide +kernel⟩, by decide⟩, zz_in (i := 437) (by decide +kernel) rfl, zz_in (i := 438) (by decide +kernel) rfl⟩
def mX7_wall : ZY := (yX7_wall, cX7_wall, 3, (some .int))
theorem yy_X7_wall : zz_YV mX7_wall 2 := ⟨⟨zz_in (i := 4) (by decide +kernel) rfl, zz_in (i := 517) (by decide +kernel) rfl, ⟨by decide +kernel, by decide +kernel, by decide +kernel⟩, by decide⟩, zz_in (i := 515) (by decide +kernel) rfl, zz_in (i := 516) (by decide +kernel) rfl⟩
theorem lL_12 : Cond.methodLink RL 12 yX7_count ∈ zz_t := zz_in (i := 448) (by decide +kernel) rfl
theorem lL_18 : Cond.methodLink RL 18 yX7_wall ∈ zz_t := zz_in (i := 514) (by decide +kernel) rfl
theorem lL_22 : Cond.methodLink RL 22 yX7_commission ∈ zz_t := zz_in (i := 464) (by decide +kernel) rfl
theorem lL_25 : Cond.methodLink RL 25 yX7_correction ∈ zz_t := zz_in (i := 524) (by decide +kernel) rfl
theorem lL_28 : Cond.methodLink RL 28 yL_low ∈ zz_t := zz_in (i := 505) (by decide +kernel) rfl
theorem lL_33 : Cond.methodLink RL 33 yX7_setCorrection ∈ zz_t := zz_in (i := 226) (by decide +kernel) rfl
theorem lL_36 : Cond.methodLink RL 36 yX7_set ∈ zz_t := zz_in (i := 278) (by decide +kernel) rfl
theorem lL_39 : Cond.methodLink RL 39 yX7_addWall ∈ zz_t := zz_in (i := 290) (by decide +kernel) rfl
theorem lL_43 : Cond.methodLink RL 43 yX7_measure ∈ zz_t := zz_in (i := 300) (by decide +kernel) rfl
theorem lL_46 : Cond.methodLink RL 46 yX7_ask ∈ zz_t := zz_in (i := 319) (by decide +kernel) rfl
theorem lL_50 : Cond.methodLink RL 50 yX7_decide ∈ zz_t := zz_in (i := 327) (by decide +kernel) rfl
theorem lL_53 : Cond.methodLink RL 53 yX7_askAgain ∈ zz_t := zz_in (i := 531) (by decide +kernel) rfl
theorem lL_56 : Cond.methodLink RL 56 yX7_cast ∈ zz_t := zz_in (i := 413) (by decide +kernel) rfl
theorem lL_59 : Cond.methodLink RL 59 yX7_deliver ∈ zz_t := zz_in (i := 539) (by decide +kernel) rfl
theorem lL_62 : Cond.methodLink RL 62 yX7_take ∈ zz_t := zz_in (i := 548) (by decide +kernel) rfl
theorem lL_68 : Cond.methodLink RL 68 yX7_lines ∈ zz_t := zz_in (i := 474) (by decide +kernel) rfl
theorem lL_71 : Cond.methodLink RL 71 yX7_offset ∈ zz_t := zz_in (i := 570) (by decide +kernel) rfl
theorem lL_74 : Cond.methodLink RL 74 yX7_read ∈ zz_t := zz_in (i := 575) (by decide +kernel) rfl
theorem lL_77 : Cond.methodLink RL 77 yX7_apart ∈ zz_t := zz_in (i := 584) (by decide +kernel) rfl
theorem lL_80 : Cond.methodLink RL 80 yX7_init ∈ zz_t := zz_in (i := 17) (by decide +kernel) rfl
theorem lL_81 : Cond.methodLink RL 81 yL_cell ∈ zz_t := zz_in (i := 502) (by decide +kernel) rfl
theorem lL_85 : Cond.methodLink RL 85 yL_digest ∈ zz_t := zz_in (i := 509) (by decide +kernel) rfl
theorem lL_89 : Cond.methodLink RL 89 yX7_reason ∈ zz_t := zz_in (i := 486) (by decide +kernel) rfl
theorem lL_92 : Cond.methodLink RL 92 yL_act ∈ zz_t := zz_in (i := 528) (by decide +kernel) rfl
theorem lL_96 : Cond.methodLink RL 96 yL_isError ∈ zz_t := zz_in (i := 558) (by decide +kernel) rfl
theorem lL_100 : Cond.methodLink RL 100 yX7_undo ∈ zz_t := zz_in (i := 436) (by decide +kernel) rfl
theorem lL_103 : Cond.methodLink RL 103 yL_addsUp ∈ zz_t := zz_in (i := 563) (by decide +kernel) rfl
theorem lL_107 : Cond.methodLink RL 107 yX7_sine ∈ zz_t := zz_in (i := 468) (by decide +kernel) rfl
theorem lL_110 : Cond.methodLink RL 110 yL_isDial ∈ zz_t := zz_in (i := 567) (by decide +kernel) rfl
theorem lL_115 : Cond.methodLink RL 115 yX7_bestLatitude ∈ zz_t := zz_in (i := 490) (by decide +kernel) rfl
theorem lL_118 : Cond.methodLink RL 118 yX7_melts ∈ zz_t := zz_in (i := 494) (by decide +kernel) rfl
theorem lX0_3 : Cond.methodLink RX0 3 objectInit ∈ zz_t := zz_in (i := 61) (by decide +kernel) rfl
theorem lX0_38 : Cond.methodLinkNest RX0 38 yX7_rounded "SundialWorks" ∈ zz_nw := zz_inN (i := 406) (by decide +kernel) rfl
theorem lX1_3 : Cond.methodLink RX1 3 objectInit ∈ zz_t := zz_in (i := 197) (by decide +kernel) rfl
theorem lX1_15 : Cond.methodLinkNest RX1 15 yX7_sineOf "SundialWorks" ∈ zz_nw := zz_inN (i := 366) (by decide +kernel) rfl
theorem lX1_21 : Cond.methodLink RX1 21 yX1_offsetOfShadow ∈ zz_t := zz_in (i := 375) (by decide +kernel) rfl
theorem lX1_28 : Cond.methodLinkNest RX1 28 yX7_rounded "SundialWorks" ∈ zz_nw := zz_inN (i := 380) (by decide +kernel) rfl
theorem lX1_36 : Cond.methodLinkNest RX1 36 yX7_isWithin "SundialWorks" ∈ zz_nw := zz_inN (i := 391) (by decide +kernel) rfl
theorem lX1_40 : Cond.methodLink RX1 40 yX1_offsetAt ∈ zz_t := zz_in (i := 387) (by decide +kernel) rfl
theorem lX1_43 : Cond.methodLink RX1 43 Lib.Math.abs.name ∈ zz_t := zz_in (i := 400) (by decide +kernel) rfl
theorem lX1_55 : Cond.methodLink RX1 55 yX1_readingByLines ∈ zz_t := zz_in (i := 396) (by decide +kernel) rfl
theorem lX2_3 : Cond.methodLink RX2 3 objectInit ∈ zz_t := zz_in (i := 156) (by decide +kernel) rfl
theorem lX2_17 : Cond.methodLink RX2 17 yX5_init ∈ zz_t := zz_in (i := 159) (by decide +kernel) rfl
theorem lX2_22 : Cond.methodLink RX2 22 yX5_copyFrom ∈ zz_t := zz_in (i := 234) (by decide +kernel) rfl
theorem lX2_29 : Cond.methodLink RX2 29 Lib.Math.min.name ∈ zz_t := zz_in (i := 275) (by decide +kernel) rfl
theorem lX2_35 : Cond.methodLink RX2 35 yX2_returnToMarked ∈ zz_t := zz_in (i := 444) (by decide +kernel) rfl
theorem lX3_3 : Cond.methodLink RX3 3 objectInit ∈ zz_t := zz_in (i := 176) (by decide +kernel) rfl
theorem lX4_3 : Cond.methodLink RX4 3 objectInit ∈ zz_t := zz_in (i := 34) (by decide +kernel) rfl
theorem lX4_30 : Cond.methodLinkNest RX4 30 yX6_init "SundialWorks" ∈ zz_nw := zz_inN (i := 40) (by decide +kernel) rfl
theorem lX4_31 : Cond.methodLinkNest RX4 31 yX0_init "SundialWorks" ∈ zz_nw := zz_inN (i := 58) (by decide +kernel) rfl
theorem lX4_35 : Cond.methodLink RX4 35 yX6_copyFrom ∈ zz_t := zz_in (i := 242) (by decide +kernel) rfl
theorem lX4_39 : Cond.methodLink RX4 39 yX0_copyFrom ∈ zz_t := zz_in (i := 246) (by decide +kernel) rfl
theorem lX4_42 : Cond.methodLink RX4 42 arraycopyName ∈ zz_t := zz_in (i := 250) (by decide +kernel) rfl
theorem lX4_61 : Cond.methodLinkNest RX4 61 yX7_isWithin "SundialWorks" ∈ zz_nw := zz_inN (i := 257) (by decide +kernel) rfl
theorem lX4_80 : Cond.methodLink RX4 80 yX4_hasWall ∈ zz_t := zz_in (i := 308) (by decide +kernel) rfl
theorem lX4_84 : Cond.methodLink RX4 84 yX6_isKnown ∈ zz_t := zz_in (i := 312) (by decide +kernel) rfl
theorem lX4_111 : Cond.methodLink RX4 111 yX4_hasCommission ∈ zz_t := zz_in (i := 347) (by decide +kernel) rfl
theorem lX4_115 : Cond.methodLink RX4 115 yX4_declinationOfDial ∈ zz_t := zz_in (i := 412) (by decide +kernel) rfl
theorem lX4_119 : Cond.methodLink RX4 119 yX4_acceptedOnes ∈ zz_t := zz_in (i := 421) (by decide +kernel) rfl
theorem lX4_123 : Cond.methodLink RX4 123 yX4_nextMelt ∈ zz_t := zz_in (i := 425) (by decide +kernel) rfl
theorem lX4_126 : Cond.methodLink RX4 126 yX0_weight ∈ zz_t := zz_in (i := 429) (by decide +kernel) rfl
theorem lX4_129 : Cond.methodLink RX4 129 yJ6_bitCount_0f7a4 ∈ zz_t := zz_in (i := 430) (by decide +kernel) rfl
theorem lX4_134 : Cond.methodLink RX4 134 yX4_commissionsInState ∈ zz_t := zz_in (i := 547) (by decide +kernel) rfl
theorem lX4_139 : Cond.methodLinkNest RX4 139 yX7_rounded "SundialWorks" ∈ zz_nw := zz_inN (i := 357) (by decide +kernel) rfl
theorem lX4_143 : Cond.methodLink RX4 143 yX0_isByWallNow ∈ zz_t := zz_in (i := 348) (by decide +kernel) rfl
theorem lX4_147 : Cond.methodLink RX4 147 yX4_declinationOfWall ∈ zz_t := zz_in (i := 352) (by decide +kernel) rfl
theorem lX5_3 : Cond.methodLink RX5 3 objectInit ∈ zz_t := zz_in (i := 28) (by decide +kernel) rfl
theorem lX5_11 : Cond.methodLink RX5 11 yX4_init ∈ zz_t := zz_in (i := 31) (by decide +kernel) rfl
theorem lX5_26 : Cond.methodLink RX5 26 yX4_copyFrom ∈ zz_t := zz_in (i := 238) (by decide +kernel) rfl
theorem lX5_30 : Cond.methodLinkNest RX5 30 yX7_isWithin "SundialWorks" ∈ zz_nw := zz_inN (i := 556) (by decide +kernel) rfl
theorem lX6_3 : Cond.methodLink RX6 3 objectInit ∈ zz_t := zz_in (i := 43) (by decide +kernel) rfl
theorem lX6_19 : Cond.methodLink RX6 19 Lib.Math.abs.name ∈ zz_t := zz_in (i := 316) (by decide +kernel) rfl
theorem lX7_1 : Cond.methodLink RX7 1 objectInit ∈ zz_t := zz_in (i := 20) (by decide +kernel) rfl
theorem lX7_9 : Cond.methodLink RX7 9 yX5_init ∈ zz_t := zz_in (i := 25) (by decide +kernel) rfl
theorem lX7_18 : Cond.methodLink RX7 18 yX2_init ∈ zz_t := zz_in (i := 153) (by decide +kernel) rfl
theorem lX7_25 : Cond.methodLinkNest RX7 25 yX3_init "SundialWorks" ∈ zz_nw := zz_inN (i := 173) (by decide +kernel) rfl
theorem lX7_32 : Cond.methodLinkNest RX7 32 yX1_init "SundialWorks" ∈ zz_nw := zz_inN (i := 194) (by decide +kernel) rfl
theorem lX7_42 : Cond.methodLink RX7 42 yX2_mark ∈ zz_t := zz_in (i := 230) (by decide +kernel) rfl
theorem lX7_46 : Cond.methodLink RX7 46 yX4_changeCorrection ∈ zz_t := zz_in (i := 253) (by decide +kernel) rfl
theorem lX7_52 : Cond.methodLink RX7 52 yX7_recorded ∈ zz_t := zz_in (i := 261) (by decide +kernel) rfl
theorem lX7_56 : Cond.methodLink RX7 56 yX4_changeSetting ∈ zz_t := zz_in (i := 282) (by decide +kernel) rfl
theorem lX7_59 : Cond.methodLink RX7 59 yX4_openWall ∈ zz_t := zz_in (i := 294) (by decide +kernel) rfl
theorem lX7_63 : Cond.methodLink RX7 63 yX4_measureWall ∈ zz_t := zz_in (i := 304) (by decide +kernel) rfl
theorem lX7_66 : Cond.methodLink RX7 66 yX4_openCommission ∈ zz_t := zz_in (i := 323) (by decide +kernel) rfl
theorem lX7_70 : Cond.methodLink RX7 70 yX7_judge ∈ zz_t := zz_in (i := 331) (by decide +kernel) rfl
theorem lX7_73 : Cond.methodLink RX7 73 yX4_conclude ∈ zz_t := zz_in (i := 407) (by decide +kernel) rfl
theorem lX7_76 : Cond.methodLink RX7 76 yX4_reopen ∈ zz_t := zz_in (i := 535) (by decide +kernel) rfl
theorem lX7_79 : Cond.methodLink RX7 79 yX4_castMelt ∈ zz_t := zz_in (i := 417) (by decide +kernel) rfl
theorem lX7_82 : Cond.methodLink RX7 82 yX4_handOver ∈ zz_t := zz_in (i := 543) (by decide +kernel) rfl
theorem lX7_85 : Cond.methodLink RX7 85 yX5_keepSnapshot ∈ zz_t := zz_in (i := 552) (by decide +kernel) rfl
theorem lX7_96 : Cond.methodLink RX7 96 yX2_stepBack ∈ zz_t := zz_in (i := 440) (by decide +kernel) rfl
theorem lX7_124 : Cond.methodLink RX7 124 yX7_isError ∈ zz_t := zz_in (i := 265) (by decide +kernel) rfl
theorem lX7_128 : Cond.methodLink RX7 128 yX2_keepMarked ∈ zz_t := zz_in (i := 271) (by decide +kernel) rfl
theorem lX7_134 : Cond.methodLink RX7 134 yX4_knownWalls ∈ zz_t := zz_in (i := 452) (by decide +kernel) rfl
theorem lX7_140 : Cond.methodLink RX7 140 yX4_commissionsInState ∈ zz_t := zz_in (i := 456) (by decide +kernel) rfl
theorem lX7_149 : Cond.methodLink RX7 149 yX5_snapshots ∈ zz_t := zz_in (i := 460) (by decide +kernel) rfl
theorem lX7_160 : Cond.methodLink RX7 160 yX4_hasWall ∈ zz_t := zz_in (i := 518) (by decide +kernel) rfl
theorem lX7_175 : Cond.methodLink RX7 175 yX4_declinationOfWall ∈ zz_t := zz_in (i := 519) (by decide +kernel) rfl
theorem lX7_178 : Cond.methodLink RX7 178 yX4_commissionsForWall ∈ zz_t := zz_in (i := 520) (by decide +kernel) rfl
theorem lX7_181 : Cond.methodLink RX7 181 yX4_hasCommission ∈ zz_t := zz_in (i := 335) (by decide +kernel) rfl
theorem lX7_204 : Cond.methodLink RX7 204 yX4_declinationOfDial ∈ zz_t := zz_in (i := 343) (by decide +kernel) rfl
theorem lX7_207 : Cond.methodLink RX7 207 yX0_weight ∈ zz_t := zz_in (i := 401) (by decide +kernel) rfl
theorem lX7_216 : Cond.methodLink RX7 216 yX7_isWithin ∈ zz_t := zz_in (i := 472) (by decide +kernel) rfl
theorem lX7_223 : Cond.methodLink RX7 223 yX7_sineOf ∈ zz_t := zz_in (i := 473) (by decide +kernel) rfl
theorem lX7_226 : Cond.methodLink RX7 226 yX7_layDial ∈ zz_t := zz_in (i := 339) (by decide +kernel) rfl
theorem lX7_229 : Cond.methodLink RX7 229 yX1_offsetAt ∈ zz_t := zz_in (i := 574) (by decide +kernel) rfl
theorem lX7_232 : Cond.methodLink RX7 232 yX1_countLines ∈ zz_t := zz_in (i := 383) (by decide +kernel) rfl
theorem lX7_235 : Cond.methodLink RX7 235 yX1_firstLine ∈ zz_t := zz_in (i := 478) (by decide +kernel) rfl
theorem lX7_238 : Cond.methodLink RX7 238 yX1_lastLine ∈ zz_t := zz_in (i := 482) (by decide +kernel) rfl
theorem lX7_241 : Cond.methodLink RX7 241 yX1_readingByLines ∈ zz_t := zz_in (i := 579) (by decide +kernel) rfl
theorem lX7_244 : Cond.methodLink RX7 244 yX1_readingByShadow ∈ zz_t := zz_in (i := 580) (by decide +kernel) rfl
theorem lX7_248 : Cond.methodLink RX7 248 yX1_compareReadings ∈ zz_t := zz_in (i := 392) (by decide +kernel) rfl
theorem lX7_257 : Cond.methodLink RX7 257 yX1_lay ∈ zz_t := zz_in (i := 362) (by decide +kernel) rfl
theorem lX7_261 : Cond.methodLink RX7 261 yX4_meltsNeeded ∈ zz_t := zz_in (i := 498) (by decide +kernel) rfl
theorem lX7_273 : Cond.methodLink RX7 273 Lib.Math.abs.name ∈ zz_t := zz_in (i := 369) (by decide +kernel) rfl
theorem lX7_284 : Cond.methodLink RX7 284 yX7_rounded ∈ zz_t := zz_in (i := 373) (by decide +kernel) rfl
theorem fX0_9 : zz_F RX0 9 0 0 := ⟨zz_in (i := 62) (by decide +kernel) rfl, by decide, by decide, rfl⟩
theorem fX0_15 : zz_F RX0 15 0 1 := ⟨zz_in (i := 65) (by decide +kernel) rfl, by decide, by decide, rfl⟩
theorem fX0_18 : zz_F RX0 18 0 2 := ⟨zz_in (i := 68) (by decide +kernel) rfl, by decide, by decide, rfl⟩
theorem fX0_21 : zz_F RX0 21 0 3 := ⟨zz_in (i := 71) (by decide +kernel) rfl, by decide, by decide, rfl⟩
theorem fX0_24 : zz_F RX0 24 0 4 := ⟨zz_in (i := 74) (by decide +kernel) rfl, by decide, by decide, rfl⟩
theorem fX0_27 : zz_F RX0 27 0 5 := ⟨zz_in (i := 77) (by decide +kernel) rfl, by decide, by decide, rfl⟩
theorem fX0_30 : zz_F RX0 30 0 6 := ⟨zz_in (i := 79) (by decide +kernel) rfl, by decide, by decide, rfl⟩
theorem fX0_33 : zz_F RX0 33 0 7 := ⟨zz_in (i := 82) (by decide +kernel) rfl, by decide, by decide, rfl⟩
theorem fX1_9 : zz_F RX1 9 1 0 := ⟨zz_in (i := 198) (by decide +kernel) rfl, by decide, by decide, rfl⟩
theorem fX1_48 : zz_F RX1 48 1 1 := ⟨zz_in (i := 199) (by decide +kernel) rfl, by decide, by decide, rfl⟩
theorem fX1_52 : zz_F RX1 52 1 2 := ⟨zz_in (i := 201) (by decide +kernel) rfl, by decide, by decide, rfl⟩
theorem fX2_11 : zz_F RX2 11 2 0 := ⟨zz_in (i := 160) (by decide +kernel) rfl, by decide, by decide, rfl⟩
theorem fX2_18 : zz_F RX2 18 2 1 := ⟨zz_in (i := 161) (by decide +kernel) rfl, by decide, by decide, rfl⟩
theorem fX2_26 : zz_F RX2 26 2 2 := ⟨zz_in (i := 162) (by decide +kernel) rfl, by decide, by decide, rfl⟩
theorem fX3_9 : zz_F RX3 9 3 0 := ⟨zz_in (i := 177) (by decide +kernel) rfl, by decide, by decide, rfl⟩
theorem fX3_15 : zz_F RX3 15 3 1 := ⟨zz_in (i := 178) (by decide +kernel) rfl, by decide, by decide, rfl⟩
theorem fX4_11 : zz_F RX4 11 4 0 := ⟨zz_in (i := 104) (by decide +kernel) rfl, by decide, by decide, rfl⟩
theorem fX4_17 : zz_F RX4 17 4 1 := ⟨zz_in (i := 106) (by decide +kernel) rfl, by decide, by decide, rfl⟩
theorem fX4_21 : zz_F RX4 21 4 2 := ⟨zz_in (i := 108) (by decide +kernel) rfl, by decide, by decide, rfl⟩
theorem fX4_26 : zz_F RX4 26 4 3 := ⟨zz_in (i := 110) (by decide +kernel) rfl, by decide, by decide, rfl⟩
theorem fX4_32 : Cond.fieldLinkNest RX4 32 "SundialWorks" "FIRST_VALUES" "[I" "SundialWorks" ∈ zz_nw := zz_inN (i := 102) (by decide +kernel) rfl
theorem fX4_48 : zz_F RX4 48 4 4 := ⟨zz_in (i := 112) (by decide +kernel) rfl, by decide, by decide, rfl⟩
theorem fX4_52 : zz_F RX4 52 4 5 := ⟨zz_in (i := 114) (by decide +kernel) rfl, by decide, by decide, rfl⟩
theorem fX4_55 : zz_F RX4 55 4 6 := ⟨zz_in (i := 117) (by decide +kernel) rfl, by decide, by decide, rfl⟩
theorem fX4_58 : zz_F RX4 58 4 7 := ⟨zz_in (i := 119) (by decide +kernel) rfl, by decide, by decide, rfl⟩
theorem fX4_66 : Cond.fieldLinkNest RX4 66 "SundialWorks" "LEAST_VALUES" "[I" "SundialWorks" ∈ zz_nw := zz_inN (i := 286) (by decide +kernel) rfl
theorem fX4_69 : Cond.fieldLinkNest RX4 69 "SundialWorks" "GREATEST_VALUES" "[I" "SundialWorks" ∈ zz_nw := zz_inN (i := 288) (by decide +kernel) rfl
theorem fX4_74 : zz_F RX4 74 6 0 := ⟨zz_in (i := 46) (by decide +kernel) rfl, by decide, by decide, rfl⟩
theorem fX4_77 : zz_F RX4 77 6 1 := ⟨zz_in (i := 49) (by decide +kernel) rfl, by decide, by decide, rfl⟩
theorem fX4_87 : zz_F RX4 87 0 0 := ⟨zz_in (i := 63) (by decide +kernel) rfl, by decide, by decide, rfl⟩
theorem fX4_90 : zz_F RX4 90 0 1 := ⟨zz_in (i := 66) (by decide +kernel) rfl, by decide, by decide, rfl⟩
theorem fX4_93 : zz_F RX4 93 0 2 := ⟨zz_in (i := 69) (by decide +kernel) rfl, by decide, by decide, rfl⟩
theorem fX4_96 : zz_F RX4 96 0 3 := ⟨zz_in (i := 72) (by decide +kernel) rfl, by decide, by decide, rfl⟩
theorem fX4_99 : zz_F RX4 99 0 4 := ⟨zz_in (i := 75) (by decide +kernel) rfl, by decide, by decide, rfl⟩
theorem fX4_102 : zz_F RX4 102 0 5 := ⟨zz_in (i := 78) (by decide +kernel) rfl, by decide, by decide, rfl⟩
theorem fX4_105 : zz_F RX4 105 0 6 := ⟨zz_in (i := 80) (by decide +kernel) rfl, by decide, by decide, rfl⟩
theorem fX4_108 : zz_F RX4 108 0 7 := ⟨zz_in (i := 83) (by decide +kernel) rfl, by decide, by decide, rfl⟩
theorem fX5_12 : zz_F RX5 12 5 0 := ⟨zz_in (i := 139) (by decide +kernel) rfl, by decide, by decide, rfl⟩
theorem fX5_18 : zz_F RX5 18 5 1 := ⟨zz_in (i := 141) (by decide +kernel) rfl, by decide, by decide, rfl⟩
theorem fX5_22 : zz_F RX5 22 5 2 := ⟨zz_in (i := 142) (by decide +kernel) rfl, by decide, by decide, rfl⟩
theorem fX5_35 : zz_F RX5 35 4 5 := ⟨zz_in (i := 115) (by decide +kernel) rfl, by decide, by decide, rfl⟩
theorem fX6_10 : zz_F RX6 10 6 0 := ⟨zz_in (i := 45) (by decide +kernel) rfl, by decide, by decide, rfl⟩
theorem fX6_16 : zz_F RX6 16 6 1 := ⟨zz_in (i := 48) (by decide +kernel) rfl, by decide, by decide, rfl⟩
theorem fX7_10 : zz_F RX7 10 7 0 := ⟨zz_in (i := 210) (by decide +kernel) rfl, by decide, by decide, rfl⟩
theorem fX7_19 : zz_F RX7 19 7 1 := ⟨zz_in (i := 211) (by decide +kernel) rfl, by decide, by decide, rfl⟩
theorem fX7_26 : zz_F RX7 26 7 2 := ⟨zz_in (i := 212) (by decide +kernel) rfl, by decide, by decide, rfl⟩
theorem fX7_33 : zz_F RX7 33 7 3 := ⟨zz_in (i := 213) (by decide +kernel) rfl, by decide, by decide, rfl⟩
theorem fX7_37 : zz_F RX7 37 5 0 := ⟨zz_in (i := 140) (by decide +kernel) rfl, by decide, by decide, rfl⟩
theorem fX7_41 : zz_F RX7 41 7 4 := ⟨zz_in (i := 214) (by decide +kernel) rfl, by decide, by decide, rfl⟩
theorem fX7_91 : zz_F RX7 91 2 2 := ⟨zz_in (i := 163) (by decide +kernel) rfl, by decide, by decide, rfl⟩
theorem fX7_131 : zz_F RX7 131 4 4 := ⟨zz_in (i := 113) (by decide +kernel) rfl, by decide, by decide, rfl⟩
theorem fX7_137 : zz_F RX7 137 4 5 := ⟨zz_in (i := 116) (by decide +kernel) rfl, by decide, by decide, rfl⟩
theorem fX7_143 : zz_F RX7 143 4 6 := ⟨zz_in (i := 118) (by decide +kernel) rfl, by decide, by decide, rfl⟩
theorem fX7_146 : zz_F RX7 146 4 7 := ⟨zz_in (i := 120) (by decide +kernel) rfl, by decide, by decide, rfl⟩
theorem fX7_152 : zz_F RX7 152 3 2 := ⟨zz_in (i := 179) (by decide +kernel) rfl, by decide, by decide, rfl⟩
theorem fX7_155 : zz_F RX7 155 4 2 := ⟨zz_in (i := 109) (by decide +kernel) rfl, by decide, by decide, rfl⟩
theorem fX7_163 : zz_F RX7 163 4 0 := ⟨zz_in (i := 105) (by decide +kernel) rfl, by decide, by decide, rfl⟩
theorem fX7_167 : zz_F RX7 167 6 0 := ⟨zz_in (i := 47) (by decide +kernel) rfl, by decide, by decide, rfl⟩
theorem fX7_172 : zz_F RX7 172 6 1 := ⟨zz_in (i := 50) (by decide +kernel) rfl, by decide, by decide, rfl⟩
theorem fX7_184 : zz_F RX7 184 4 3 := ⟨zz_in (i := 111) (by decide +kernel) rfl, by decide, by decide, rfl⟩
theorem fX7_188 : zz_F RX7 188 0 0 := ⟨zz_in (i := 64) (by decide +kernel) rfl, by decide, by decide, rfl⟩
theorem fX7_193 : zz_F RX7 193 0 1 := ⟨zz_in (i := 67) (by decide +kernel) rfl, by decide, by decide, rfl⟩
theorem fX7_196 : zz_F RX7 196 0 2 := ⟨zz_in (i := 70) (by decide +kernel) rfl, by decide, by decide, rfl⟩
theorem fX7_199 : zz_F RX7 199 0 3 := ⟨zz_in (i := 73) (by decide +kernel) rfl, by decide, by decide, rfl⟩
theorem fX7_202 : zz_F RX7 202 0 4 := ⟨zz_in (i := 76) (by decide +kernel) rfl, by decide, by decide, rfl⟩
theorem fX7_210 : zz_F RX7 210 0 6 := ⟨zz_in (i := 81) (by decide +kernel) rfl, by decide, by decide, rfl⟩
theorem fX7_213 : zz_F RX7 213 0 7 := ⟨zz_in (i := 84) (by decide +kernel) rfl, by decide, by decide, rfl⟩
theorem fX7_220 : zz_F RX7 220 4 1 := ⟨zz_in (i := 107) (by decide +kernel) rfl, by decide, by decide, rfl⟩
theorem fX7_251 : zz_F RX7 251 1 1 := ⟨zz_in (i := 200) (by decide +kernel) rfl, by decide, by decide, rfl⟩
theorem fX7_254 : zz_F RX7 254 1 2 := ⟨zz_in (i := 202) (by decide +kernel) rfl, by decide, by decide, rfl⟩
theorem kJ6_265 : Cond.constant RJ6 265 (1431655765) ∈ zz_t := zz_in (i := 433) (by decide +kernel) rfl
theorem kJ6_266 : Cond.constant RJ6 266 (858993459) ∈ zz_t := zz_in (i := 434) (by decide +kernel) rfl
theorem kJ6_267 : Cond.constant RJ6 267 (252645135) ∈ zz_t := zz_in (i := 435) (by decide +kernel) rfl
theorem kL_7 : Cond.constant RL 7 (2147483647) ∈ zz_t := zz_in (i := 508) (by decide +kernel) rfl
theorem kL_65 : Cond.constant RL 65 (-100001) ∈ zz_t := zz_in (i := 561) (by decide +kernel) rfl
theorem kL_66 : Cond.constant RL 66 (-100003) ∈ zz_t := zz_in (i := 562) (by decide +kernel) rfl
theorem kL_67 : Cond.constant RL 67 (-100009) ∈ zz_t := zz_in (i := 566) (by decide +kernel) rfl
theorem kL_114 : Cond.constant RL 114 (-100002) ∈ zz_t := zz_in (i := 588) (by decide +kernel) rfl
theorem kX1_25 : Cond.constant RX1 25 (-100009) ∈ zz_t := zz_in (i := 378) (by decide +kernel) rfl
theorem kX4_65 : Cond.constant RX4 65 (-100001) ∈ zz_t := zz_in (i := 260) (by decide +kernel) rfl
theorem kX4_72 : Cond.constant RX4 72 (-100003) ∈ zz_t := zz_in (i := 298) (by decide +kernel) rfl
theorem kX4_73 : Cond.constant RX4 73 (-100009) ∈ zz_t := zz_in (i := 299) (by decide +kernel) rfl
theorem kX4_114 : Cond.constant RX4 114 (-100002) ∈ zz_t := zz_in (i := 411) (by decide +kernel) rfl
theorem kX5_34 : Cond.constant RX5 34 (-100001) ∈ zz_t := zz_in (i := 557) (by decide +kernel) rfl
theorem kX6_9 : Cond.constant RX6 9 (-100009) ∈ zz_t := zz_in (i := 44) (by decide +kernel) rfl
theorem kX7_95 : Cond.constant RX7 95 (-100002) ∈ zz_t := zz_in (i := 269) (by decide +kernel) rfl
theorem kX7_159 : Cond.constant RX7 159 (-100001) ∈ zz_t := zz_in (i := 268) (by decide +kernel) rfl
theorem kX7_247 : Cond.constant RX7 247 (-100009) ∈ zz_t := zz_in (i := 361) (by decide +kernel) rfl
theorem kX7_270 : Cond.constant RX7 270 (-100003) ∈ zz_t := zz_in (i := 270) (by decide +kernel) rfl
theorem kL_8 : Cond.constantLong RL 8 (7) ∈ zz_t := zz_in (i := 512) (by decide +kernel) rfl
theorem kL_10 : Cond.constantLong RL 10 (31) ∈ zz_t := zz_in (i := 513) (by decide +kernel) rfl
theorem kX0_36 : Cond.constantLong RX0 36 (100) ∈ zz_t := zz_in (i := 405) (by decide +kernel) rfl
theorem kX1_19 : Cond.constantLong RX1 19 (10000) ∈ zz_t := zz_in (i := 374) (by decide +kernel) rfl
theorem kX1_26 : Cond.constantLong RX1 26 (1000) ∈ zz_t := zz_in (i := 379) (by decide +kernel) rfl
theorem kX1_32 : Cond.constantLong RX1 32 (-3000) ∈ zz_t := zz_in (i := 381) (by decide +kernel) rfl
theorem kX1_34 : Cond.constantLong RX1 34 (3000) ∈ zz_t := zz_in (i := 382) (by decide +kernel) rfl
theorem kX4_137 : Cond.constantLong RX4 137 (2) ∈ zz_t := zz_in (i := 356) (by decide +kernel) rfl
theorem kX7_271 : Cond.constantLong RX7 271 (2) ∈ zz_t := zz_in (i := 360) (by decide +kernel) rfl
theorem kX7_278 : Cond.constantLong RX7 278 (720) ∈ zz_t := zz_in (i := 370) (by decide +kernel) rfl
theorem kX7_280 : Cond.constantLong RX7 280 (40000) ∈ zz_t := zz_in (i := 371) (by decide +kernel) rfl
theorem kX7_282 : Cond.constantLong RX7 282 (648000) ∈ zz_t := zz_in (i := 372) (by decide +kernel) rfl
theorem nL_13 : Cond.classLink RL 13 RX7 ∈ zz_t := zz_in (i := 15) (by decide +kernel) rfl
theorem nX2_9 : Cond.classLink RX2 9 RX5 ∈ zz_t := zz_in (i := 157) (by decide +kernel) rfl
theorem nX4_9 : Cond.classLink RX4 9 RX6 ∈ zz_t := zz_in (i := 35) (by decide +kernel) rfl
theorem nX4_24 : Cond.classLink RX4 24 RX0 ∈ zz_t := zz_in (i := 37) (by decide +kernel) rfl
theorem nX5_9 : Cond.classLink RX5 9 RX4 ∈ zz_t := zz_in (i := 29) (by decide +kernel) rfl
theorem nX7_7 : Cond.classLink RX7 7 RX5 ∈ zz_t := zz_in (i := 23) (by decide +kernel) rfl
theorem nX7_16 : Cond.classLink RX7 16 RX2 ∈ zz_t := zz_in (i := 151) (by decide +kernel) rfl
theorem nX7_23 : Cond.classLink RX7 23 RX3 ∈ zz_t := zz_in (i := 171) (by decide +kernel) rfl
theorem nX7_30 : Cond.classLink RX7 30 RX1 ∈ zz_t := zz_in (i := 192) (by decide +kernel) rfl
theorem n_inst0 : Cond.instantiable (zz_cn 0) (zz_n 0) ∈ zz_t ∧ Cond.initialized (zz_cn 0) ∈ zz_t := ⟨zz_in (i := 57) (by decide +kernel) rfl, zz_in (i := 8) (by decide +kernel) rfl⟩
theorem n_inst1 : Cond.instantiable (zz_cn 1) (zz_n 1) ∈ zz_t ∧ Cond.initialized (zz_cn 1) ∈ zz_t := ⟨zz_in (i := 193) (by decide +kernel) rfl, zz_in (i := 11) (by decide +kernel) rfl⟩
theorem n_inst2 : Cond.instantiable (zz_cn 2) (zz_n 2) ∈ zz_t ∧ Cond.initialized (zz_cn 2) ∈ zz_t := ⟨zz_in (i := 152) (by decide +kernel) rfl, zz_in (i := 9) (by decide +kernel) rfl⟩
theorem n_inst3 : Cond.instantiable (zz_cn 3) (zz_n 3) ∈ zz_t ∧ Cond.initialized (zz_cn 3) ∈ zz_t := ⟨zz_in (i := 172) (by decide +kernel) rfl, zz_in (i := 10) (by decide +kernel) rfl⟩
theorem n_inst4 : Cond.instantiable (zz_cn 4) (zz_n 4) ∈ zz_t ∧ Cond.initialized (zz_cn 4) ∈ zz_t := ⟨zz_in (i := 30) (by decide +kernel) rfl, zz_in (i := 6) (by decide +kernel) rfl⟩
theorem n_inst5 : Cond.instantiable (zz_cn 5) (zz_n 5) ∈ zz_t ∧ Cond.initialized (zz_cn 5) ∈ zz_t := ⟨zz_in (i := 24) (by decide +kernel) rfl, zz_in (i := 5) (by decide +kernel) rfl⟩
theorem n_inst6 : Cond.instantiable (zz_cn 6) (zz_n 6) ∈ zz_t ∧ Cond.initialized (zz_cn 6) ∈ zz_t := ⟨zz_in (i := 39) (by decide +kernel) rfl, zz_in (i := 7) (by decide +kernel) rfl⟩
theorem n_inst7 : Cond.instantiable (zz_cn 7) (zz_n 7) ∈ zz_t ∧ Cond.initialized (zz_cn 7) ∈ zz_t := ⟨zz_in (i := 16) (by decide +kernel) rfl, zz_in (i := 4) (by decide +kernel) rfl⟩
theorem n_objIn : Cond.instanceMethod objectInit ∈ zz_t := zz_in (i := 21) (by decide +kernel) rfl
theorem n_objCo : Cond.code objectInit ⟨#[0xb1]⟩ 1 none ∈ zz_t := zz_in (i := 22) (by decide +kernel) rfl
theorem n_absSt : Cond.static Lib.Math.abs.name ∈ zz_t := zz_in (i := 317) (by decide +kernel) rfl
theorem n_absCo : Cond.code Lib.Math.abs.name Lib.Math.abs.code 1 (some .int) ∈ zz_t := zz_in (i := 318) (by decide +kernel) rfl
theorem n_minSt : Cond.static Lib.Math.min.name ∈ zz_t := zz_in (i := 276) (by decide +kernel) rfl
theorem n_minCo : Cond.code Lib.Math.min.name Lib.Math.min.code 2 (some .int) ∈ zz_t := zz_in (i := 277) (by decide +kernel) rfl
theorem n_MathIni : Cond.initialized "java/lang/Math" ∈ zz_t := zz_in (i := 13) (by decide +kernel) rfl
theorem n_SysIni : Cond.initialized "java/lang/System" ∈ zz_t := zz_in (i := 12) (by decide +kernel) rfl
theorem n_acNa : Cond.native arraycopyName ∈ zz_t := zz_in (i := 252) (by decide +kernel) rfl
theorem n_acSt : Cond.static arraycopyName ∈ zz_t := zz_in (i := 251) (by decide +kernel) rfl
theorem n_arrI : Cond.arrayClass .int ∈ zz_t := zz_in (i := 56) (by decide +kernel) rfl
theorem n_arrZ : Cond.arrayClass .boolean ∈ zz_t := zz_in (i := 150) (by decide +kernel) rfl
theorem n_arrC : Cond.arrayClass .char ∈ zz_t := zz_in (i := 191) (by decide +kernel) rfl
