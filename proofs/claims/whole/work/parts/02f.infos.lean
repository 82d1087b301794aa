/-! methods, links, fields, constants: by program out of the tables -/
def mJ0_charAt_5068e : ZY := (yJ0_charAt_5068e, cJ0_charAt_5068e, 2, (some .char))
theorem yy_J0_charAt_5068e : zz_YV mJ0_charAt_5068e 1 := ⟨⟨zz_in (i := 60) (by decide +kernel) rfl, zz_in (i := 611) (by decide +kernel) rfl, ⟨by decide +kernel, by decide +kernel, by decide +kernel⟩, by decide⟩, zz_in (i := 609) (by decide +kernel) rfl, zz_in (i := 610) (by decide +kernel) rfl⟩
def mJ0_checkIndex_df160 : ZY := (yJ0_checkIndex_df160, cJ0_checkIndex_df160, 2, none)
theorem yy_J0_checkIndex_df160 : zz_YS mJ0_checkIndex_df160 2 := ⟨⟨zz_in (i := 60) (by decide +kernel) rfl, zz_in (i := 621) (by decide +kernel) rfl, ⟨by decide +kernel, by decide +kernel, by decide +kernel⟩, by decide⟩, zz_in (i := 620) (by decide +kernel) rfl⟩
def mJ0_coder_7d493 : ZY := (yJ0_coder_7d493, cJ0_coder_7d493, 1, (some .byte))
theorem yy_J0_coder_7d493 : zz_YV mJ0_coder_7d493 0 := ⟨⟨zz_in (i := 60) (by decide +kernel) rfl, zz_in (i := 605) (by decide +kernel) rfl, ⟨by decide +kernel, by decide +kernel, by decide +kernel⟩, by decide⟩, zz_in (i := 603) (by decide +kernel) rfl, zz_in (i := 604) (by decide +kernel) rfl⟩
def mJ0_isLatin1_aae02 : ZY := (yJ0_isLatin1_aae02, cJ0_isLatin1_aae02, 1, (some .boolean))
theorem yy_J0_isLatin1_aae02 : zz_YV mJ0_isLatin1_aae02 0 := ⟨⟨zz_in (i := 60) (by decide +kernel) rfl, zz_in (i := 615) (by decide +kernel) rfl, ⟨by decide +kernel, by decide +kernel, by decide +kernel⟩, by decide⟩, zz_in (i := 613) (by decide +kernel) rfl, zz_in (i := 614) (by decide +kernel) rfl⟩
def mJ0_length_8abf5 : ZY := (yJ0_length_8abf5, cJ0_length_8abf5, 1, (some .int))
theorem yy_J0_length_8abf5 : zz_YV mJ0_length_8abf5 0 := ⟨⟨zz_in (i := 60) (by decide +kernel) rfl, zz_in (i := 601) (by decide +kernel) rfl, ⟨by decide +kernel, by decide +kernel, by decide +kernel⟩, by decide⟩, zz_in (i := 599) (by decide +kernel) rfl, zz_in (i := 600) (by decide +kernel) rfl⟩
def mJ1_charAt_3b067 : ZY := (yJ1_charAt_3b067, cJ1_charAt_3b067, 2, (some .char))
theorem yy_J1_charAt_3b067 : zz_YS mJ1_charAt_3b067 2 := ⟨⟨zz_in (i := 61) (by decide +kernel) rfl, zz_in (i := 618) (by decide +kernel) rfl, ⟨by decide +kernel, by decide +kernel, by decide +kernel⟩, by decide⟩, zz_in (i := 617) (by decide +kernel) rfl⟩
def mJ2_charAt_3b067 : ZY := (yJ2_charAt_3b067, cJ2_charAt_3b067, 2, (some .char))
theorem yy_J2_charAt_3b067 : zz_YS mJ2_charAt_3b067 2 := ⟨⟨zz_in (i := 63) (by decide +kernel) rfl, zz_in (i := 629) (by decide +kernel) rfl, ⟨by decide +kernel, by decide +kernel, by decide +kernel⟩, by decide⟩, zz_in (i := 628) (by decide +kernel) rfl⟩
def mJ2_checkIndex_2214a : ZY := (yJ2_checkIndex_2214a, cJ2_checkIndex_2214a, 2, none)
theorem yy_J2_checkIndex_2214a : zz_YS mJ2_checkIndex_2214a 2 := ⟨⟨zz_in (i := 63) (by decide +kernel) rfl, zz_in (i := 632) (by decide +kernel) rfl, ⟨by decide +kernel, by decide +kernel, by decide +kernel⟩, by decide⟩, zz_in (i := 631) (by decide +kernel) rfl⟩
def mJ2_getChar_3b067 : ZY := (yJ2_getChar_3b067, cJ2_getChar_3b067, 2, (some .char))
theorem yy_J2_getChar_3b067 : zz_YS mJ2_getChar_3b067 2 := ⟨⟨zz_in (i := 63) (by decide +kernel) rfl, zz_in (i := 639) (by decide +kernel) rfl, ⟨by decide +kernel, by decide +kernel, by decide +kernel⟩, by decide⟩, zz_in (i := 638) (by decide +kernel) rfl⟩
def mJ2_length_9d52b : ZY := (yJ2_length_9d52b, cJ2_length_9d52b, 1, (some .int))
theorem yy_J2_length_9d52b : zz_YS mJ2_length_9d52b 1 := ⟨⟨zz_in (i := 63) (by decide +kernel) rfl, zz_in (i := 635) (by decide +kernel) rfl, ⟨by decide +kernel, by decide +kernel, by decide +kernel⟩, by decide⟩, zz_in (i := 634) (by decide +kernel) rfl⟩
def mJ3_checkIndex_8e157 : ZY := (yJ3_checkIndex_8e157, cJ3_checkIndex_8e157, 3, (some .int))
theorem yy_J3_checkIndex_8e157 : zz_YS mJ3_checkIndex_8e157 3 := ⟨⟨zz_in (i := 62) (by decide +kernel) rfl, zz_in (i := 626) (by decide +kernel) rfl, ⟨by decide +kernel, by decide +kernel, by decide +kernel⟩, by decide⟩, zz_in (i := 625) (by decide +kernel) rfl⟩
def mJ6_bitCount_0f7a4 : ZY := (yJ6_bitCount_0f7a4, cJ6_bitCount_0f7a4, 1, (some .int))
theorem yy_J6_bitCount_0f7a4 : zz_YS mJ6_bitCount_0f7a4 1 := ⟨⟨zz_in (i := 59) (by decide +kernel) rfl, zz_in (i := 494) (by decide +kernel) rfl, ⟨by decide +kernel, by decide +kernel, by decide +kernel⟩, by decide⟩, zz_in (i := 493) (by decide +kernel) rfl⟩
def mJ9_abs_0f7a4 : ZY := (yJ9_abs_0f7a4, cJ9_abs_0f7a4, 1, (some .int))
theorem yy_J9_abs_0f7a4 : zz_YS mJ9_abs_0f7a4 1 := ⟨⟨zz_in (i := 58) (by decide +kernel) rfl, zz_in (i := 372) (by decide +kernel) rfl, ⟨by decide +kernel, by decide +kernel, by decide +kernel⟩, by decide⟩, zz_in (i := 371) (by decide +kernel) rfl⟩
def mJ9_min_7cf53 : ZY := (yJ9_min_7cf53, cJ9_min_7cf53, 2, (some .int))
theorem yy_J9_min_7cf53 : zz_YS mJ9_min_7cf53 2 := ⟨⟨zz_in (i := 58) (by decide +kernel) rfl, zz_in (i := 331) (by decide +kernel) rfl, ⟨by decide +kernel, by decide +kernel, by decide +kernel⟩, by decide⟩, zz_in (i := 330) (by decide +kernel) rfl⟩
def mX0_copyFrom : ZY := (yX0_copyFrom, cX0_copyFrom, 2, none)
theorem yy_X0_copyFrom : zz_YV mX0_copyFrom 1 := ⟨⟨zz_in (i := 52) (by decide +kernel) rfl, zz_in (i := 303) (by decide +kernel) rfl, ⟨by decide +kernel, by decide +kernel, by decide +kernel⟩, by decide⟩, zz_in (i := 301) (by decide +kernel) rfl, zz_in (i := 302) (by decide +kernel) rfl⟩
def mX0_init : ZY := (yX0_init, cX0_init, 1, none)
theorem yy_X0_init : zz_YI mX0_init 0 := ⟨⟨zz_in (i := 52) (by decide +kernel) rfl, zz_in (i := 109) (by decide +kernel) rfl, ⟨by decide +kernel, by decide +kernel, by decide +kernel⟩, by decide⟩, zz_in (i := 108) (by decide +kernel) rfl, rfl, rfl⟩
def mX0_isByWallNow : ZY := (yX0_isByWallNow, cX0_isByWallNow, 1, (some .boolean))
theorem yy_X0_isByWallNow : zz_YV mX0_isByWallNow 0 := ⟨⟨zz_in (i := 52) (by decide +kernel) rfl, zz_in (i := 405) (by decide +kernel) rfl, ⟨by decide +kernel, by decide +kernel, by decide +kernel⟩, by decide⟩, zz_in (i := 403) (by decide +kernel) rfl, zz_in (i := 404) (by decide +kernel) rfl⟩
def mX0_weight : ZY := (yX0_weight, cX0_weight, 1, (some .int))
theorem yy_X0_weight : zz_YV mX0_weight 0 := ⟨⟨zz_in (i := 52) (by decide +kernel) rfl, zz_in (i := 458) (by decide +kernel) rfl, ⟨by decide +kernel, by decide +kernel, by decide +kernel⟩, by decide⟩, zz_in (i := 456) (by decide +kernel) rfl, zz_in (i := 457) (by decide +kernel) rfl⟩
def mX1_compareReadings : ZY := (yX1_compareReadings, cX1_compareReadings, 5, none)
theorem yy_X1_compareReadings : zz_YV mX1_compareReadings 0 := ⟨⟨zz_in (i := 55) (by decide +kernel) rfl, zz_in (i := 449) (by decide +kernel) rfl, ⟨by decide +kernel, by decide +kernel, by decide +kernel⟩, by decide⟩, zz_in (i := 447) (by decide +kernel) rfl, zz_in (i := 448) (by decide +kernel) rfl⟩
def mX1_countLines : ZY := (yX1_countLines, cX1_countLines, 3, (some .int))
theorem yy_X1_countLines : zz_YV mX1_countLines 0 := ⟨⟨zz_in (i := 55) (by decide +kernel) rfl, zz_in (i := 440) (by decide +kernel) rfl, ⟨by decide +kernel, by decide +kernel, by decide +kernel⟩, by decide⟩, zz_in (i := 438) (by decide +kernel) rfl, zz_in (i := 439) (by decide +kernel) rfl⟩
def mX1_firstLine : ZY := (yX1_firstLine, cX1_firstLine, 2, (some .int))
theorem yy_X1_firstLine : zz_YV mX1_firstLine 0 := ⟨⟨zz_in (i := 55) (by decide +kernel) rfl, zz_in (i := 714) (by decide +kernel) rfl, ⟨by decide +kernel, by decide +kernel, by decide +kernel⟩, by decide⟩, zz_in (i := 712) (by decide +kernel) rfl, zz_in (i := 713) (by decide +kernel) rfl⟩
def mX1_init : ZY := (yX1_init, cX1_init, 1, none)
theorem yy_X1_init : zz_YI mX1_init 0 := ⟨⟨zz_in (i := 55) (by decide +kernel) rfl, zz_in (i := 250) (by decide +kernel) rfl, ⟨by decide +kernel, by decide +kernel, by decide +kernel⟩, by decide⟩, zz_in (i := 249) (by decide +kernel) rfl, rfl, rfl⟩
def mX1_lastLine : ZY := (yX1_lastLine, cX1_lastLine, 2, (some .int))
theorem yy_X1_lastLine : zz_YV mX1_lastLine 0 := ⟨⟨zz_in (i := 55) (by decide +kernel) rfl, zz_in (i := 718) (by decide +kernel) rfl, ⟨by decide +kernel, by decide +kernel, by decide +kernel⟩, by decide⟩, zz_in (i := 716) (by decide +kernel) rfl, zz_in (i := 717) (by decide +kernel) rfl⟩
def mX1_lay : ZY := (yX1_lay, cX1_lay, 17, none)
theorem yy_X1_lay : zz_YV mX1_lay 3 := ⟨⟨zz_in (i := 55) (by decide +kernel) rfl, zz_in (i := 419) (by decide +kernel) rfl, ⟨by decide +kernel, by decide +kernel, by decide +kernel⟩, by decide⟩, zz_in (i := 417) (by decide +kernel) rfl, zz_in (i := 418) (by decide +kernel) rfl⟩
def mX1_offsetAt : ZY := (yX1_offsetAt, cX1_offsetAt, 2, (some .int))
theorem yy_X1_offsetAt : zz_YV mX1_offsetAt 1 := ⟨⟨zz_in (i := 55) (by decide +kernel) rfl, zz_in (i := 444) (by decide +kernel) rfl, ⟨by decide +kernel, by decide +kernel, by decide +kernel⟩, by decide⟩, zz_in (i := 442) (by decide +kernel) rfl, zz_in (i := 443) (by decide +kernel) rfl⟩
def mX1_offsetOfShadow : ZY := (yX1_offsetOfShadow, cX1_offsetOfShadow, 6, (some .int))
theorem yy_X1_offsetOfShadow : zz_YS mX1_offsetOfShadow 2 := ⟨⟨zz_in (i := 55) (by decide +kernel) rfl, zz_in (i := 431) (by decide +kernel) rfl, ⟨by decide +kernel, by decide +kernel, by decide +kernel⟩, by decide⟩, zz_in (i := 430) (by decide +kernel) rfl⟩
def mX1_readingByLines : ZY := (yX1_readingByLines, cX1_readingByLines, 5, (some .int))
theorem yy_X1_readingByLines : zz_YV mX1_readingByLines 1 := ⟨⟨zz_in (i := 55) (by decide +kernel) rfl, zz_in (i := 453) (by decide +kernel) rfl, ⟨by decide +kernel, by decide +kernel, by decide +kernel⟩, by decide⟩, zz_in (i := 451) (by decide +kernel) rfl, zz_in (i := 452) (by decide +kernel) rfl⟩
def mX1_readingByShadow : ZY := (yX1_readingByShadow, cX1_readingByShadow, 7, (some .int))
theorem yy_X1_readingByShadow : zz_YV mX1_readingByShadow 1 := ⟨⟨zz_in (i := 55) (by decide +kernel) rfl, zz_in (i := 727) (by decide +kernel) rfl, ⟨by decide +kernel, by decide +kernel, by decide +kernel⟩, by decide⟩, zz_in (i := 725) (by decide +kernel) rfl, zz_in (i := 726) (by decide +kernel) rfl⟩
def mX2_init : ZY := (yX2_init, cX2_init, 2, none)
theorem yy_X2_init : zz_YI mX2_init 0 := ⟨⟨zz_in (i := 53) (by decide +kernel) rfl, zz_in (i := 204) (by decide +kernel) rfl, ⟨by decide +kernel, by decide +kernel, by decide +kernel⟩, by decide⟩, zz_in (i := 203) (by decide +kernel) rfl, rfl, rfl⟩
def mX2_keepMarked : ZY := (yX2_keepMarked, cX2_keepMarked, 1, none)
theorem yy_X2_keepMarked : zz_YV mX2_keepMarked 0 := ⟨⟨zz_in (i := 53) (by decide +kernel) rfl, zz_in (i := 328) (by decide +kernel) rfl, ⟨by decide +kernel, by decide +kernel, by decide +kernel⟩, by decide⟩, zz_in (i := 326) (by decide +kernel) rfl, zz_in (i := 327) (by decide +kernel) rfl⟩
def mX2_mark : ZY := (yX2_mark, cX2_mark, 2, none)
theorem yy_X2_mark : zz_YV mX2_mark 1 := ⟨⟨zz_in (i := 53) (by decide +kernel) rfl, zz_in (i := 287) (by decide +kernel) rfl, ⟨by decide +kernel, by decide +kernel, by decide +kernel⟩, by decide⟩, zz_in (i := 285) (by decide +kernel) rfl, zz_in (i := 286) (by decide +kernel) rfl⟩
def mX2_returnToMarked : ZY := (yX2_returnToMarked, cX2_returnToMarked, 2, none)
theorem yy_X2_returnToMarked : zz_YV mX2_returnToMarked 1 := ⟨⟨zz_in (i := 53) (by decide +kernel) rfl, zz_in (i := 540) (by decide +kernel) rfl, ⟨by decide +kernel, by decide +kernel, by decide +kernel⟩, by decide⟩, zz_in (i := 538) (by decide +kernel) rfl, zz_in (i := 539) (by decide +kernel) rfl⟩
def mX2_stepBack : ZY := (yX2_stepBack, cX2_stepBack, 2, none)
theorem yy_X2_stepBack : zz_YV mX2_stepBack 1 := ⟨⟨zz_in (i := 53) (by decide +kernel) rfl, zz_in (i := 536) (by decide +kernel) rfl, ⟨by decide +kernel, by decide +kernel, by decide +kernel⟩, by decide⟩, zz_in (i := 534) (by decide +kernel) rfl, zz_in (i := 535) (by decide +kernel) rfl⟩
def mX3_add : ZY := (yX3_add, cX3_add, 2, (some .int))
theorem yy_X3_add : zz_YV mX3_add 1 := ⟨⟨zz_in (i := 54) (by decide +kernel) rfl, zz_in (i := 548) (by decide +kernel) rfl, ⟨by decide +kernel, by decide +kernel, by decide +kernel⟩, by decide⟩, zz_in (i := 546) (by decide +kernel) rfl, zz_in (i := 547) (by decide +kernel) rfl⟩
def mX3_advance : ZY := (yX3_advance, cX3_advance, 2, (some .boolean))
theorem yy_X3_advance : zz_YV mX3_advance 0 := ⟨⟨zz_in (i := 54) (by decide +kernel) rfl, zz_in (i := 571) (by decide +kernel) rfl, ⟨by decide +kernel, by decide +kernel, by decide +kernel⟩, by decide⟩, zz_in (i := 569) (by decide +kernel) rfl, zz_in (i := 570) (by decide +kernel) rfl⟩
def mX3_commandOfToken : ZY := (yX3_commandOfToken, cX3_commandOfToken, 2, (some .int))
theorem yy_X3_commandOfToken : zz_YV mX3_commandOfToken 0 := ⟨⟨zz_in (i := 54) (by decide +kernel) rfl, zz_in (i := 582) (by decide +kernel) rfl, ⟨by decide +kernel, by decide +kernel, by decide +kernel⟩, by decide⟩, zz_in (i := 580) (by decide +kernel) rfl, zz_in (i := 581) (by decide +kernel) rfl⟩
def mX3_empty : ZY := (yX3_empty, cX3_empty, 2, (some .int))
theorem yy_X3_empty : zz_YV mX3_empty 0 := ⟨⟨zz_in (i := 54) (by decide +kernel) rfl, zz_in (i := 559) (by decide +kernel) rfl, ⟨by decide +kernel, by decide +kernel, by decide +kernel⟩, by decide⟩, zz_in (i := 557) (by decide +kernel) rfl, zz_in (i := 558) (by decide +kernel) rfl⟩
def mX3_init : ZY := (yX3_init, cX3_init, 1, none)
theorem yy_X3_init : zz_YI mX3_init 0 := ⟨⟨zz_in (i := 54) (by decide +kernel) rfl, zz_in (i := 224) (by decide +kernel) rfl, ⟨by decide +kernel, by decide +kernel, by decide +kernel⟩, by decide⟩, zz_in (i := 223) (by decide +kernel) rfl, rfl, rfl⟩
def mX3_kindOf : ZY := (yX3_kindOf, cX3_kindOf, 1, (some .int))
theorem yy_X3_kindOf : zz_YS mX3_kindOf 1 := ⟨⟨zz_in (i := 54) (by decide +kernel) rfl, zz_in (i := 574) (by decide +kernel) rfl, ⟨by decide +kernel, by decide +kernel, by decide +kernel⟩, by decide⟩, zz_in (i := 573) (by decide +kernel) rfl⟩
def mX3_numberOfToken : ZY := (yX3_numberOfToken, cX3_numberOfToken, 4, (some .int))
theorem yy_X3_numberOfToken : zz_YV mX3_numberOfToken 0 := ⟨⟨zz_in (i := 54) (by decide +kernel) rfl, zz_in (i := 653) (by decide +kernel) rfl, ⟨by decide +kernel, by decide +kernel, by decide +kernel⟩, by decide⟩, zz_in (i := 651) (by decide +kernel) rfl, zz_in (i := 652) (by decide +kernel) rfl⟩
def mX3_parseCommand : ZY := (yX3_parseCommand, cX3_parseCommand, 5, (some .int))
theorem yy_X3_parseCommand : zz_YV mX3_parseCommand 0 := ⟨⟨zz_in (i := 54) (by decide +kernel) rfl, zz_in (i := 578) (by decide +kernel) rfl, ⟨by decide +kernel, by decide +kernel, by decide +kernel⟩, by decide⟩, zz_in (i := 576) (by decide +kernel) rfl, zz_in (i := 577) (by decide +kernel) rfl⟩
def mX3_rewind : ZY := (yX3_rewind, cX3_rewind, 1, none)
theorem yy_X3_rewind : zz_YV mX3_rewind 0 := ⟨⟨zz_in (i := 54) (by decide +kernel) rfl, zz_in (i := 567) (by decide +kernel) rfl, ⟨by decide +kernel, by decide +kernel, by decide +kernel⟩, by decide⟩, zz_in (i := 565) (by decide +kernel) rfl, zz_in (i := 566) (by decide +kernel) rfl⟩
def mX3_tokenIs : ZY := (yX3_tokenIs, cX3_tokenIs, 3, (some .boolean))
theorem yy_X3_tokenIs : zz_YV mX3_tokenIs 1 := ⟨⟨zz_in (i := 54) (by decide +kernel) rfl, zz_in (i := 597) (by decide +kernel) rfl, ⟨by decide +kernel, by decide +kernel, by decide +kernel⟩, by decide⟩, zz_in (i := 595) (by decide +kernel) rfl, zz_in (i := 596) (by decide +kernel) rfl⟩
def mX3_wordOf : ZY := (yX3_wordOf, cX3_wordOf, 1, (some (.object "java/lang/String")))
theorem yy_X3_wordOf : zz_YS mX3_wordOf 1 := ⟨⟨zz_in (i := 54) (by decide +kernel) rfl, zz_in (i := 585) (by decide +kernel) rfl, ⟨by decide +kernel, by decide +kernel, by decide +kernel⟩, by decide⟩, zz_in (i := 584) (by decide +kernel) rfl⟩
def mX4_acceptedOnes : ZY := (yX4_acceptedOnes, cX4_acceptedOnes, 3, (some .int))
theorem yy_X4_acceptedOnes : zz_YV mX4_acceptedOnes 0 := ⟨⟨zz_in (i := 50) (by decide +kernel) rfl, zz_in (i := 486) (by decide +kernel) rfl, ⟨by decide +kernel, by decide +kernel, by decide +kernel⟩, by decide⟩, zz_in (i := 484) (by decide +kernel) rfl, zz_in (i := 485) (by decide +kernel) rfl⟩
def mX4_castMelt : ZY := (yX4_castMelt, cX4_castMelt, 3, (some .int))
theorem yy_X4_castMelt : zz_YV mX4_castMelt 0 := ⟨⟨zz_in (i := 50) (by decide +kernel) rfl, zz_in (i := 482) (by decide +kernel) rfl, ⟨by decide +kernel, by decide +kernel, by decide +kernel⟩, by decide⟩, zz_in (i := 480) (by decide +kernel) rfl, zz_in (i := 481) (by decide +kernel) rfl⟩
def mX4_changeCorrection : ZY := (yX4_changeCorrection, cX4_changeCorrection, 4, (some .int))
theorem yy_X4_changeCorrection : zz_YV mX4_changeCorrection 2 := ⟨⟨zz_in (i := 50) (by decide +kernel) rfl, zz_in (i := 310) (by decide +kernel) rfl, ⟨by decide +kernel, by decide +kernel, by decide +kernel⟩, by decide⟩, zz_in (i := 308) (by decide +kernel) rfl, zz_in (i := 309) (by decide +kernel) rfl⟩
def mX4_changeSetting : ZY := (yX4_changeSetting, cX4_changeSetting, 4, (some .int))
theorem yy_X4_changeSetting : zz_YV mX4_changeSetting 2 := ⟨⟨zz_in (i := 50) (by decide +kernel) rfl, zz_in (i := 339) (by decide +kernel) rfl, ⟨by decide +kernel, by decide +kernel, by decide +kernel⟩, by decide⟩, zz_in (i := 337) (by decide +kernel) rfl, zz_in (i := 338) (by decide +kernel) rfl⟩
def mX4_commissionsForWall : ZY := (yX4_commissionsForWall, cX4_commissionsForWall, 4, (some .int))
theorem yy_X4_commissionsForWall : zz_YV mX4_commissionsForWall 1 := ⟨⟨zz_in (i := 50) (by decide +kernel) rfl, zz_in (i := 687) (by decide +kernel) rfl, ⟨by decide +kernel, by decide +kernel, by decide +kernel⟩, by decide⟩, zz_in (i := 685) (by decide +kernel) rfl, zz_in (i := 686) (by decide +kernel) rfl⟩
def mX4_commissionsInState : ZY := (yX4_commissionsInState, cX4_commissionsInState, 4, (some .int))
theorem yy_X4_commissionsInState : zz_YV mX4_commissionsInState 1 := ⟨⟨zz_in (i := 50) (by decide +kernel) rfl, zz_in (i := 509) (by decide +kernel) rfl, ⟨by decide +kernel, by decide +kernel, by decide +kernel⟩, by decide⟩, zz_in (i := 507) (by decide +kernel) rfl, zz_in (i := 508) (by decide +kernel) rfl⟩
def mX4_conclude : ZY := (yX4_conclude, cX4_conclude, 4, (some .int))
theorem yy_X4_conclude : zz_YV mX4_conclude 2 := ⟨⟨zz_in (i := 50) (by decide +kernel) rfl, zz_in (i := 464) (by decide +kernel) rfl, ⟨by decide +kernel, by decide +kernel, by decide +kernel⟩, by decide⟩, zz_in (i := 462) (by decide +kernel) rfl, zz_in (i := 463) (by decide +kernel) rfl⟩
def mX4_copyFrom : ZY := (yX4_copyFrom, cX4_copyFrom, 3, none)
theorem yy_X4_copyFrom : zz_YV mX4_copyFrom 1 := ⟨⟨zz_in (i := 50) (by decide +kernel) rfl, zz_in (i := 295) (by decide +kernel) rfl, ⟨by decide +kernel, by decide +kernel, by decide +kernel⟩, by decide⟩, zz_in (i := 293) (by decide +kernel) rfl, zz_in (i := 294) (by decide +kernel) rfl⟩
def mX4_declinationOfDial : ZY := (yX4_declinationOfDial, cX4_declinationOfDial, 3, (some .int))
theorem yy_X4_declinationOfDial : zz_YV mX4_declinationOfDial 1 := ⟨⟨zz_in (i := 50) (by decide +kernel) rfl, zz_in (i := 400) (by decide +kernel) rfl, ⟨by decide +kernel, by decide +kernel, by decide +kernel⟩, by decide⟩, zz_in (i := 398) (by decide +kernel) rfl, zz_in (i := 399) (by decide +kernel) rfl⟩
def mX4_declinationOfWall : ZY := (yX4_declinationOfWall, cX4_declinationOfWall, 2, (some .int))
theorem yy_X4_declinationOfWall : zz_YV mX4_declinationOfWall 1 := ⟨⟨zz_in (i := 50) (by decide +kernel) rfl, zz_in (i := 409) (by decide +kernel) rfl, ⟨by decide +kernel, by decide +kernel, by decide +kernel⟩, by decide⟩, zz_in (i := 407) (by decide +kernel) rfl, zz_in (i := 408) (by decide +kernel) rfl⟩
def mX4_handOver : ZY := (yX4_handOver, cX4_handOver, 2, (some .int))
theorem yy_X4_handOver : zz_YV mX4_handOver 1 := ⟨⟨zz_in (i := 50) (by decide +kernel) rfl, zz_in (i := 505) (by decide +kernel) rfl, ⟨by decide +kernel, by decide +kernel, by decide +kernel⟩, by decide⟩, zz_in (i := 503) (by decide +kernel) rfl, zz_in (i := 504) (by decide +kernel) rfl⟩
def mX4_hasCommission : ZY := (yX4_hasCommission, cX4_hasCommission, 2, (some .boolean))
theorem yy_X4_hasCommission : zz_YV mX4_hasCommission 1 := ⟨⟨zz_in (i := 50) (by decide +kernel) rfl, zz_in (i := 392) (by decide +kernel) rfl, ⟨by decide +kernel, by decide +kernel, by decide +kernel⟩, by decide⟩, zz_in (i := 390) (by decide +kernel) rfl, zz_in (i := 391) (by decide +kernel) rfl⟩
def mX4_hasWall : ZY := (yX4_hasWall, cX4_hasWall, 2, (some .boolean))
theorem yy_X4_hasWall : zz_YV mX4_hasWall 1 := ⟨⟨zz_in (i := 50) (by decide +kernel) rfl, zz_in (i := 365) (by decide +kernel) rfl, ⟨by decide +kernel, by decide +kernel, by decide +kernel⟩, by decide⟩, zz_in (i := 363) (by decide +kernel) rfl, zz_in (i := 364) (by decide +kernel) rfl⟩
def mX4_init : ZY := (yX4_init, cX4_init, 2, none)
theorem yy_X4_init : zz_YI mX4_init 0 := ⟨⟨zz_in (i := 50) (by decide +kernel) rfl, zz_in (i := 82) (by decide +kernel) rfl, ⟨by decide +kernel, by decide +kernel, by decide +kernel⟩, by decide⟩, zz_in (i := 81) (by decide +kernel) rfl, rfl, rfl⟩
def mX4_knownWalls : ZY := (yX4_knownWalls, cX4_knownWalls, 3, (some .int))
theorem yy_X4_knownWalls : zz_YV mX4_knownWalls 0 := ⟨⟨zz_in (i := 50) (by decide +kernel) rfl, zz_in (i := 672) (by decide +kernel) rfl, ⟨by decide +kernel, by decide +kernel, by decide +kernel⟩, by decide⟩, zz_in (i := 670) (by decide +kernel) rfl, zz_in (i := 671) (by decide +kernel) rfl⟩
def mX4_measureWall : ZY := (yX4_measureWall, cX4_measureWall, 4, (some .int))
theorem yy_X4_measureWall : zz_YV mX4_measureWall 2 := ⟨⟨zz_in (i := 50) (by decide +kernel) rfl, zz_in (i := 361) (by decide +kernel) rfl, ⟨by decide +kernel, by decide +kernel, by decide +kernel⟩, by decide⟩, zz_in (i := 359) (by decide +kernel) rfl, zz_in (i := 360) (by decide +kernel) rfl⟩
def mX4_meltsNeeded : ZY := (yX4_meltsNeeded, cX4_meltsNeeded, 4, (some .int))
theorem yy_X4_meltsNeeded : zz_YV mX4_meltsNeeded 0 := ⟨⟨zz_in (i := 50) (by decide +kernel) rfl, zz_in (i := 747) (by decide +kernel) rfl, ⟨by decide +kernel, by decide +kernel, by decide +kernel⟩, by decide⟩, zz_in (i := 745) (by decide +kernel) rfl, zz_in (i := 746) (by decide +kernel) rfl⟩
def mX4_nextMelt : ZY := (yX4_nextMelt, cX4_nextMelt, 6, (some .int))
theorem yy_X4_nextMelt : zz_YV mX4_nextMelt 1 := ⟨⟨zz_in (i := 50) (by decide +kernel) rfl, zz_in (i := 490) (by decide +kernel) rfl, ⟨by decide +kernel, by decide +kernel, by decide +kernel⟩, by decide⟩, zz_in (i := 488) (by decide +kernel) rfl, zz_in (i := 489) (by decide +kernel) rfl⟩
def mX4_openCommission : ZY := (yX4_openCommission, cX4_openCommission, 6, (some .int))
theorem yy_X4_openCommission : zz_YV mX4_openCommission 4 := ⟨⟨zz_in (i := 50) (by decide +kernel) rfl, zz_in (i := 380) (by decide +kernel) rfl, ⟨by decide +kernel, by decide +kernel, by decide +kernel⟩, by decide⟩, zz_in (i := 378) (by decide +kernel) rfl, zz_in (i := 379) (by decide +kernel) rfl⟩
def mX4_openWall : ZY := (yX4_openWall, cX4_openWall, 2, (some .int))
theorem yy_X4_openWall : zz_YV mX4_openWall 0 := ⟨⟨zz_in (i := 50) (by decide +kernel) rfl, zz_in (i := 351) (by decide +kernel) rfl, ⟨by decide +kernel, by decide +kernel, by decide +kernel⟩, by decide⟩, zz_in (i := 349) (by decide +kernel) rfl, zz_in (i := 350) (by decide +kernel) rfl⟩
def mX4_reopen : ZY := (yX4_reopen, cX4_reopen, 3, (some .int))
theorem yy_X4_reopen : zz_YV mX4_reopen 2 := ⟨⟨zz_in (i := 50) (by decide +kernel) rfl, zz_in (i := 474) (by decide +kernel) rfl, ⟨by decide +kernel, by decide +kernel, by decide +kernel⟩, by decide⟩, zz_in (i := 472) (by decide +kernel) rfl, zz_in (i := 473) (by decide +kernel) rfl⟩
def mX5_copyFrom : ZY := (yX5_copyFrom, cX5_copyFrom, 3, none)
theorem yy_X5_copyFrom : zz_YV mX5_copyFrom 1 := ⟨⟨zz_in (i := 49) (by decide +kernel) rfl, zz_in (i := 291) (by decide +kernel) rfl, ⟨by decide +kernel, by decide +kernel, by decide +kernel⟩, by decide⟩, zz_in (i := 289) (by decide +kernel) rfl, zz_in (i := 290) (by decide +kernel) rfl⟩
def mX5_fetchSnapshot : ZY := (yX5_fetchSnapshot, cX5_fetchSnapshot, 2, (some .int))
theorem yy_X5_fetchSnapshot : zz_YV mX5_fetchSnapshot 1 := ⟨⟨zz_in (i := 49) (by decide +kernel) rfl, zz_in (i := 527) (by decide +kernel) rfl, ⟨by decide +kernel, by decide +kernel, by decide +kernel⟩, by decide⟩, zz_in (i := 525) (by decide +kernel) rfl, zz_in (i := 526) (by decide +kernel) rfl⟩
def mX5_init : ZY := (yX5_init, cX5_init, 2, none)
theorem yy_X5_init : zz_YI mX5_init 0 := ⟨⟨zz_in (i := 49) (by decide +kernel) rfl, zz_in (i := 76) (by decide +kernel) rfl, ⟨by decide +kernel, by decide +kernel, by decide +kernel⟩, by decide⟩, zz_in (i := 75) (by decide +kernel) rfl, rfl, rfl⟩
def mX5_keepSnapshot : ZY := (yX5_keepSnapshot, cX5_keepSnapshot, 2, (some .int))
theorem yy_X5_keepSnapshot : zz_YV mX5_keepSnapshot 1 := ⟨⟨zz_in (i := 49) (by decide +kernel) rfl, zz_in (i := 517) (by decide +kernel) rfl, ⟨by decide +kernel, by decide +kernel, by decide +kernel⟩, by decide⟩, zz_in (i := 515) (by decide +kernel) rfl, zz_in (i := 516) (by decide +kernel) rfl⟩
def mX5_snapshots : ZY := (yX5_snapshots, cX5_snapshots, 3, (some .int))
theorem yy_X5_snapshots : zz_YV mX5_snapshots 0 := ⟨⟨zz_in (i := 49) (by decide +kernel) rfl, zz_in (i := 677) (by decide +kernel) rfl, ⟨by decide +kernel, by decide +kernel, by decide +kernel⟩, by decide⟩, zz_in (i := 675) (by decide +kernel) rfl, zz_in (i := 676) (by decide +kernel) rfl⟩
def mX6_copyFrom : ZY := (yX6_copyFrom, cX6_copyFrom, 2, none)
theorem yy_X6_copyFrom : zz_YV mX6_copyFrom 1 := ⟨⟨zz_in (i := 51) (by decide +kernel) rfl, zz_in (i := 299) (by decide +kernel) rfl, ⟨by decide +kernel, by decide +kernel, by decide +kernel⟩, by decide⟩, zz_in (i := 297) (by decide +kernel) rfl, zz_in (i := 298) (by decide +kernel) rfl⟩
def mX6_init : ZY := (yX6_init, cX6_init, 1, none)
theorem yy_X6_init : zz_YI mX6_init 0 := ⟨⟨zz_in (i := 51) (by decide +kernel) rfl, zz_in (i := 91) (by decide +kernel) rfl, ⟨by decide +kernel, by decide +kernel, by decide +kernel⟩, by decide⟩, zz_in (i := 90) (by decide +kernel) rfl, rfl, rfl⟩
def mX6_isKnown : ZY := (yX6_isKnown, cX6_isKnown, 2, (some .boolean))
theorem yy_X6_isKnown : zz_YV mX6_isKnown 1 := ⟨⟨zz_in (i := 51) (by decide +kernel) rfl, zz_in (i := 369) (by decide +kernel) rfl, ⟨by decide +kernel, by decide +kernel, by decide +kernel⟩, by decide⟩, zz_in (i := 367) (by decide +kernel) rfl, zz_in (i := 368) (by decide +kernel) rfl⟩
def mX7_addWall : ZY := (yX7_addWall, cX7_addWall, 1, (some .int))
theorem yy_X7_addWall : zz_YV mX7_addWall 0 := ⟨⟨zz_in (i := 48) (by decide +kernel) rfl, zz_in (i := 347) (by decide +kernel) rfl, ⟨by decide +kernel, by decide +kernel, by decide +kernel⟩, by decide⟩, zz_in (i := 345) (by decide +kernel) rfl, zz_in (i := 346) (by decide +kernel) rfl⟩
def mX7_apart : ZY := (yX7_apart, cX7_apart, 3, (some .int))
theorem yy_X7_apart : zz_YV mX7_apart 2 := ⟨⟨zz_in (i := 48) (by decide +kernel) rfl, zz_in (i := 731) (by decide +kernel) rfl, ⟨by decide +kernel, by decide +kernel, by decide +kernel⟩, by decide⟩, zz_in (i := 729) (by decide +kernel) rfl, zz_in (i := 730) (by decide +kernel) rfl⟩
def mX7_append : ZY := (yX7_append, cX7_append, 2, (some .int))
theorem yy_X7_append : zz_YV mX7_append 1 := ⟨⟨zz_in (i := 48) (by decide +kernel) rfl, zz_in (i := 544) (by decide +kernel) rfl, ⟨by decide +kernel, by decide +kernel, by decide +kernel⟩, by decide⟩, zz_in (i := 542) (by decide +kernel) rfl, zz_in (i := 543) (by decide +kernel) rfl⟩
def mX7_ask : ZY := (yX7_ask, cX7_ask, 5, (some .int))
theorem yy_X7_ask : zz_YV mX7_ask 4 := ⟨⟨zz_in (i := 48) (by decide +kernel) rfl, zz_in (i := 376) (by decide +kernel) rfl, ⟨by decide +kernel, by decide +kernel, by decide +kernel⟩, by decide⟩, zz_in (i := 374) (by decide +kernel) rfl, zz_in (i := 375) (by decide +kernel) rfl⟩
def mX7_askAgain : ZY := (yX7_askAgain, cX7_askAgain, 2, (some .int))
theorem yy_X7_askAgain : zz_YV mX7_askAgain 1 := ⟨⟨zz_in (i := 48) (by decide +kernel) rfl, zz_in (i := 470) (by decide +kernel) rfl, ⟨by decide +kernel, by decide +kernel, by decide +kernel⟩, by decide⟩, zz_in (i := 468) (by decide +kernel) rfl, zz_in (i := 469) (by decide +kernel) rfl⟩
def mX7_bestLatitude : ZY := (yX7_bestLatitude, cX7_bestLatitude, 6, (some .int))
theorem yy_X7_bestLatitude : zz_YV mX7_bestLatitude 1 := ⟨⟨zz_in (i := 48) (by decide +kernel) rfl, zz_in (i := 739) (by decide +kernel) rfl, ⟨by decide +kernel, by decide +kernel, by decide +kernel⟩, by decide⟩, zz_in (i := 737) (by decide +kernel) rfl, zz_in (i := 738) (by decide +kernel) rfl⟩
def mX7_cast : ZY := (yX7_cast, cX7_cast, 1, (some .int))
theorem yy_X7_cast : zz_YV mX7_cast 0 := ⟨⟨zz_in (i := 48) (by decide +kernel) rfl, zz_in (i := 478) (by decide +kernel) rfl, ⟨by decide +kernel, by decide +kernel, by decide +kernel⟩, by decide⟩, zz_in (i := 476) (by decide +kernel) rfl, zz_in (i := 477) (by decide +kernel) rfl⟩
def mX7_clearText : ZY := (yX7_clearText, cX7_clearText, 1, (some .int))
theorem yy_X7_clearText : zz_YV mX7_clearText 0 := ⟨⟨zz_in (i := 48) (by decide +kernel) rfl, zz_in (i := 555) (by decide +kernel) rfl, ⟨by decide +kernel, by decide +kernel, by decide +kernel⟩, by decide⟩, zz_in (i := 553) (by decide +kernel) rfl, zz_in (i := 554) (by decide +kernel) rfl⟩
def mX7_commission : ZY := (yX7_commission, cX7_commission, 4, (some .int))
theorem yy_X7_commission : zz_YV mX7_commission 2 := ⟨⟨zz_in (i := 48) (by decide +kernel) rfl, zz_in (i := 691) (by decide +kernel) rfl, ⟨by decide +kernel, by decide +kernel, by decide +kernel⟩, by decide⟩, zz_in (i := 689) (by decide +kernel) rfl, zz_in (i := 690) (by decide +kernel) rfl⟩
def mX7_correction : ZY := (yX7_correction, cX7_correction, 2, (some .int))
theorem yy_X7_correction : zz_YV mX7_correction 1 := ⟨⟨zz_in (i := 48) (by decide +kernel) rfl, zz_in (i := 695) (by decide +kernel) rfl, ⟨by decide +kernel, by decide +kernel, by decide +kernel⟩, by decide⟩, zz_in (i := 693) (by decide +kernel) rfl, zz_in (i := 694) (by decide +kernel) rfl⟩
def mX7_count : ZY := (yX7_count, cX7_count, 2, (some .int))
theorem yy_X7_count : zz_YV mX7_count 1 := ⟨⟨zz_in (i := 48) (by decide +kernel) rfl, zz_in (i := 668) (by decide +kernel) rfl, ⟨by decide +kernel, by decide +kernel, by decide +kernel⟩, by decide⟩, zz_in (i := 666) (by decide +kernel) rfl, zz_in (i := 667) (by decide +kernel) rfl⟩
def mX7_decide : ZY := (yX7_decide, cX7_decide, 2, (some .int))
theorem yy_X7_decide : zz_YV mX7_decide 1 := ⟨⟨zz_in (i := 48) (by decide +kernel) rfl, zz_in (i := 384) (by decide +kernel) rfl, ⟨by decide +kernel, by decide +kernel, by decide +kernel⟩, by decide⟩, zz_in (i := 382) (by decide +kernel) rfl, zz_in (i := 383) (by decide +kernel) rfl⟩
def mX7_deliver : ZY := (yX7_deliver, cX7_deliver, 2, (some .int))
theorem yy_X7_deliver : zz_YV mX7_deliver 1 := ⟨⟨zz_in (i := 48) (by decide +kernel) rfl, zz_in (i := 501) (by decide +kernel) rfl, ⟨by decide +kernel, by decide +kernel, by decide +kernel⟩, by decide⟩, zz_in (i := 499) (by decide +kernel) rfl, zz_in (i := 500) (by decide +kernel) rfl⟩
def mX7_failedAt : ZY := (yX7_failedAt, cX7_failedAt, 2, (some .int))
theorem yy_X7_failedAt : zz_YV mX7_failedAt 1 := ⟨⟨zz_in (i := 48) (by decide +kernel) rfl, zz_in (i := 658) (by decide +kernel) rfl, ⟨by decide +kernel, by decide +kernel, by decide +kernel⟩, by decide⟩, zz_in (i := 657) (by decide +kernel) rfl, zz_in (i := 3) (by decide +kernel) rfl⟩
def mX7_init : ZY := (yX7_init, cX7_init, 1, none)
theorem yy_X7_init : zz_YI mX7_init 0 := ⟨⟨zz_in (i := 48) (by decide +kernel) rfl, zz_in (i := 68) (by decide +kernel) rfl, ⟨by decide +kernel, by decide +kernel, by decide +kernel⟩, by decide⟩, zz_in (i := 67) (by decide +kernel) rfl, rfl, rfl⟩
def mX7_isError : ZY := (yX7_isError, cX7_isError, 1, (some .boolean))
theorem yy_X7_isError : zz_YS mX7_isError 1 := ⟨⟨zz_in (i := 48) (by decide +kernel) rfl, zz_in (i := 321) (by decide +kernel) rfl, ⟨by decide +kernel, by decide +kernel, by decide +kernel⟩, by decide⟩, zz_in (i := 320) (by decide +kernel) rfl⟩
def mX7_isWithin : ZY := (yX7_isWithin, cX7_isWithin, 3, (some .boolean))
theorem yy_X7_isWithin : zz_YS mX7_isWithin 3 := ⟨⟨zz_in (i := 48) (by decide +kernel) rfl, zz_in (i := 313) (by decide +kernel) rfl, ⟨by decide +kernel, by decide +kernel, by decide +kernel⟩, by decide⟩, zz_in (i := 312) (by decide +kernel) rfl⟩
def mX7_judge : ZY := (yX7_judge, cX7_judge, 2, (some .int))
theorem yy_X7_judge : zz_YV mX7_judge 1 := ⟨⟨zz_in (i := 48) (by decide +kernel) rfl, zz_in (i := 388) (by decide +kernel) rfl, ⟨by decide +kernel, by decide +kernel, by decide +kernel⟩, by decide⟩, zz_in (i := 387) (by decide +kernel) rfl, zz_in (i := 1) (by decide +kernel) rfl⟩
def mX7_layDial : ZY := (yX7_layDial, cX7_layDial, 4, (some .boolean))
theorem yy_X7_layDial : zz_YV mX7_layDial 1 := ⟨⟨zz_in (i := 48) (by decide +kernel) rfl, zz_in (i := 396) (by decide +kernel) rfl, ⟨by decide +kernel, by decide +kernel, by decide +kernel⟩, by decide⟩, zz_in (i := 395) (by decide +kernel) rfl, zz_in (i := 2) (by decide +kernel) rfl⟩
def mX7_lines : ZY := (yX7_lines, cX7_lines, 3, (some .int))
theorem yy_X7_lines : zz_YV mX7_lines 2 := ⟨⟨zz_in (i := 48) (by decide +kernel) rfl, zz_in (i := 710) (by decide +kernel) rfl, ⟨by decide +kernel, by decide +kernel, by decide +kernel⟩, by decide⟩, zz_in (i := 708) (by decide +kernel) rfl, zz_in (i := 709) (by decide +kernel) rfl⟩
def mX7_measure : ZY := (yX7_measure, cX7_measure, 3, (some .int))
theorem yy_X7_measure : zz_YV mX7_measure 2 := ⟨⟨zz_in (i := 48) (by decide +kernel) rfl, zz_in (i := 357) (by decide +kernel) rfl, ⟨by decide +kernel, by decide +kernel, by decide +kernel⟩, by decide⟩, zz_in (i := 355) (by decide +kernel) rfl, zz_in (i := 356) (by decide +kernel) rfl⟩
def mX7_melts : ZY := (yX7_melts, cX7_melts, 1, (some .int))
theorem yy_X7_melts : zz_YV mX7_melts 0 := ⟨⟨zz_in (i := 48) (by decide +kernel) rfl, zz_in (i := 743) (by decide +kernel) rfl, ⟨by decide +kernel, by decide +kernel, by decide +kernel⟩, by decide⟩, zz_in (i := 741) (by decide +kernel) rfl, zz_in (i := 742) (by decide +kernel) rfl⟩
def mX7_offset : ZY := (yX7_offset, cX7_offset, 3, (some .int))
theorem yy_X7_offset : zz_YV mX7_offset 2 := ⟨⟨zz_in (i := 48) (by decide +kernel) rfl, zz_in (i := 705) (by decide +kernel) rfl, ⟨by decide +kernel, by decide +kernel, by decide +kernel⟩, by decide⟩, zz_in (i := 703) (by decide +kernel) rfl, zz_in (i := 704) (by decide +kernel) rfl⟩
def mX7_perform : ZY := (yX7_perform, cX7_perform, 5, (some .int))
theorem yy_X7_perform : zz_YV mX7_perform 1 := ⟨⟨zz_in (i := 48) (by decide +kernel) rfl, zz_in (i := 663) (by decide +kernel) rfl, ⟨by decide +kernel, by decide +kernel, by decide +kernel⟩, by decide⟩, zz_in (i := 662) (by decide +kernel) rfl, zz_in (i := 4) (by decide +kernel) rfl⟩
def mX7_read : ZY := (yX7_read, cX7_read, 6, (some .int))
theorem yy_X7_read : zz_YV mX7_read 4 := ⟨⟨zz_in (i := 48) (by decide +kernel) rfl, zz_in (i := 722) (by decide +kernel) rfl, ⟨by decide +kernel, by decide +kernel, by decide +kernel⟩, by decide⟩, zz_in (i := 720) (by decide +kernel) rfl, zz_in (i := 721) (by decide +kernel) rfl⟩
def mX7_reason : ZY := (yX7_reason, cX7_reason, 2, (some .int))
theorem yy_X7_reason : zz_YV mX7_reason 1 := ⟨⟨zz_in (i := 48) (by decide +kernel) rfl, zz_in (i := 735) (by decide +kernel) rfl, ⟨by decide +kernel, by decide +kernel, by decide +kernel⟩, by decide⟩, zz_in (i := 733) (by decide +kernel) rfl, zz_in (i := 734) (by decide +kernel) rfl⟩
def mX7_recorded : ZY := (yX7_recorded, cX7_recorded, 2, (some .int))
theorem yy_X7_recorded : zz_YV mX7_recorded 1 := ⟨⟨zz_in (i := 48) (by decide +kernel) rfl, zz_in (i := 318) (by decide +kernel) rfl, ⟨by decide +kernel, by decide +kernel, by decide +kernel⟩, by decide⟩, zz_in (i := 317) (by decide +kernel) rfl, zz_in (i := 0) (by decide +kernel) rfl⟩
def mX7_restore : ZY := (yX7_restore, cX7_restore, 2, (some .int))
theorem yy_X7_restore : zz_YV mX7_restore 1 := ⟨⟨zz_in (i := 48) (by decide +kernel) rfl, zz_in (i := 523) (by decide +kernel) rfl, ⟨by decide +kernel, by decide +kernel, by decide +kernel⟩, by decide⟩, zz_in (i := 521) (by decide +kernel) rfl, zz_in (i := 522) (by decide +kernel) rfl⟩
def mX7_rounded : ZY := (yX7_rounded, cX7_rounded, 8, (some .long))
theorem yy_X7_rounded : zz_YS mX7_rounded 2 := ⟨⟨zz_in (i := 48) (by decide +kernel) rfl, zz_in (i := 413) (by decide +kernel) rfl, ⟨by decide +kernel, by decide +kernel, by decide +kernel⟩, by decide⟩, zz_in (i := 412) (by decide +kernel) rfl⟩
def mX7_run : ZY := (yX7_run, cX7_run, 4, (some .int))
theorem yy_X7_run : zz_YV mX7_run 0 := ⟨⟨zz_in (i := 48) (by decide +kernel) rfl, zz_in (i := 563) (by decide +kernel) rfl, ⟨by decide +kernel, by decide +kernel, by decide +kernel⟩, by decide⟩, zz_in (i := 561) (by decide +kernel) rfl, zz_in (i := 562) (by decide +kernel) rfl⟩
def mX7_set : ZY := (yX7_set, cX7_set, 3, (some .int))
theorem yy_X7_set : zz_YV mX7_set 2 := ⟨⟨zz_in (i := 48) (by decide +kernel) rfl, zz_in (i := 335) (by decide +kernel) rfl, ⟨by decide +kernel, by decide +kernel, by decide +kernel⟩, by decide⟩, zz_in (i := 333) (by decide +kernel) rfl, zz_in (i := 334) (by decide +kernel) rfl⟩
def mX7_setCorrection : ZY := (yX7_setCorrection, cX7_setCorrection, 3, (some .int))
theorem yy_X7_setCorrection : zz_YV mX7_setCorrection 2 := ⟨⟨zz_in (i := 48) (by decide +kernel) rfl, zz_in (i := 283) (by decide +kernel) rfl, ⟨by decide +kernel, by decide +kernel, by decide +kernel⟩, by decide⟩, zz_in (i := 281) (by decide +kernel) rfl, zz_in (i := 282) (by decide +kernel) rfl⟩
def mX7_sine : ZY := (yX7_sine, cX7_sine, 2, (some .int))
theorem yy_X7_sine : zz_YV mX7_sine 1 := ⟨⟨zz_in (i := 48) (by decide +kernel) rfl, zz_in (i := 700) (by decide +kernel) rfl, ⟨by decide +kernel, by decide +kernel, by decide +kernel⟩, by decide⟩, zz_in (i := 698) (by decide +kernel) rfl, zz_in (i := 699) (by decide +kernel) rfl⟩
def mX7_sineOf : ZY := (yX7_sineOf, cX7_sineOf, 6, (some .int))
theorem yy_X7_sineOf : zz_YS mX7_sineOf 1 := ⟨⟨zz_in (i := 48) (by decide +kernel) rfl, zz_in (i := 422) (by decide +kernel) rfl, ⟨by decide +kernel, by decide +kernel, by decide +kernel⟩, by decide⟩, zz_in (i := 421) (by decide +kernel) rfl⟩
def mX7_take : ZY := (yX7_take, cX7_take, 2, (some .int))
theorem yy_X7_take : zz_YV mX7_take 1 := ⟨⟨zz_in (i := 48) (by decide +kernel) rfl, zz_in (i := 513) (by decide +kernel) rfl, ⟨by decide +kernel, by decide +kernel, by decide +kernel⟩, by decide⟩, zz_in (i := 511) (by decide +kernel) rfl, zz_in (i := 512) (by decide +kernel) rfl⟩
def mX7_undo : ZY := (yX7_undo, cX7_undo, 1, (some .int))
theorem yy_X7_undo : zz_YV mX7_undo 0 := ⟨⟨zz_in (i := 48) (by decide +kernel) rfl, zz_in (i := 532) (by decide +kernel) rfl, ⟨by decide +kernel, by decide +kernel, by decide +kernel⟩, by decide⟩, zz_in (i := 530) (by decide +kernel) rfl, zz_in (i := 531) (by decide +kernel) rfl⟩
def mX7_wall : ZY := (yX7_wall, cX7_wall, 3, (some .int))
theorem yy_X7_wall : zz_YV mX7_wall 2 := ⟨⟨zz_in (i := 48) (by decide +kernel) rfl, zz_in (i := 681) (by decide +kernel) rfl, ⟨by decide +kernel, by decide +kernel, by decide +kernel⟩, by decide⟩, zz_in (i := 679) (by decide +kernel) rfl, zz_in (i := 680) (by decide +kernel) rfl⟩
def mX8_act : ZY := (yX8_act, cX8_act, 2, none)
theorem yy_X8_act : zz_YV mX8_act 0 := ⟨⟨zz_in (i := 56) (by decide +kernel) rfl, zz_in (i := 811) (by decide +kernel) rfl, ⟨by decide +kernel, by decide +kernel, by decide +kernel⟩, by decide⟩, zz_in (i := 810) (by decide +kernel) rfl, zz_in (i := 5) (by decide +kernel) rfl⟩
def mX8_addWall : ZY := (yX8_addWall, cX8_addWall, 2, (some .int))
theorem yy_X8_addWall : zz_YV mX8_addWall 0 := ⟨⟨zz_in (i := 56) (by decide +kernel) rfl, zz_in (i := 825) (by decide +kernel) rfl, ⟨by decide +kernel, by decide +kernel, by decide +kernel⟩, by decide⟩, zz_in (i := 823) (by decide +kernel) rfl, zz_in (i := 824) (by decide +kernel) rfl⟩
def mX8_apart : ZY := (yX8_apart, cX8_apart, 3, (some .int))
theorem yy_X8_apart : zz_YV mX8_apart 2 := ⟨⟨zz_in (i := 56) (by decide +kernel) rfl, zz_in (i := 1118) (by decide +kernel) rfl, ⟨by decide +kernel, by decide +kernel, by decide +kernel⟩, by decide⟩, zz_in (i := 1116) (by decide +kernel) rfl, zz_in (i := 1117) (by decide +kernel) rfl⟩
def mX8_apartOf : ZY := (yX8_apartOf, cX8_apartOf, 7, (some .int))
theorem yy_X8_apartOf : zz_YV mX8_apartOf 1 := ⟨⟨zz_in (i := 56) (by decide +kernel) rfl, zz_in (i := 945) (by decide +kernel) rfl, ⟨by decide +kernel, by decide +kernel, by decide +kernel⟩, by decide⟩, zz_in (i := 944) (by decide +kernel) rfl, zz_in (i := 25) (by decide +kernel) rfl⟩
def mX8_append : ZY := (yX8_append, cX8_append, 2, (some .int))
theorem yy_X8_append : zz_YV mX8_append 1 := ⟨⟨zz_in (i := 56) (by decide +kernel) rfl, zz_in (i := 1017) (by decide +kernel) rfl, ⟨by decide +kernel, by decide +kernel, by decide +kernel⟩, by decide⟩, zz_in (i := 1015) (by decide +kernel) rfl, zz_in (i := 1016) (by decide +kernel) rfl⟩
def mX8_ask : ZY := (yX8_ask, cX8_ask, 6, (some .int))
theorem yy_X8_ask : zz_YV mX8_ask 4 := ⟨⟨zz_in (i := 56) (by decide +kernel) rfl, zz_in (i := 866) (by decide +kernel) rfl, ⟨by decide +kernel, by decide +kernel, by decide +kernel⟩, by decide⟩, zz_in (i := 864) (by decide +kernel) rfl, zz_in (i := 865) (by decide +kernel) rfl⟩
def mX8_askAgain : ZY := (yX8_askAgain, cX8_askAgain, 3, (some .int))
theorem yy_X8_askAgain : zz_YV mX8_askAgain 1 := ⟨⟨zz_in (i := 56) (by decide +kernel) rfl, zz_in (i := 963) (by decide +kernel) rfl, ⟨by decide +kernel, by decide +kernel, by decide +kernel⟩, by decide⟩, zz_in (i := 961) (by decide +kernel) rfl, zz_in (i := 962) (by decide +kernel) rfl⟩
def mX8_askCode : ZY := (yX8_askCode, cX8_askCode, 5, (some .int))
theorem yy_X8_askCode : zz_YV mX8_askCode 4 := ⟨⟨zz_in (i := 56) (by decide +kernel) rfl, zz_in (i := 870) (by decide +kernel) rfl, ⟨by decide +kernel, by decide +kernel, by decide +kernel⟩, by decide⟩, zz_in (i := 869) (by decide +kernel) rfl, zz_in (i := 12) (by decide +kernel) rfl⟩
def mX8_askNow : ZY := (yX8_askNow, cX8_askNow, 6, (some .int))
theorem yy_X8_askNow : zz_YV mX8_askNow 4 := ⟨⟨zz_in (i := 56) (by decide +kernel) rfl, zz_in (i := 874) (by decide +kernel) rfl, ⟨by decide +kernel, by decide +kernel, by decide +kernel⟩, by decide⟩, zz_in (i := 873) (by decide +kernel) rfl, zz_in (i := 13) (by decide +kernel) rfl⟩
def mX8_at : ZY := (yX8_at, cX8_at, 2, (some .int))
theorem yy_X8_at : zz_YV mX8_at 1 := ⟨⟨zz_in (i := 56) (by decide +kernel) rfl, zz_in (i := 1033) (by decide +kernel) rfl, ⟨by decide +kernel, by decide +kernel, by decide +kernel⟩, by decide⟩, zz_in (i := 1032) (by decide +kernel) rfl, zz_in (i := 36) (by decide +kernel) rfl⟩
def mX8_bestLatitude : ZY := (yX8_bestLatitude, cX8_bestLatitude, 6, (some .int))
theorem yy_X8_bestLatitude : zz_YV mX8_bestLatitude 1 := ⟨⟨zz_in (i := 56) (by decide +kernel) rfl, zz_in (i := 1126) (by decide +kernel) rfl, ⟨by decide +kernel, by decide +kernel, by decide +kernel⟩, by decide⟩, zz_in (i := 1124) (by decide +kernel) rfl, zz_in (i := 1125) (by decide +kernel) rfl⟩
def mX8_byLines : ZY := (yX8_byLines, cX8_byLines, 4, (some .int))
theorem yy_X8_byLines : zz_YV mX8_byLines 1 := ⟨⟨zz_in (i := 56) (by decide +kernel) rfl, zz_in (i := 953) (by decide +kernel) rfl, ⟨by decide +kernel, by decide +kernel, by decide +kernel⟩, by decide⟩, zz_in (i := 952) (by decide +kernel) rfl, zz_in (i := 27) (by decide +kernel) rfl⟩
def mX8_byShadow : ZY := (yX8_byShadow, cX8_byShadow, 7, (some .int))
theorem yy_X8_byShadow : zz_YV mX8_byShadow 1 := ⟨⟨zz_in (i := 56) (by decide +kernel) rfl, zz_in (i := 1114) (by decide +kernel) rfl, ⟨by decide +kernel, by decide +kernel, by decide +kernel⟩, by decide⟩, zz_in (i := 1113) (by decide +kernel) rfl, zz_in (i := 46) (by decide +kernel) rfl⟩
def mX8_carry : ZY := (yX8_carry, cX8_carry, 5, (some .int))
theorem yy_X8_carry : zz_YV mX8_carry 4 := ⟨⟨zz_in (i := 56) (by decide +kernel) rfl, zz_in (i := 1070) (by decide +kernel) rfl, ⟨by decide +kernel, by decide +kernel, by decide +kernel⟩, by decide⟩, zz_in (i := 1069) (by decide +kernel) rfl, zz_in (i := 43) (by decide +kernel) rfl⟩
def mX8_cast : ZY := (yX8_cast, cX8_cast, 2, (some .int))
theorem yy_X8_cast : zz_YV mX8_cast 0 := ⟨⟨zz_in (i := 56) (by decide +kernel) rfl, zz_in (i := 967) (by decide +kernel) rfl, ⟨by decide +kernel, by decide +kernel, by decide +kernel⟩, by decide⟩, zz_in (i := 965) (by decide +kernel) rfl, zz_in (i := 966) (by decide +kernel) rfl⟩
def mX8_castCode : ZY := (yX8_castCode, cX8_castCode, 1, (some .int))
theorem yy_X8_castCode : zz_YV mX8_castCode 0 := ⟨⟨zz_in (i := 56) (by decide +kernel) rfl, zz_in (i := 971) (by decide +kernel) rfl, ⟨by decide +kernel, by decide +kernel, by decide +kernel⟩, by decide⟩, zz_in (i := 970) (by decide +kernel) rfl, zz_in (i := 29) (by decide +kernel) rfl⟩
def mX8_castNow : ZY := (yX8_castNow, cX8_castNow, 3, (some .int))
theorem yy_X8_castNow : zz_YV mX8_castNow 0 := ⟨⟨zz_in (i := 56) (by decide +kernel) rfl, zz_in (i := 983) (by decide +kernel) rfl, ⟨by decide +kernel, by decide +kernel, by decide +kernel⟩, by decide⟩, zz_in (i := 982) (by decide +kernel) rfl, zz_in (i := 32) (by decide +kernel) rfl⟩
def mX8_clearText : ZY := (yX8_clearText, cX8_clearText, 2, (some .int))
theorem yy_X8_clearText : zz_YV mX8_clearText 0 := ⟨⟨zz_in (i := 56) (by decide +kernel) rfl, zz_in (i := 1021) (by decide +kernel) rfl, ⟨by decide +kernel, by decide +kernel, by decide +kernel⟩, by decide⟩, zz_in (i := 1019) (by decide +kernel) rfl, zz_in (i := 1020) (by decide +kernel) rfl⟩
def mX8_codeOf : ZY := (yX8_codeOf, cX8_codeOf, 5, (some .int))
theorem yy_X8_codeOf : zz_YV mX8_codeOf 4 := ⟨⟨zz_in (i := 56) (by decide +kernel) rfl, zz_in (i := 1066) (by decide +kernel) rfl, ⟨by decide +kernel, by decide +kernel, by decide +kernel⟩, by decide⟩, zz_in (i := 1065) (by decide +kernel) rfl, zz_in (i := 42) (by decide +kernel) rfl⟩
def mX8_command : ZY := (yX8_command, cX8_command, 4, (some .int))
theorem yy_X8_command : zz_YV mX8_command 0 := ⟨⟨zz_in (i := 56) (by decide +kernel) rfl, zz_in (i := 1037) (by decide +kernel) rfl, ⟨by decide +kernel, by decide +kernel, by decide +kernel⟩, by decide⟩, zz_in (i := 1036) (by decide +kernel) rfl, zz_in (i := 37) (by decide +kernel) rfl⟩
def mX8_commission : ZY := (yX8_commission, cX8_commission, 3, (some .int))
theorem yy_X8_commission : zz_YV mX8_commission 2 := ⟨⟨zz_in (i := 56) (by decide +kernel) rfl, zz_in (i := 1090) (by decide +kernel) rfl, ⟨by decide +kernel, by decide +kernel, by decide +kernel⟩, by decide⟩, zz_in (i := 1088) (by decide +kernel) rfl, zz_in (i := 1089) (by decide +kernel) rfl⟩
def mX8_commissionsFor : ZY := (yX8_commissionsFor, cX8_commissionsFor, 4, (some .int))
theorem yy_X8_commissionsFor : zz_YV mX8_commissionsFor 1 := ⟨⟨zz_in (i := 56) (by decide +kernel) rfl, zz_in (i := 1086) (by decide +kernel) rfl, ⟨by decide +kernel, by decide +kernel, by decide +kernel⟩, by decide⟩, zz_in (i := 1085) (by decide +kernel) rfl, zz_in (i := 45) (by decide +kernel) rfl⟩
def mX8_correction : ZY := (yX8_correction, cX8_correction, 2, (some .int))
theorem yy_X8_correction : zz_YV mX8_correction 1 := ⟨⟨zz_in (i := 56) (by decide +kernel) rfl, zz_in (i := 1094) (by decide +kernel) rfl, ⟨by decide +kernel, by decide +kernel, by decide +kernel⟩, by decide⟩, zz_in (i := 1092) (by decide +kernel) rfl, zz_in (i := 1093) (by decide +kernel) rfl⟩
def mX8_cosineOf : ZY := (yX8_cosineOf, cX8_cosineOf, 1, (some .long))
theorem yy_X8_cosineOf : zz_YS mX8_cosineOf 1 := ⟨⟨zz_in (i := 56) (by decide +kernel) rfl, zz_in (i := 922) (by decide +kernel) rfl, ⟨by decide +kernel, by decide +kernel, by decide +kernel⟩, by decide⟩, zz_in (i := 921) (by decide +kernel) rfl⟩
def mX8_count : ZY := (yX8_count, cX8_count, 2, (some .int))
theorem yy_X8_count : zz_YV mX8_count 1 := ⟨⟨zz_in (i := 56) (by decide +kernel) rfl, zz_in (i := 1074) (by decide +kernel) rfl, ⟨by decide +kernel, by decide +kernel, by decide +kernel⟩, by decide⟩, zz_in (i := 1072) (by decide +kernel) rfl, zz_in (i := 1073) (by decide +kernel) rfl⟩
def mX8_decide : ZY := (yX8_decide, cX8_decide, 3, (some .int))
theorem yy_X8_decide : zz_YV mX8_decide 1 := ⟨⟨zz_in (i := 56) (by decide +kernel) rfl, zz_in (i := 882) (by decide +kernel) rfl, ⟨by decide +kernel, by decide +kernel, by decide +kernel⟩, by decide⟩, zz_in (i := 880) (by decide +kernel) rfl, zz_in (i := 881) (by decide +kernel) rfl⟩
def mX8_decideNow : ZY := (yX8_decideNow, cX8_decideNow, 3, (some .int))
theorem yy_X8_decideNow : zz_YV mX8_decideNow 1 := ⟨⟨zz_in (i := 56) (by decide +kernel) rfl, zz_in (i := 899) (by decide +kernel) rfl, ⟨by decide +kernel, by decide +kernel, by decide +kernel⟩, by decide⟩, zz_in (i := 898) (by decide +kernel) rfl, zz_in (i := 18) (by decide +kernel) rfl⟩
def mX8_declinationOf : ZY := (yX8_declinationOf, cX8_declinationOf, 3, (some .int))
theorem yy_X8_declinationOf : zz_YV mX8_declinationOf 1 := ⟨⟨zz_in (i := 56) (by decide +kernel) rfl, zz_in (i := 911) (by decide +kernel) rfl, ⟨by decide +kernel, by decide +kernel, by decide +kernel⟩, by decide⟩, zz_in (i := 910) (by decide +kernel) rfl, zz_in (i := 21) (by decide +kernel) rfl⟩
def mX8_declinationOfWall : ZY := (yX8_declinationOfWall, cX8_declinationOfWall, 3, (some .int))
theorem yy_X8_declinationOfWall : zz_YV mX8_declinationOfWall 1 := ⟨⟨zz_in (i := 56) (by decide +kernel) rfl, zz_in (i := 855) (by decide +kernel) rfl, ⟨by decide +kernel, by decide +kernel, by decide +kernel⟩, by decide⟩, zz_in (i := 854) (by decide +kernel) rfl, zz_in (i := 11) (by decide +kernel) rfl⟩
def mX8_deliver : ZY := (yX8_deliver, cX8_deliver, 3, (some .int))
theorem yy_X8_deliver : zz_YV mX8_deliver 1 := ⟨⟨zz_in (i := 56) (by decide +kernel) rfl, zz_in (i := 987) (by decide +kernel) rfl, ⟨by decide +kernel, by decide +kernel, by decide +kernel⟩, by decide⟩, zz_in (i := 985) (by decide +kernel) rfl, zz_in (i := 986) (by decide +kernel) rfl⟩
def mX8_deliverNow : ZY := (yX8_deliverNow, cX8_deliverNow, 2, (some .int))
theorem yy_X8_deliverNow : zz_YV mX8_deliverNow 1 := ⟨⟨zz_in (i := 56) (by decide +kernel) rfl, zz_in (i := 991) (by decide +kernel) rfl, ⟨by decide +kernel, by decide +kernel, by decide +kernel⟩, by decide⟩, zz_in (i := 990) (by decide +kernel) rfl, zz_in (i := 33) (by decide +kernel) rfl⟩
def mX8_fail : ZY := (yX8_fail, cX8_fail, 2, none)
theorem yy_X8_fail : zz_YV mX8_fail 1 := ⟨⟨zz_in (i := 56) (by decide +kernel) rfl, zz_in (i := 1055) (by decide +kernel) rfl, ⟨by decide +kernel, by decide +kernel, by decide +kernel⟩, by decide⟩, zz_in (i := 1054) (by decide +kernel) rfl, zz_in (i := 40) (by decide +kernel) rfl⟩
def mX8_frontOf : ZY := (yX8_frontOf, cX8_frontOf, 4, (some .long))
theorem yy_X8_frontOf : zz_YS mX8_frontOf 4 := ⟨⟨zz_in (i := 56) (by decide +kernel) rfl, zz_in (i := 918) (by decide +kernel) rfl, ⟨by decide +kernel, by decide +kernel, by decide +kernel⟩, by decide⟩, zz_in (i := 917) (by decide +kernel) rfl⟩
def mX8_has : ZY := (yX8_has, cX8_has, 2, (some .boolean))
theorem yy_X8_has : zz_YV mX8_has 1 := ⟨⟨zz_in (i := 56) (by decide +kernel) rfl, zz_in (i := 941) (by decide +kernel) rfl, ⟨by decide +kernel, by decide +kernel, by decide +kernel⟩, by decide⟩, zz_in (i := 940) (by decide +kernel) rfl, zz_in (i := 24) (by decide +kernel) rfl⟩
def mX8_hourLines : ZY := (yX8_hourLines, cX8_hourLines, 3, (some .int))
theorem yy_X8_hourLines : zz_YV mX8_hourLines 0 := ⟨⟨zz_in (i := 56) (by decide +kernel) rfl, zz_in (i := 937) (by decide +kernel) rfl, ⟨by decide +kernel, by decide +kernel, by decide +kernel⟩, by decide⟩, zz_in (i := 936) (by decide +kernel) rfl, zz_in (i := 23) (by decide +kernel) rfl⟩
def mX8_in : ZY := (yX8_in, cX8_in, 3, (some .boolean))
theorem yy_X8_in : zz_YS mX8_in 3 := ⟨⟨zz_in (i := 56) (by decide +kernel) rfl, zz_in (i := 806) (by decide +kernel) rfl, ⟨by decide +kernel, by decide +kernel, by decide +kernel⟩, by decide⟩, zz_in (i := 805) (by decide +kernel) rfl⟩
def mX8_inState : ZY := (yX8_inState, cX8_inState, 4, (some .int))
theorem yy_X8_inState : zz_YV mX8_inState 1 := ⟨⟨zz_in (i := 56) (by decide +kernel) rfl, zz_in (i := 995) (by decide +kernel) rfl, ⟨by decide +kernel, by decide +kernel, by decide +kernel⟩, by decide⟩, zz_in (i := 994) (by decide +kernel) rfl, zz_in (i := 34) (by decide +kernel) rfl⟩
def mX8_init : ZY := (yX8_init, cX8_init, 1, none)
theorem yy_X8_init : zz_YI mX8_init 0 := ⟨⟨zz_in (i := 56) (by decide +kernel) rfl, zz_in (i := 752) (by decide +kernel) rfl, ⟨by decide +kernel, by decide +kernel, by decide +kernel⟩, by decide⟩, zz_in (i := 751) (by decide +kernel) rfl, rfl, rfl⟩
def mX8_isBit : ZY := (yX8_isBit, cX8_isBit, 1, (some .boolean))
theorem yy_X8_isBit : zz_YS mX8_isBit 1 := ⟨⟨zz_in (i := 56) (by decide +kernel) rfl, zz_in (i := 1002) (by decide +kernel) rfl, ⟨by decide +kernel, by decide +kernel, by decide +kernel⟩, by decide⟩, zz_in (i := 1001) (by decide +kernel) rfl⟩
def mX8_isCommission : ZY := (yX8_isCommission, cX8_isCommission, 2, (some .boolean))
theorem yy_X8_isCommission : zz_YV mX8_isCommission 1 := ⟨⟨zz_in (i := 56) (by decide +kernel) rfl, zz_in (i := 890) (by decide +kernel) rfl, ⟨by decide +kernel, by decide +kernel, by decide +kernel⟩, by decide⟩, zz_in (i := 889) (by decide +kernel) rfl, zz_in (i := 16) (by decide +kernel) rfl⟩
def mX8_isWall : ZY := (yX8_isWall, cX8_isWall, 2, (some .boolean))
theorem yy_X8_isWall : zz_YV mX8_isWall 1 := ⟨⟨zz_in (i := 56) (by decide +kernel) rfl, zz_in (i := 847) (by decide +kernel) rfl, ⟨by decide +kernel, by decide +kernel, by decide +kernel⟩, by decide⟩, zz_in (i := 846) (by decide +kernel) rfl, zz_in (i := 9) (by decide +kernel) rfl⟩
def mX8_isWord : ZY := (yX8_isWord, cX8_isWord, 4, (some .boolean))
theorem yy_X8_isWord : zz_YV mX8_isWord 1 := ⟨⟨zz_in (i := 56) (by decide +kernel) rfl, zz_in (i := 1045) (by decide +kernel) rfl, ⟨by decide +kernel, by decide +kernel, by decide +kernel⟩, by decide⟩, zz_in (i := 1044) (by decide +kernel) rfl, zz_in (i := 39) (by decide +kernel) rfl⟩
def mX8_knownWalls : ZY := (yX8_knownWalls, cX8_knownWalls, 3, (some .int))
theorem yy_X8_knownWalls : zz_YV mX8_knownWalls 0 := ⟨⟨zz_in (i := 56) (by decide +kernel) rfl, zz_in (i := 1078) (by decide +kernel) rfl, ⟨by decide +kernel, by decide +kernel, by decide +kernel⟩, by decide⟩, zz_in (i := 1077) (by decide +kernel) rfl, zz_in (i := 44) (by decide +kernel) rfl⟩
def mX8_leastOf : ZY := (yX8_leastOf, cX8_leastOf, 1, (some .int))
theorem yy_X8_leastOf : zz_YS mX8_leastOf 1 := ⟨⟨zz_in (i := 56) (by decide +kernel) rfl, zz_in (i := 818) (by decide +kernel) rfl, ⟨by decide +kernel, by decide +kernel, by decide +kernel⟩, by decide⟩, zz_in (i := 817) (by decide +kernel) rfl⟩
def mX8_letterOf : ZY := (yX8_letterOf, cX8_letterOf, 2, (some .int))
theorem yy_X8_letterOf : zz_YS mX8_letterOf 2 := ⟨⟨zz_in (i := 56) (by decide +kernel) rfl, zz_in (i := 1048) (by decide +kernel) rfl, ⟨by decide +kernel, by decide +kernel, by decide +kernel⟩, by decide⟩, zz_in (i := 1047) (by decide +kernel) rfl⟩
def mX8_lines : ZY := (yX8_lines, cX8_lines, 6, (some .int))
theorem yy_X8_lines : zz_YV mX8_lines 2 := ⟨⟨zz_in (i := 56) (by decide +kernel) rfl, zz_in (i := 1106) (by decide +kernel) rfl, ⟨by decide +kernel, by decide +kernel, by decide +kernel⟩, by decide⟩, zz_in (i := 1104) (by decide +kernel) rfl, zz_in (i := 1105) (by decide +kernel) rfl⟩
def mX8_measure : ZY := (yX8_measure, cX8_measure, 4, (some .int))
theorem yy_X8_measure : zz_YV mX8_measure 2 := ⟨⟨zz_in (i := 56) (by decide +kernel) rfl, zz_in (i := 839) (by decide +kernel) rfl, ⟨by decide +kernel, by decide +kernel, by decide +kernel⟩, by decide⟩, zz_in (i := 837) (by decide +kernel) rfl, zz_in (i := 838) (by decide +kernel) rfl⟩
def mX8_measureCode : ZY := (yX8_measureCode, cX8_measureCode, 3, (some .int))
theorem yy_X8_measureCode : zz_YV mX8_measureCode 2 := ⟨⟨zz_in (i := 56) (by decide +kernel) rfl, zz_in (i := 843) (by decide +kernel) rfl, ⟨by decide +kernel, by decide +kernel, by decide +kernel⟩, by decide⟩, zz_in (i := 842) (by decide +kernel) rfl, zz_in (i := 8) (by decide +kernel) rfl⟩
def mX8_measureNow : ZY := (yX8_measureNow, cX8_measureNow, 4, (some .int))
theorem yy_X8_measureNow : zz_YV mX8_measureNow 2 := ⟨⟨zz_in (i := 56) (by decide +kernel) rfl, zz_in (i := 851) (by decide +kernel) rfl, ⟨by decide +kernel, by decide +kernel, by decide +kernel⟩, by decide⟩, zz_in (i := 850) (by decide +kernel) rfl, zz_in (i := 10) (by decide +kernel) rfl⟩
def mX8_melt : ZY := (yX8_melt, cX8_melt, 4, (some .int))
theorem yy_X8_melt : zz_YV mX8_melt 0 := ⟨⟨zz_in (i := 56) (by decide +kernel) rfl, zz_in (i := 979) (by decide +kernel) rfl, ⟨by decide +kernel, by decide +kernel, by decide +kernel⟩, by decide⟩, zz_in (i := 978) (by decide +kernel) rfl, zz_in (i := 31) (by decide +kernel) rfl⟩
def mX8_melts : ZY := (yX8_melts, cX8_melts, 4, (some .int))
theorem yy_X8_melts : zz_YV mX8_melts 0 := ⟨⟨zz_in (i := 56) (by decide +kernel) rfl, zz_in (i := 1130) (by decide +kernel) rfl, ⟨by decide +kernel, by decide +kernel, by decide +kernel⟩, by decide⟩, zz_in (i := 1128) (by decide +kernel) rfl, zz_in (i := 1129) (by decide +kernel) rfl⟩
def mX8_mostOf : ZY := (yX8_mostOf, cX8_mostOf, 1, (some .int))
theorem yy_X8_mostOf : zz_YS mX8_mostOf 1 := ⟨⟨zz_in (i := 56) (by decide +kernel) rfl, zz_in (i := 821) (by decide +kernel) rfl, ⟨by decide +kernel, by decide +kernel, by decide +kernel⟩, by decide⟩, zz_in (i := 820) (by decide +kernel) rfl⟩
def mX8_next : ZY := (yX8_next, cX8_next, 1, none)
theorem yy_X8_next : zz_YV mX8_next 0 := ⟨⟨zz_in (i := 56) (by decide +kernel) rfl, zz_in (i := 1029) (by decide +kernel) rfl, ⟨by decide +kernel, by decide +kernel, by decide +kernel⟩, by decide⟩, zz_in (i := 1028) (by decide +kernel) rfl, zz_in (i := 35) (by decide +kernel) rfl⟩
def mX8_numbersOf : ZY := (yX8_numbersOf, cX8_numbersOf, 1, (some .int))
theorem yy_X8_numbersOf : zz_YS mX8_numbersOf 1 := ⟨⟨zz_in (i := 56) (by decide +kernel) rfl, zz_in (i := 1058) (by decide +kernel) rfl, ⟨by decide +kernel, by decide +kernel, by decide +kernel⟩, by decide⟩, zz_in (i := 1057) (by decide +kernel) rfl⟩
def mX8_of : ZY := (yX8_of, cX8_of, 3, (some .int))
theorem yy_X8_of : zz_YV mX8_of 2 := ⟨⟨zz_in (i := 56) (by decide +kernel) rfl, zz_in (i := 894) (by decide +kernel) rfl, ⟨by decide +kernel, by decide +kernel, by decide +kernel⟩, by decide⟩, zz_in (i := 893) (by decide +kernel) rfl, zz_in (i := 17) (by decide +kernel) rfl⟩
def mX8_off : ZY := (yX8_off, cX8_off, 2, (some .int))
theorem yy_X8_off : zz_YV mX8_off 1 := ⟨⟨zz_in (i := 56) (by decide +kernel) rfl, zz_in (i := 949) (by decide +kernel) rfl, ⟨by decide +kernel, by decide +kernel, by decide +kernel⟩, by decide⟩, zz_in (i := 948) (by decide +kernel) rfl, zz_in (i := 26) (by decide +kernel) rfl⟩
def mX8_offset : ZY := (yX8_offset, cX8_offset, 3, (some .int))
theorem yy_X8_offset : zz_YV mX8_offset 2 := ⟨⟨zz_in (i := 56) (by decide +kernel) rfl, zz_in (i := 1102) (by decide +kernel) rfl, ⟨by decide +kernel, by decide +kernel, by decide +kernel⟩, by decide⟩, zz_in (i := 1100) (by decide +kernel) rfl, zz_in (i := 1101) (by decide +kernel) rfl⟩
def mX8_put : ZY := (yX8_put, cX8_put, 4, none)
theorem yy_X8_put : zz_YV mX8_put 3 := ⟨⟨zz_in (i := 56) (by decide +kernel) rfl, zz_in (i := 878) (by decide +kernel) rfl, ⟨by decide +kernel, by decide +kernel, by decide +kernel⟩, by decide⟩, zz_in (i := 877) (by decide +kernel) rfl, zz_in (i := 14) (by decide +kernel) rfl⟩
def mX8_read : ZY := (yX8_read, cX8_read, 6, (some .int))
theorem yy_X8_read : zz_YV mX8_read 4 := ⟨⟨zz_in (i := 56) (by decide +kernel) rfl, zz_in (i := 1110) (by decide +kernel) rfl, ⟨by decide +kernel, by decide +kernel, by decide +kernel⟩, by decide⟩, zz_in (i := 1108) (by decide +kernel) rfl, zz_in (i := 1109) (by decide +kernel) rfl⟩
def mX8_readNumber : ZY := (yX8_readNumber, cX8_readNumber, 6, none)
theorem yy_X8_readNumber : zz_YV mX8_readNumber 2 := ⟨⟨zz_in (i := 56) (by decide +kernel) rfl, zz_in (i := 1062) (by decide +kernel) rfl, ⟨by decide +kernel, by decide +kernel, by decide +kernel⟩, by decide⟩, zz_in (i := 1061) (by decide +kernel) rfl, zz_in (i := 41) (by decide +kernel) rfl⟩
def mX8_reason : ZY := (yX8_reason, cX8_reason, 2, (some .int))
theorem yy_X8_reason : zz_YV mX8_reason 1 := ⟨⟨zz_in (i := 56) (by decide +kernel) rfl, zz_in (i := 1122) (by decide +kernel) rfl, ⟨by decide +kernel, by decide +kernel, by decide +kernel⟩, by decide⟩, zz_in (i := 1120) (by decide +kernel) rfl, zz_in (i := 1121) (by decide +kernel) rfl⟩
def mX8_reasonFor : ZY := (yX8_reasonFor, cX8_reasonFor, 2, (some .int))
theorem yy_X8_reasonFor : zz_YV mX8_reasonFor 1 := ⟨⟨zz_in (i := 56) (by decide +kernel) rfl, zz_in (i := 903) (by decide +kernel) rfl, ⟨by decide +kernel, by decide +kernel, by decide +kernel⟩, by decide⟩, zz_in (i := 902) (by decide +kernel) rfl, zz_in (i := 19) (by decide +kernel) rfl⟩
def mX8_reckon : ZY := (yX8_reckon, cX8_reckon, 12, none)
theorem yy_X8_reckon : zz_YV mX8_reckon 3 := ⟨⟨zz_in (i := 56) (by decide +kernel) rfl, zz_in (i := 915) (by decide +kernel) rfl, ⟨by decide +kernel, by decide +kernel, by decide +kernel⟩, by decide⟩, zz_in (i := 914) (by decide +kernel) rfl, zz_in (i := 22) (by decide +kernel) rfl⟩
def mX8_restore : ZY := (yX8_restore, cX8_restore, 3, (some .int))
theorem yy_X8_restore : zz_YV mX8_restore 1 := ⟨⟨zz_in (i := 56) (by decide +kernel) rfl, zz_in (i := 1009) (by decide +kernel) rfl, ⟨by decide +kernel, by decide +kernel, by decide +kernel⟩, by decide⟩, zz_in (i := 1007) (by decide +kernel) rfl, zz_in (i := 1008) (by decide +kernel) rfl⟩
def mX8_rounded : ZY := (yX8_rounded, cX8_rounded, 10, (some .long))
theorem yy_X8_rounded : zz_YS mX8_rounded 2 := ⟨⟨zz_in (i := 56) (by decide +kernel) rfl, zz_in (i := 862) (by decide +kernel) rfl, ⟨by decide +kernel, by decide +kernel, by decide +kernel⟩, by decide⟩, zz_in (i := 861) (by decide +kernel) rfl⟩
def mX8_run : ZY := (yX8_run, cX8_run, 4, (some .int))
theorem yy_X8_run : zz_YV mX8_run 0 := ⟨⟨zz_in (i := 56) (by decide +kernel) rfl, zz_in (i := 1025) (by decide +kernel) rfl, ⟨by decide +kernel, by decide +kernel, by decide +kernel⟩, by decide⟩, zz_in (i := 1023) (by decide +kernel) rfl, zz_in (i := 1024) (by decide +kernel) rfl⟩
def mX8_set : ZY := (yX8_set, cX8_set, 4, (some .int))
theorem yy_X8_set : zz_YV mX8_set 2 := ⟨⟨zz_in (i := 56) (by decide +kernel) rfl, zz_in (i := 815) (by decide +kernel) rfl, ⟨by decide +kernel, by decide +kernel, by decide +kernel⟩, by decide⟩, zz_in (i := 813) (by decide +kernel) rfl, zz_in (i := 814) (by decide +kernel) rfl⟩
def mX8_setCorrection : ZY := (yX8_setCorrection, cX8_setCorrection, 4, (some .int))
theorem yy_X8_setCorrection : zz_YV mX8_setCorrection 2 := ⟨⟨zz_in (i := 56) (by decide +kernel) rfl, zz_in (i := 803) (by decide +kernel) rfl, ⟨by decide +kernel, by decide +kernel, by decide +kernel⟩, by decide⟩, zz_in (i := 801) (by decide +kernel) rfl, zz_in (i := 802) (by decide +kernel) rfl⟩
def mX8_sideOf : ZY := (yX8_sideOf, cX8_sideOf, 3, (some .long))
theorem yy_X8_sideOf : zz_YS mX8_sideOf 3 := ⟨⟨zz_in (i := 56) (by decide +kernel) rfl, zz_in (i := 931) (by decide +kernel) rfl, ⟨by decide +kernel, by decide +kernel, by decide +kernel⟩, by decide⟩, zz_in (i := 930) (by decide +kernel) rfl⟩
def mX8_sine : ZY := (yX8_sine, cX8_sine, 2, (some .int))
theorem yy_X8_sine : zz_YV mX8_sine 1 := ⟨⟨zz_in (i := 56) (by decide +kernel) rfl, zz_in (i := 1098) (by decide +kernel) rfl, ⟨by decide +kernel, by decide +kernel, by decide +kernel⟩, by decide⟩, zz_in (i := 1096) (by decide +kernel) rfl, zz_in (i := 1097) (by decide +kernel) rfl⟩
def mX8_sineOf : ZY := (yX8_sineOf, cX8_sineOf, 6, (some .long))
theorem yy_X8_sineOf : zz_YS mX8_sineOf 1 := ⟨⟨zz_in (i := 56) (by decide +kernel) rfl, zz_in (i := 925) (by decide +kernel) rfl, ⟨by decide +kernel, by decide +kernel, by decide +kernel⟩, by decide⟩, zz_in (i := 924) (by decide +kernel) rfl⟩
def mX8_size : ZY := (yX8_size, cX8_size, 1, (some .int))
theorem yy_X8_size : zz_YS mX8_size 1 := ⟨⟨zz_in (i := 56) (by decide +kernel) rfl, zz_in (i := 858) (by decide +kernel) rfl, ⟨by decide +kernel, by decide +kernel, by decide +kernel⟩, by decide⟩, zz_in (i := 857) (by decide +kernel) rfl⟩
def mX8_slotAt : ZY := (yX8_slotAt, cX8_slotAt, 1, (some .int))
theorem yy_X8_slotAt : zz_YS mX8_slotAt 1 := ⟨⟨zz_in (i := 56) (by decide +kernel) rfl, zz_in (i := 1005) (by decide +kernel) rfl, ⟨by decide +kernel, by decide +kernel, by decide +kernel⟩, by decide⟩, zz_in (i := 1004) (by decide +kernel) rfl⟩
def mX8_spelled : ZY := (yX8_spelled, cX8_spelled, 7, (some .int))
theorem yy_X8_spelled : zz_YS mX8_spelled 7 := ⟨⟨zz_in (i := 56) (by decide +kernel) rfl, zz_in (i := 1051) (by decide +kernel) rfl, ⟨by decide +kernel, by decide +kernel, by decide +kernel⟩, by decide⟩, zz_in (i := 1050) (by decide +kernel) rfl⟩
def mX8_stateCode : ZY := (yX8_stateCode, cX8_stateCode, 3, (some .int))
theorem yy_X8_stateCode : zz_YV mX8_stateCode 2 := ⟨⟨zz_in (i := 56) (by decide +kernel) rfl, zz_in (i := 886) (by decide +kernel) rfl, ⟨by decide +kernel, by decide +kernel, by decide +kernel⟩, by decide⟩, zz_in (i := 885) (by decide +kernel) rfl, zz_in (i := 15) (by decide +kernel) rfl⟩
def mX8_take : ZY := (yX8_take, cX8_take, 3, (some .int))
theorem yy_X8_take : zz_YV mX8_take 1 := ⟨⟨zz_in (i := 56) (by decide +kernel) rfl, zz_in (i := 999) (by decide +kernel) rfl, ⟨by decide +kernel, by decide +kernel, by decide +kernel⟩, by decide⟩, zz_in (i := 997) (by decide +kernel) rfl, zz_in (i := 998) (by decide +kernel) rfl⟩
def mX8_takeDial : ZY := (yX8_takeDial, cX8_takeDial, 3, (some .boolean))
theorem yy_X8_takeDial : zz_YV mX8_takeDial 1 := ⟨⟨zz_in (i := 56) (by decide +kernel) rfl, zz_in (i := 907) (by decide +kernel) rfl, ⟨by decide +kernel, by decide +kernel, by decide +kernel⟩, by decide⟩, zz_in (i := 906) (by decide +kernel) rfl, zz_in (i := 20) (by decide +kernel) rfl⟩
def mX8_takeStates : ZY := (yX8_takeStates, cX8_takeStates, 2, none)
theorem yy_X8_takeStates : zz_YV mX8_takeStates 0 := ⟨⟨zz_in (i := 56) (by decide +kernel) rfl, zz_in (i := 975) (by decide +kernel) rfl, ⟨by decide +kernel, by decide +kernel, by decide +kernel⟩, by decide⟩, zz_in (i := 974) (by decide +kernel) rfl, zz_in (i := 30) (by decide +kernel) rfl⟩
def mX8_undo : ZY := (yX8_undo, cX8_undo, 2, (some .int))
theorem yy_X8_undo : zz_YV mX8_undo 0 := ⟨⟨zz_in (i := 56) (by decide +kernel) rfl, zz_in (i := 1013) (by decide +kernel) rfl, ⟨by decide +kernel, by decide +kernel, by decide +kernel⟩, by decide⟩, zz_in (i := 1011) (by decide +kernel) rfl, zz_in (i := 1012) (by decide +kernel) rfl⟩
def mX8_wall : ZY := (yX8_wall, cX8_wall, 3, (some .int))
theorem yy_X8_wall : zz_YV mX8_wall 2 := ⟨⟨zz_in (i := 56) (by decide +kernel) rfl, zz_in (i := 1082) (by decide +kernel) rfl, ⟨by decide +kernel, by decide +kernel, by decide +kernel⟩, by decide⟩, zz_in (i := 1080) (by decide +kernel) rfl, zz_in (i := 1081) (by decide +kernel) rfl⟩
def mX8_wallCode : ZY := (yX8_wallCode, cX8_wallCode, 1, (some .int))
theorem yy_X8_wallCode : zz_YV mX8_wallCode 0 := ⟨⟨zz_in (i := 56) (by decide +kernel) rfl, zz_in (i := 829) (by decide +kernel) rfl, ⟨by decide +kernel, by decide +kernel, by decide +kernel⟩, by decide⟩, zz_in (i := 828) (by decide +kernel) rfl, zz_in (i := 6) (by decide +kernel) rfl⟩
def mX8_wallNow : ZY := (yX8_wallNow, cX8_wallNow, 2, (some .int))
theorem yy_X8_wallNow : zz_YV mX8_wallNow 0 := ⟨⟨zz_in (i := 56) (by decide +kernel) rfl, zz_in (i := 834) (by decide +kernel) rfl, ⟨by decide +kernel, by decide +kernel, by decide +kernel⟩, by decide⟩, zz_in (i := 833) (by decide +kernel) rfl, zz_in (i := 7) (by decide +kernel) rfl⟩
def mX8_weightOf : ZY := (yX8_weightOf, cX8_weightOf, 2, (some .int))
theorem yy_X8_weightOf : zz_YV mX8_weightOf 1 := ⟨⟨zz_in (i := 56) (by decide +kernel) rfl, zz_in (i := 958) (by decide +kernel) rfl, ⟨by decide +kernel, by decide +kernel, by decide +kernel⟩, by decide⟩, zz_in (i := 957) (by decide +kernel) rfl, zz_in (i := 28) (by decide +kernel) rfl⟩
def mX8_wordHere : ZY := (yX8_wordHere, cX8_wordHere, 2, (some .int))
theorem yy_X8_wordHere : zz_YV mX8_wordHere 0 := ⟨⟨zz_in (i := 56) (by decide +kernel) rfl, zz_in (i := 1041) (by decide +kernel) rfl, ⟨by decide +kernel, by decide +kernel, by decide +kernel⟩, by decide⟩, zz_in (i := 1040) (by decide +kernel) rfl, zz_in (i := 38) (by decide +kernel) rfl⟩
theorem lJ0_335 : Cond.methodLink RJ0 335 yJ0_coder_7d493 ∈ zz_t := zz_in (i := 602) (by decide +kernel) rfl
theorem lJ0_492 : Cond.methodLink RJ0 492 yJ0_isLatin1_aae02 ∈ zz_t := zz_in (i := 612) (by decide +kernel) rfl
theorem lJ0_495 : Cond.methodLink RJ0 495 yJ1_charAt_3b067 ∈ zz_t := zz_in (i := 616) (by decide +kernel) rfl
theorem lJ0_498 : Cond.methodLink RJ0 498 yJ2_charAt_3b067 ∈ zz_t := zz_in (i := 627) (by decide +kernel) rfl
theorem lJ0_1059 : Cond.methodLink RJ0 1059 yJ3_checkIndex_8e157 ∈ zz_t := zz_in (i := 624) (by decide +kernel) rfl
theorem lJ1_9 : Cond.methodLink RJ1 9 yJ0_checkIndex_df160 ∈ zz_t := zz_in (i := 619) (by decide +kernel) rfl
theorem lJ2_48 : Cond.methodLink RJ2 48 yJ2_length_9d52b ∈ zz_t := zz_in (i := 633) (by decide +kernel) rfl
theorem lJ2_67 : Cond.methodLink RJ2 67 yJ2_checkIndex_2214a ∈ zz_t := zz_in (i := 630) (by decide +kernel) rfl
theorem lJ2_71 : Cond.methodLink RJ2 71 yJ2_getChar_3b067 ∈ zz_t := zz_in (i := 637) (by decide +kernel) rfl
theorem lJ2_414 : Cond.methodLink RJ2 414 yJ0_checkIndex_df160 ∈ zz_t := zz_in (i := 636) (by decide +kernel) rfl
theorem lL_9 : Cond.methodLink RL 9 yX7_init ∈ zz_t := zz_in (i := 66) (by decide +kernel) rfl
theorem lL_12 : Cond.methodLink RL 12 yX8_init ∈ zz_t := zz_in (i := 750) (by decide +kernel) rfl
theorem lL_13 : Cond.methodLink RL 13 yX7_setCorrection ∈ zz_t := zz_in (i := 280) (by decide +kernel) rfl
theorem lL_17 : Cond.methodLink RL 17 yX8_setCorrection ∈ zz_t := zz_in (i := 800) (by decide +kernel) rfl
theorem lL_18 : Cond.methodLink RL 18 yX7_set ∈ zz_t := zz_in (i := 332) (by decide +kernel) rfl
theorem lL_21 : Cond.methodLink RL 21 yX8_set ∈ zz_t := zz_in (i := 812) (by decide +kernel) rfl
theorem lL_22 : Cond.methodLink RL 22 yX7_addWall ∈ zz_t := zz_in (i := 344) (by decide +kernel) rfl
theorem lL_26 : Cond.methodLink RL 26 yX8_addWall ∈ zz_t := zz_in (i := 822) (by decide +kernel) rfl
theorem lL_27 : Cond.methodLink RL 27 yX7_measure ∈ zz_t := zz_in (i := 354) (by decide +kernel) rfl
theorem lL_30 : Cond.methodLink RL 30 yX8_measure ∈ zz_t := zz_in (i := 836) (by decide +kernel) rfl
theorem lL_31 : Cond.methodLink RL 31 yX7_ask ∈ zz_t := zz_in (i := 373) (by decide +kernel) rfl
theorem lL_35 : Cond.methodLink RL 35 yX8_ask ∈ zz_t := zz_in (i := 863) (by decide +kernel) rfl
theorem lL_36 : Cond.methodLink RL 36 yX7_decide ∈ zz_t := zz_in (i := 381) (by decide +kernel) rfl
theorem lL_40 : Cond.methodLink RL 40 yX8_decide ∈ zz_t := zz_in (i := 879) (by decide +kernel) rfl
theorem lL_41 : Cond.methodLink RL 41 yX7_askAgain ∈ zz_t := zz_in (i := 467) (by decide +kernel) rfl
theorem lL_44 : Cond.methodLink RL 44 yX8_askAgain ∈ zz_t := zz_in (i := 960) (by decide +kernel) rfl
theorem lL_45 : Cond.methodLink RL 45 yX7_cast ∈ zz_t := zz_in (i := 475) (by decide +kernel) rfl
theorem lL_48 : Cond.methodLink RL 48 yX8_cast ∈ zz_t := zz_in (i := 964) (by decide +kernel) rfl
theorem lL_49 : Cond.methodLink RL 49 yX7_deliver ∈ zz_t := zz_in (i := 498) (by decide +kernel) rfl
theorem lL_52 : Cond.methodLink RL 52 yX8_deliver ∈ zz_t := zz_in (i := 984) (by decide +kernel) rfl
theorem lL_53 : Cond.methodLink RL 53 yX7_take ∈ zz_t := zz_in (i := 510) (by decide +kernel) rfl
theorem lL_56 : Cond.methodLink RL 56 yX8_take ∈ zz_t := zz_in (i := 996) (by decide +kernel) rfl
theorem lL_57 : Cond.methodLink RL 57 yX7_restore ∈ zz_t := zz_in (i := 520) (by decide +kernel) rfl
theorem lL_60 : Cond.methodLink RL 60 yX8_restore ∈ zz_t := zz_in (i := 1006) (by decide +kernel) rfl
theorem lL_61 : Cond.methodLink RL 61 yX7_undo ∈ zz_t := zz_in (i := 529) (by decide +kernel) rfl
theorem lL_64 : Cond.methodLink RL 64 yX8_undo ∈ zz_t := zz_in (i := 1010) (by decide +kernel) rfl
theorem lL_65 : Cond.methodLink RL 65 yX7_append ∈ zz_t := zz_in (i := 541) (by decide +kernel) rfl
theorem lL_68 : Cond.methodLink RL 68 yX8_append ∈ zz_t := zz_in (i := 1014) (by decide +kernel) rfl
theorem lL_69 : Cond.methodLink RL 69 yX7_clearText ∈ zz_t := zz_in (i := 552) (by decide +kernel) rfl
theorem lL_72 : Cond.methodLink RL 72 yX8_clearText ∈ zz_t := zz_in (i := 1018) (by decide +kernel) rfl
theorem lL_73 : Cond.methodLink RL 73 yX7_run ∈ zz_t := zz_in (i := 560) (by decide +kernel) rfl
theorem lL_76 : Cond.methodLink RL 76 yX8_run ∈ zz_t := zz_in (i := 1022) (by decide +kernel) rfl
theorem lL_77 : Cond.methodLink RL 77 yX7_count ∈ zz_t := zz_in (i := 665) (by decide +kernel) rfl
theorem lL_80 : Cond.methodLink RL 80 yX8_count ∈ zz_t := zz_in (i := 1071) (by decide +kernel) rfl
theorem lL_81 : Cond.methodLink RL 81 yX7_wall ∈ zz_t := zz_in (i := 678) (by decide +kernel) rfl
theorem lL_84 : Cond.methodLink RL 84 yX8_wall ∈ zz_t := zz_in (i := 1079) (by decide +kernel) rfl
theorem lL_85 : Cond.methodLink RL 85 yX7_commission ∈ zz_t := zz_in (i := 688) (by decide +kernel) rfl
theorem lL_88 : Cond.methodLink RL 88 yX8_commission ∈ zz_t := zz_in (i := 1087) (by decide +kernel) rfl
theorem lL_89 : Cond.methodLink RL 89 yX7_correction ∈ zz_t := zz_in (i := 692) (by decide +kernel) rfl
theorem lL_92 : Cond.methodLink RL 92 yX8_correction ∈ zz_t := zz_in (i := 1091) (by decide +kernel) rfl
theorem lL_93 : Cond.methodLink RL 93 yX7_sine ∈ zz_t := zz_in (i := 697) (by decide +kernel) rfl
theorem lL_96 : Cond.methodLink RL 96 yX8_sine ∈ zz_t := zz_in (i := 1095) (by decide +kernel) rfl
theorem lL_97 : Cond.methodLink RL 97 yX7_offset ∈ zz_t := zz_in (i := 702) (by decide +kernel) rfl
theorem lL_100 : Cond.methodLink RL 100 yX8_offset ∈ zz_t := zz_in (i := 1099) (by decide +kernel) rfl
theorem lL_101 : Cond.methodLink RL 101 yX7_lines ∈ zz_t := zz_in (i := 707) (by decide +kernel) rfl
theorem lL_104 : Cond.methodLink RL 104 yX8_lines ∈ zz_t := zz_in (i := 1103) (by decide +kernel) rfl
theorem lL_105 : Cond.methodLink RL 105 yX7_read ∈ zz_t := zz_in (i := 719) (by decide +kernel) rfl
theorem lL_108 : Cond.methodLink RL 108 yX8_read ∈ zz_t := zz_in (i := 1107) (by decide +kernel) rfl
theorem lL_109 : Cond.methodLink RL 109 yX7_apart ∈ zz_t := zz_in (i := 728) (by decide +kernel) rfl
theorem lL_112 : Cond.methodLink RL 112 yX8_apart ∈ zz_t := zz_in (i := 1115) (by decide +kernel) rfl
theorem lL_113 : Cond.methodLink RL 113 yX7_reason ∈ zz_t := zz_in (i := 732) (by decide +kernel) rfl
theorem lL_116 : Cond.methodLink RL 116 yX8_reason ∈ zz_t := zz_in (i := 1119) (by decide +kernel) rfl
theorem lL_117 : Cond.methodLink RL 117 yX7_bestLatitude ∈ zz_t := zz_in (i := 736) (by decide +kernel) rfl
theorem lL_120 : Cond.methodLink RL 120 yX8_bestLatitude ∈ zz_t := zz_in (i := 1123) (by decide +kernel) rfl
theorem lL_121 : Cond.methodLink RL 121 yX7_melts ∈ zz_t := zz_in (i := 740) (by decide +kernel) rfl
theorem lL_124 : Cond.methodLink RL 124 yX8_melts ∈ zz_t := zz_in (i := 1127) (by decide +kernel) rfl
theorem lX0_3 : Cond.methodLink RX0 3 objectInit ∈ zz_t := zz_in (i := 110) (by decide +kernel) rfl
theorem lX0_38 : Cond.methodLinkNest RX0 38 yX7_rounded "SundialWorks" ∈ zz_nw := zz_inN (i := 460) (by decide +kernel) rfl
theorem lX1_3 : Cond.methodLink RX1 3 objectInit ∈ zz_t := zz_in (i := 251) (by decide +kernel) rfl
theorem lX1_15 : Cond.methodLinkNest RX1 15 yX7_sineOf "SundialWorks" ∈ zz_nw := zz_inN (i := 420) (by decide +kernel) rfl
theorem lX1_21 : Cond.methodLink RX1 21 yX1_offsetOfShadow ∈ zz_t := zz_in (i := 429) (by decide +kernel) rfl
theorem lX1_28 : Cond.methodLinkNest RX1 28 yX7_rounded "SundialWorks" ∈ zz_nw := zz_inN (i := 434) (by decide +kernel) rfl
theorem lX1_36 : Cond.methodLinkNest RX1 36 yX7_isWithin "SundialWorks" ∈ zz_nw := zz_inN (i := 445) (by decide +kernel) rfl
theorem lX1_40 : Cond.methodLink RX1 40 yX1_offsetAt ∈ zz_t := zz_in (i := 441) (by decide +kernel) rfl
theorem lX1_43 : Cond.methodLink RX1 43 Lib.Math.abs.name ∈ zz_t := zz_in (i := 454) (by decide +kernel) rfl
theorem lX1_55 : Cond.methodLink RX1 55 yX1_readingByLines ∈ zz_t := zz_in (i := 450) (by decide +kernel) rfl
theorem lX2_3 : Cond.methodLink RX2 3 objectInit ∈ zz_t := zz_in (i := 205) (by decide +kernel) rfl
theorem lX2_17 : Cond.methodLink RX2 17 yX5_init ∈ zz_t := zz_in (i := 208) (by decide +kernel) rfl
theorem lX2_22 : Cond.methodLink RX2 22 yX5_copyFrom ∈ zz_t := zz_in (i := 288) (by decide +kernel) rfl
theorem lX2_29 : Cond.methodLink RX2 29 Lib.Math.min.name ∈ zz_t := zz_in (i := 329) (by decide +kernel) rfl
theorem lX2_35 : Cond.methodLink RX2 35 yX2_returnToMarked ∈ zz_t := zz_in (i := 537) (by decide +kernel) rfl
theorem lX3_3 : Cond.methodLink RX3 3 objectInit ∈ zz_t := zz_in (i := 225) (by decide +kernel) rfl
theorem lX3_19 : Cond.methodLinkNest RX3 19 yX7_isWithin "SundialWorks" ∈ zz_nw := zz_inN (i := 549) (by decide +kernel) rfl
theorem lX3_35 : Cond.methodLink RX3 35 yX3_kindOf ∈ zz_t := zz_in (i := 572) (by decide +kernel) rfl
theorem lX3_39 : Cond.methodLink RX3 39 yX3_commandOfToken ∈ zz_t := zz_in (i := 579) (by decide +kernel) rfl
theorem lX3_46 : Cond.methodLink RX3 46 yX3_advance ∈ zz_t := zz_in (i := 648) (by decide +kernel) rfl
theorem lX3_52 : Cond.methodLink RX3 52 yX3_tokenIs ∈ zz_t := zz_in (i := 594) (by decide +kernel) rfl
theorem lX3_56 : Cond.methodLink RX3 56 yX3_numberOfToken ∈ zz_t := zz_in (i := 650) (by decide +kernel) rfl
theorem lX3_61 : Cond.methodLink RX3 61 yX3_wordOf ∈ zz_t := zz_in (i := 583) (by decide +kernel) rfl
theorem lX3_81 : Cond.methodLink RX3 81 yJ0_length_8abf5 ∈ zz_t := zz_in (i := 598) (by decide +kernel) rfl
theorem lX3_85 : Cond.methodLink RX3 85 yJ0_charAt_5068e ∈ zz_t := zz_in (i := 608) (by decide +kernel) rfl
theorem lX4_3 : Cond.methodLink RX4 3 objectInit ∈ zz_t := zz_in (i := 83) (by decide +kernel) rfl
theorem lX4_30 : Cond.methodLinkNest RX4 30 yX6_init "SundialWorks" ∈ zz_nw := zz_inN (i := 89) (by decide +kernel) rfl
theorem lX4_31 : Cond.methodLinkNest RX4 31 yX0_init "SundialWorks" ∈ zz_nw := zz_inN (i := 107) (by decide +kernel) rfl
theorem lX4_35 : Cond.methodLink RX4 35 yX6_copyFrom ∈ zz_t := zz_in (i := 296) (by decide +kernel) rfl
theorem lX4_39 : Cond.methodLink RX4 39 yX0_copyFrom ∈ zz_t := zz_in (i := 300) (by decide +kernel) rfl
theorem lX4_42 : Cond.methodLink RX4 42 arraycopyName ∈ zz_t := zz_in (i := 304) (by decide +kernel) rfl
theorem lX4_61 : Cond.methodLinkNest RX4 61 yX7_isWithin "SundialWorks" ∈ zz_nw := zz_inN (i := 311) (by decide +kernel) rfl
theorem lX4_80 : Cond.methodLink RX4 80 yX4_hasWall ∈ zz_t := zz_in (i := 362) (by decide +kernel) rfl
theorem lX4_84 : Cond.methodLink RX4 84 yX6_isKnown ∈ zz_t := zz_in (i := 366) (by decide +kernel) rfl
theorem lX4_111 : Cond.methodLink RX4 111 yX4_hasCommission ∈ zz_t := zz_in (i := 401) (by decide +kernel) rfl
theorem lX4_115 : Cond.methodLink RX4 115 yX4_declinationOfDial ∈ zz_t := zz_in (i := 466) (by decide +kernel) rfl
theorem lX4_119 : Cond.methodLink RX4 119 yX4_acceptedOnes ∈ zz_t := zz_in (i := 483) (by decide +kernel) rfl
theorem lX4_123 : Cond.methodLink RX4 123 yX4_nextMelt ∈ zz_t := zz_in (i := 487) (by decide +kernel) rfl
theorem lX4_126 : Cond.methodLink RX4 126 yX0_weight ∈ zz_t := zz_in (i := 491) (by decide +kernel) rfl
theorem lX4_129 : Cond.methodLink RX4 129 yJ6_bitCount_0f7a4 ∈ zz_t := zz_in (i := 492) (by decide +kernel) rfl
theorem lX4_134 : Cond.methodLink RX4 134 yX4_commissionsInState ∈ zz_t := zz_in (i := 506) (by decide +kernel) rfl
theorem lX4_139 : Cond.methodLinkNest RX4 139 yX7_rounded "SundialWorks" ∈ zz_nw := zz_inN (i := 411) (by decide +kernel) rfl
theorem lX4_143 : Cond.methodLink RX4 143 yX0_isByWallNow ∈ zz_t := zz_in (i := 402) (by decide +kernel) rfl
theorem lX4_147 : Cond.methodLink RX4 147 yX4_declinationOfWall ∈ zz_t := zz_in (i := 406) (by decide +kernel) rfl
theorem lX5_3 : Cond.methodLink RX5 3 objectInit ∈ zz_t := zz_in (i := 77) (by decide +kernel) rfl
theorem lX5_11 : Cond.methodLink RX5 11 yX4_init ∈ zz_t := zz_in (i := 80) (by decide +kernel) rfl
theorem lX5_26 : Cond.methodLink RX5 26 yX4_copyFrom ∈ zz_t := zz_in (i := 292) (by decide +kernel) rfl
theorem lX5_30 : Cond.methodLinkNest RX5 30 yX7_isWithin "SundialWorks" ∈ zz_nw := zz_inN (i := 518) (by decide +kernel) rfl
theorem lX6_3 : Cond.methodLink RX6 3 objectInit ∈ zz_t := zz_in (i := 92) (by decide +kernel) rfl
theorem lX6_19 : Cond.methodLink RX6 19 Lib.Math.abs.name ∈ zz_t := zz_in (i := 370) (by decide +kernel) rfl
theorem lX7_1 : Cond.methodLink RX7 1 objectInit ∈ zz_t := zz_in (i := 69) (by decide +kernel) rfl
theorem lX7_9 : Cond.methodLink RX7 9 yX5_init ∈ zz_t := zz_in (i := 74) (by decide +kernel) rfl
theorem lX7_18 : Cond.methodLink RX7 18 yX2_init ∈ zz_t := zz_in (i := 202) (by decide +kernel) rfl
theorem lX7_25 : Cond.methodLinkNest RX7 25 yX3_init "SundialWorks" ∈ zz_nw := zz_inN (i := 222) (by decide +kernel) rfl
theorem lX7_32 : Cond.methodLinkNest RX7 32 yX1_init "SundialWorks" ∈ zz_nw := zz_inN (i := 248) (by decide +kernel) rfl
theorem lX7_42 : Cond.methodLink RX7 42 yX2_mark ∈ zz_t := zz_in (i := 284) (by decide +kernel) rfl
theorem lX7_46 : Cond.methodLink RX7 46 yX4_changeCorrection ∈ zz_t := zz_in (i := 307) (by decide +kernel) rfl
theorem lX7_52 : Cond.methodLink RX7 52 yX7_recorded ∈ zz_t := zz_in (i := 315) (by decide +kernel) rfl
theorem lX7_56 : Cond.methodLink RX7 56 yX4_changeSetting ∈ zz_t := zz_in (i := 336) (by decide +kernel) rfl
theorem lX7_59 : Cond.methodLink RX7 59 yX4_openWall ∈ zz_t := zz_in (i := 348) (by decide +kernel) rfl
theorem lX7_63 : Cond.methodLink RX7 63 yX4_measureWall ∈ zz_t := zz_in (i := 358) (by decide +kernel) rfl
theorem lX7_66 : Cond.methodLink RX7 66 yX4_openCommission ∈ zz_t := zz_in (i := 377) (by decide +kernel) rfl
theorem lX7_70 : Cond.methodLink RX7 70 yX7_judge ∈ zz_t := zz_in (i := 385) (by decide +kernel) rfl
theorem lX7_73 : Cond.methodLink RX7 73 yX4_conclude ∈ zz_t := zz_in (i := 461) (by decide +kernel) rfl
theorem lX7_76 : Cond.methodLink RX7 76 yX4_reopen ∈ zz_t := zz_in (i := 471) (by decide +kernel) rfl
theorem lX7_79 : Cond.methodLink RX7 79 yX4_castMelt ∈ zz_t := zz_in (i := 479) (by decide +kernel) rfl
theorem lX7_82 : Cond.methodLink RX7 82 yX4_handOver ∈ zz_t := zz_in (i := 502) (by decide +kernel) rfl
theorem lX7_85 : Cond.methodLink RX7 85 yX5_keepSnapshot ∈ zz_t := zz_in (i := 514) (by decide +kernel) rfl
theorem lX7_88 : Cond.methodLink RX7 88 yX5_fetchSnapshot ∈ zz_t := zz_in (i := 524) (by decide +kernel) rfl
theorem lX7_96 : Cond.methodLink RX7 96 yX2_stepBack ∈ zz_t := zz_in (i := 533) (by decide +kernel) rfl
theorem lX7_99 : Cond.methodLink RX7 99 yX3_add ∈ zz_t := zz_in (i := 545) (by decide +kernel) rfl
theorem lX7_102 : Cond.methodLink RX7 102 yX3_empty ∈ zz_t := zz_in (i := 556) (by decide +kernel) rfl
theorem lX7_105 : Cond.methodLink RX7 105 yX3_rewind ∈ zz_t := zz_in (i := 564) (by decide +kernel) rfl
theorem lX7_108 : Cond.methodLink RX7 108 yX3_advance ∈ zz_t := zz_in (i := 568) (by decide +kernel) rfl
theorem lX7_115 : Cond.methodLink RX7 115 yX3_parseCommand ∈ zz_t := zz_in (i := 575) (by decide +kernel) rfl
theorem lX7_118 : Cond.methodLink RX7 118 yX7_failedAt ∈ zz_t := zz_in (i := 655) (by decide +kernel) rfl
theorem lX7_121 : Cond.methodLink RX7 121 yX7_perform ∈ zz_t := zz_in (i := 660) (by decide +kernel) rfl
theorem lX7_124 : Cond.methodLink RX7 124 yX7_isError ∈ zz_t := zz_in (i := 319) (by decide +kernel) rfl
theorem lX7_128 : Cond.methodLink RX7 128 yX2_keepMarked ∈ zz_t := zz_in (i := 325) (by decide +kernel) rfl
theorem lX7_134 : Cond.methodLink RX7 134 yX4_knownWalls ∈ zz_t := zz_in (i := 669) (by decide +kernel) rfl
theorem lX7_140 : Cond.methodLink RX7 140 yX4_commissionsInState ∈ zz_t := zz_in (i := 673) (by decide +kernel) rfl
theorem lX7_149 : Cond.methodLink RX7 149 yX5_snapshots ∈ zz_t := zz_in (i := 674) (by decide +kernel) rfl
theorem lX7_160 : Cond.methodLink RX7 160 yX4_hasWall ∈ zz_t := zz_in (i := 682) (by decide +kernel) rfl
theorem lX7_175 : Cond.methodLink RX7 175 yX4_declinationOfWall ∈ zz_t := zz_in (i := 683) (by decide +kernel) rfl
theorem lX7_178 : Cond.methodLink RX7 178 yX4_commissionsForWall ∈ zz_t := zz_in (i := 684) (by decide +kernel) rfl
theorem lX7_181 : Cond.methodLink RX7 181 yX4_hasCommission ∈ zz_t := zz_in (i := 389) (by decide +kernel) rfl
theorem lX7_204 : Cond.methodLink RX7 204 yX4_declinationOfDial ∈ zz_t := zz_in (i := 397) (by decide +kernel) rfl
theorem lX7_207 : Cond.methodLink RX7 207 yX0_weight ∈ zz_t := zz_in (i := 455) (by decide +kernel) rfl
theorem lX7_216 : Cond.methodLink RX7 216 yX7_isWithin ∈ zz_t := zz_in (i := 696) (by decide +kernel) rfl
theorem lX7_223 : Cond.methodLink RX7 223 yX7_sineOf ∈ zz_t := zz_in (i := 701) (by decide +kernel) rfl
theorem lX7_226 : Cond.methodLink RX7 226 yX7_layDial ∈ zz_t := zz_in (i := 393) (by decide +kernel) rfl
theorem lX7_229 : Cond.methodLink RX7 229 yX1_offsetAt ∈ zz_t := zz_in (i := 706) (by decide +kernel) rfl
theorem lX7_232 : Cond.methodLink RX7 232 yX1_countLines ∈ zz_t := zz_in (i := 437) (by decide +kernel) rfl
theorem lX7_235 : Cond.methodLink RX7 235 yX1_firstLine ∈ zz_t := zz_in (i := 711) (by decide +kernel) rfl
theorem lX7_238 : Cond.methodLink RX7 238 yX1_lastLine ∈ zz_t := zz_in (i := 715) (by decide +kernel) rfl
theorem lX7_241 : Cond.methodLink RX7 241 yX1_readingByLines ∈ zz_t := zz_in (i := 723) (by decide +kernel) rfl
theorem lX7_244 : Cond.methodLink RX7 244 yX1_readingByShadow ∈ zz_t := zz_in (i := 724) (by decide +kernel) rfl
theorem lX7_248 : Cond.methodLink RX7 248 yX1_compareReadings ∈ zz_t := zz_in (i := 446) (by decide +kernel) rfl
theorem lX7_257 : Cond.methodLink RX7 257 yX1_lay ∈ zz_t := zz_in (i := 416) (by decide +kernel) rfl
theorem lX7_261 : Cond.methodLink RX7 261 yX4_meltsNeeded ∈ zz_t := zz_in (i := 744) (by decide +kernel) rfl
theorem lX7_264 : Cond.methodLink RX7 264 yX2_returnToMarked ∈ zz_t := zz_in (i := 659) (by decide +kernel) rfl
theorem lX7_273 : Cond.methodLink RX7 273 Lib.Math.abs.name ∈ zz_t := zz_in (i := 423) (by decide +kernel) rfl
theorem lX7_284 : Cond.methodLink RX7 284 yX7_rounded ∈ zz_t := zz_in (i := 427) (by decide +kernel) rfl
theorem lX8_1 : Cond.methodLink RX8 1 objectInit ∈ zz_t := zz_in (i := 753) (by decide +kernel) rfl
theorem lX8_46 : Cond.methodLink RX8 46 yX8_rounded ∈ zz_t := zz_in (i := 860) (by decide +kernel) rfl
theorem lX8_50 : Cond.methodLink RX8 50 yX8_sineOf ∈ zz_t := zz_in (i := 923) (by decide +kernel) rfl
theorem lX8_56 : Cond.methodLink RX8 56 yX8_cosineOf ∈ zz_t := zz_in (i := 920) (by decide +kernel) rfl
theorem lX8_59 : Cond.methodLink RX8 59 yX8_frontOf ∈ zz_t := zz_in (i := 916) (by decide +kernel) rfl
theorem lX8_65 : Cond.methodLink RX8 65 yX8_sideOf ∈ zz_t := zz_in (i := 929) (by decide +kernel) rfl
theorem lX8_73 : Cond.methodLink RX8 73 yX8_has ∈ zz_t := zz_in (i := 938) (by decide +kernel) rfl
theorem lX8_77 : Cond.methodLink RX8 77 yX8_off ∈ zz_t := zz_in (i := 946) (by decide +kernel) rfl
theorem lX8_84 : Cond.methodLink RX8 84 yX8_size ∈ zz_t := zz_in (i := 856) (by decide +kernel) rfl
theorem lX8_87 : Cond.methodLink RX8 87 yX8_byLines ∈ zz_t := zz_in (i := 950) (by decide +kernel) rfl
theorem lX8_90 : Cond.methodLink RX8 90 yX8_in ∈ zz_t := zz_in (i := 804) (by decide +kernel) rfl
theorem lX8_95 : Cond.methodLink RX8 95 yX8_act ∈ zz_t := zz_in (i := 808) (by decide +kernel) rfl
theorem lX8_98 : Cond.methodLink RX8 98 yX8_leastOf ∈ zz_t := zz_in (i := 816) (by decide +kernel) rfl
theorem lX8_101 : Cond.methodLink RX8 101 yX8_mostOf ∈ zz_t := zz_in (i := 819) (by decide +kernel) rfl
theorem lX8_105 : Cond.methodLink RX8 105 yX8_wallCode ∈ zz_t := zz_in (i := 826) (by decide +kernel) rfl
theorem lX8_109 : Cond.methodLink RX8 109 yX8_wallNow ∈ zz_t := zz_in (i := 831) (by decide +kernel) rfl
theorem lX8_114 : Cond.methodLink RX8 114 yX8_isWall ∈ zz_t := zz_in (i := 844) (by decide +kernel) rfl
theorem lX8_117 : Cond.methodLink RX8 117 yX8_declinationOfWall ∈ zz_t := zz_in (i := 852) (by decide +kernel) rfl
theorem lX8_120 : Cond.methodLink RX8 120 yX8_measureCode ∈ zz_t := zz_in (i := 840) (by decide +kernel) rfl
theorem lX8_124 : Cond.methodLink RX8 124 yX8_measureNow ∈ zz_t := zz_in (i := 848) (by decide +kernel) rfl
theorem lX8_127 : Cond.methodLink RX8 127 yX8_of ∈ zz_t := zz_in (i := 891) (by decide +kernel) rfl
theorem lX8_130 : Cond.methodLink RX8 130 yX8_declinationOf ∈ zz_t := zz_in (i := 908) (by decide +kernel) rfl
theorem lX8_133 : Cond.methodLink RX8 133 yX8_reckon ∈ zz_t := zz_in (i := 912) (by decide +kernel) rfl
theorem lX8_139 : Cond.methodLink RX8 139 yX8_takeDial ∈ zz_t := zz_in (i := 904) (by decide +kernel) rfl
theorem lX8_142 : Cond.methodLink RX8 142 yX8_hourLines ∈ zz_t := zz_in (i := 934) (by decide +kernel) rfl
theorem lX8_145 : Cond.methodLink RX8 145 yX8_apartOf ∈ zz_t := zz_in (i := 942) (by decide +kernel) rfl
theorem lX8_148 : Cond.methodLink RX8 148 yX8_weightOf ∈ zz_t := zz_in (i := 955) (by decide +kernel) rfl
theorem lX8_151 : Cond.methodLink RX8 151 yX8_put ∈ zz_t := zz_in (i := 875) (by decide +kernel) rfl
theorem lX8_155 : Cond.methodLink RX8 155 yX8_askCode ∈ zz_t := zz_in (i := 867) (by decide +kernel) rfl
theorem lX8_159 : Cond.methodLink RX8 159 yX8_askNow ∈ zz_t := zz_in (i := 871) (by decide +kernel) rfl
theorem lX8_162 : Cond.methodLink RX8 162 yX8_isCommission ∈ zz_t := zz_in (i := 887) (by decide +kernel) rfl
theorem lX8_166 : Cond.methodLink RX8 166 yX8_reasonFor ∈ zz_t := zz_in (i := 900) (by decide +kernel) rfl
theorem lX8_169 : Cond.methodLink RX8 169 yX8_stateCode ∈ zz_t := zz_in (i := 883) (by decide +kernel) rfl
theorem lX8_172 : Cond.methodLink RX8 172 yX8_decideNow ∈ zz_t := zz_in (i := 896) (by decide +kernel) rfl
theorem lX8_175 : Cond.methodLink RX8 175 yX8_takeStates ∈ zz_t := zz_in (i := 972) (by decide +kernel) rfl
theorem lX8_178 : Cond.methodLink RX8 178 yX8_melt ∈ zz_t := zz_in (i := 976) (by decide +kernel) rfl
theorem lX8_181 : Cond.methodLink RX8 181 yX8_castCode ∈ zz_t := zz_in (i := 968) (by decide +kernel) rfl
theorem lX8_184 : Cond.methodLink RX8 184 yX8_castNow ∈ zz_t := zz_in (i := 980) (by decide +kernel) rfl
theorem lX8_187 : Cond.methodLink RX8 187 yX8_inState ∈ zz_t := zz_in (i := 992) (by decide +kernel) rfl
theorem lX8_190 : Cond.methodLink RX8 190 yX8_deliverNow ∈ zz_t := zz_in (i := 988) (by decide +kernel) rfl
theorem lX8_193 : Cond.methodLink RX8 193 yX8_isBit ∈ zz_t := zz_in (i := 1000) (by decide +kernel) rfl
theorem lX8_196 : Cond.methodLink RX8 196 yX8_slotAt ∈ zz_t := zz_in (i := 1003) (by decide +kernel) rfl
theorem lX8_208 : Cond.methodLink RX8 208 yX8_at ∈ zz_t := zz_in (i := 1030) (by decide +kernel) rfl
theorem lX8_217 : Cond.methodLink RX8 217 yX8_spelled ∈ zz_t := zz_in (i := 1049) (by decide +kernel) rfl
theorem lX8_221 : Cond.methodLink RX8 221 yX8_letterOf ∈ zz_t := zz_in (i := 1046) (by decide +kernel) rfl
theorem lX8_224 : Cond.methodLink RX8 224 yX8_isWord ∈ zz_t := zz_in (i := 1042) (by decide +kernel) rfl
theorem lX8_227 : Cond.methodLink RX8 227 yX8_next ∈ zz_t := zz_in (i := 1026) (by decide +kernel) rfl
theorem lX8_230 : Cond.methodLink RX8 230 yX8_fail ∈ zz_t := zz_in (i := 1052) (by decide +kernel) rfl
theorem lX8_234 : Cond.methodLink RX8 234 yX8_wordHere ∈ zz_t := zz_in (i := 1038) (by decide +kernel) rfl
theorem lX8_237 : Cond.methodLink RX8 237 yX8_numbersOf ∈ zz_t := zz_in (i := 1056) (by decide +kernel) rfl
theorem lX8_240 : Cond.methodLink RX8 240 yX8_readNumber ∈ zz_t := zz_in (i := 1059) (by decide +kernel) rfl
theorem lX8_244 : Cond.methodLink RX8 244 yX8_codeOf ∈ zz_t := zz_in (i := 1063) (by decide +kernel) rfl
theorem lX8_247 : Cond.methodLink RX8 247 yX8_carry ∈ zz_t := zz_in (i := 1067) (by decide +kernel) rfl
theorem lX8_250 : Cond.methodLink RX8 250 yX8_command ∈ zz_t := zz_in (i := 1034) (by decide +kernel) rfl
theorem lX8_253 : Cond.methodLink RX8 253 yX8_knownWalls ∈ zz_t := zz_in (i := 1075) (by decide +kernel) rfl
theorem lX8_256 : Cond.methodLink RX8 256 yX8_commissionsFor ∈ zz_t := zz_in (i := 1083) (by decide +kernel) rfl
theorem lX8_259 : Cond.methodLink RX8 259 yX8_byShadow ∈ zz_t := zz_in (i := 1111) (by decide +kernel) rfl
theorem fJ0_9 : Cond.fieldLink RJ0 9 "java/lang/String" "value" "[B" ∈ zz_t := zz_in (i := 1131) (by decide +kernel) rfl
theorem fJ0_15 : Cond.fieldLink RJ0 15 "java/lang/String" "coder" "B" ∈ zz_t := zz_in (i := 1132) (by decide +kernel) rfl
theorem fJ0_38 : Cond.fieldLink RJ0 38 "java/lang/String" "COMPACT_STRINGS" "Z" ∈ zz_t := zz_in (i := 606) (by decide +kernel) rfl
theorem fJ0_1053 : Cond.fieldLink RJ0 1053 "jdk/internal/util/Preconditions" "SIOOBE_FORMATTER" "Ljava/util/function/BiFunction;" ∈ zz_t := zz_in (i := 622) (by decide +kernel) rfl
theorem fJ2_44 : Cond.fieldLink RJ2 44 "java/lang/StringUTF16" "$assertionsDisabled" "Z" ∈ zz_t := zz_in (i := 640) (by decide +kernel) rfl
theorem fJ2_59 : Cond.fieldLink RJ2 59 "java/lang/StringUTF16" "HI_BYTE_SHIFT" "I" ∈ zz_t := zz_in (i := 642) (by decide +kernel) rfl
theorem fJ2_63 : Cond.fieldLink RJ2 63 "java/lang/StringUTF16" "LO_BYTE_SHIFT" "I" ∈ zz_t := zz_in (i := 644) (by decide +kernel) rfl
theorem fX0_9 : zz_F RX0 9 0 0 := ⟨zz_in (i := 111) (by decide +kernel) rfl, by decide, by decide, rfl⟩
theorem fX0_15 : zz_F RX0 15 0 1 := ⟨zz_in (i := 114) (by decide +kernel) rfl, by decide, by decide, rfl⟩
theorem fX0_18 : zz_F RX0 18 0 2 := ⟨zz_in (i := 117) (by decide +kernel) rfl, by decide, by decide, rfl⟩
theorem fX0_21 : zz_F RX0 21 0 3 := ⟨zz_in (i := 120) (by decide +kernel) rfl, by decide, by decide, rfl⟩
theorem fX0_24 : zz_F RX0 24 0 4 := ⟨zz_in (i := 123) (by decide +kernel) rfl, by decide, by decide, rfl⟩
theorem fX0_27 : zz_F RX0 27 0 5 := ⟨zz_in (i := 126) (by decide +kernel) rfl, by decide, by decide, rfl⟩
theorem fX0_30 : zz_F RX0 30 0 6 := ⟨zz_in (i := 128) (by decide +kernel) rfl, by decide, by decide, rfl⟩
theorem fX0_33 : zz_F RX0 33 0 7 := ⟨zz_in (i := 131) (by decide +kernel) rfl, by decide, by decide, rfl⟩
theorem fX1_9 : zz_F RX1 9 1 0 := ⟨zz_in (i := 252) (by decide +kernel) rfl, by decide, by decide, rfl⟩
theorem fX1_48 : zz_F RX1 48 1 1 := ⟨zz_in (i := 253) (by decide +kernel) rfl, by decide, by decide, rfl⟩
theorem fX1_52 : zz_F RX1 52 1 2 := ⟨zz_in (i := 255) (by decide +kernel) rfl, by decide, by decide, rfl⟩
theorem fX2_11 : zz_F RX2 11 2 0 := ⟨zz_in (i := 209) (by decide +kernel) rfl, by decide, by decide, rfl⟩
theorem fX2_18 : zz_F RX2 18 2 1 := ⟨zz_in (i := 210) (by decide +kernel) rfl, by decide, by decide, rfl⟩
theorem fX2_26 : zz_F RX2 26 2 2 := ⟨zz_in (i := 211) (by decide +kernel) rfl, by decide, by decide, rfl⟩
theorem fX3_9 : zz_F RX3 9 3 0 := ⟨zz_in (i := 226) (by decide +kernel) rfl, by decide, by decide, rfl⟩
theorem fX3_15 : zz_F RX3 15 3 1 := ⟨zz_in (i := 227) (by decide +kernel) rfl, by decide, by decide, rfl⟩
theorem fX3_24 : zz_F RX3 24 3 2 := ⟨zz_in (i := 229) (by decide +kernel) rfl, by decide, by decide, rfl⟩
theorem fX3_29 : zz_F RX3 29 3 3 := ⟨zz_in (i := 231) (by decide +kernel) rfl, by decide, by decide, rfl⟩
theorem fX3_32 : zz_F RX3 32 3 4 := ⟨zz_in (i := 233) (by decide +kernel) rfl, by decide, by decide, rfl⟩
theorem fX3_43 : Cond.fieldLinkNest RX3 43 "SundialWorks" "NUMBERS_OF_COMMANDS" "[I" "SundialWorks" ∈ zz_nw := zz_inN (i := 646) (by decide +kernel) rfl
theorem fX4_11 : zz_F RX4 11 4 0 := ⟨zz_in (i := 153) (by decide +kernel) rfl, by decide, by decide, rfl⟩
theorem fX4_17 : zz_F RX4 17 4 1 := ⟨zz_in (i := 155) (by decide +kernel) rfl, by decide, by decide, rfl⟩
theorem fX4_21 : zz_F RX4 21 4 2 := ⟨zz_in (i := 157) (by decide +kernel) rfl, by decide, by decide, rfl⟩
theorem fX4_26 : zz_F RX4 26 4 3 := ⟨zz_in (i := 159) (by decide +kernel) rfl, by decide, by decide, rfl⟩
theorem fX4_32 : Cond.fieldLinkNest RX4 32 "SundialWorks" "FIRST_VALUES" "[I" "SundialWorks" ∈ zz_nw := zz_inN (i := 151) (by decide +kernel) rfl
theorem fX4_48 : zz_F RX4 48 4 4 := ⟨zz_in (i := 161) (by decide +kernel) rfl, by decide, by decide, rfl⟩
theorem fX4_52 : zz_F RX4 52 4 5 := ⟨zz_in (i := 163) (by decide +kernel) rfl, by decide, by decide, rfl⟩
theorem fX4_55 : zz_F RX4 55 4 6 := ⟨zz_in (i := 166) (by decide +kernel) rfl, by decide, by decide, rfl⟩
theorem fX4_58 : zz_F RX4 58 4 7 := ⟨zz_in (i := 168) (by decide +kernel) rfl, by decide, by decide, rfl⟩
theorem fX4_66 : Cond.fieldLinkNest RX4 66 "SundialWorks" "LEAST_VALUES" "[I" "SundialWorks" ∈ zz_nw := zz_inN (i := 340) (by decide +kernel) rfl
theorem fX4_69 : Cond.fieldLinkNest RX4 69 "SundialWorks" "GREATEST_VALUES" "[I" "SundialWorks" ∈ zz_nw := zz_inN (i := 342) (by decide +kernel) rfl
theorem fX4_74 : zz_F RX4 74 6 0 := ⟨zz_in (i := 95) (by decide +kernel) rfl, by decide, by decide, rfl⟩
theorem fX4_77 : zz_F RX4 77 6 1 := ⟨zz_in (i := 98) (by decide +kernel) rfl, by decide, by decide, rfl⟩
theorem fX4_87 : zz_F RX4 87 0 0 := ⟨zz_in (i := 112) (by decide +kernel) rfl, by decide, by decide, rfl⟩
theorem fX4_90 : zz_F RX4 90 0 1 := ⟨zz_in (i := 115) (by decide +kernel) rfl, by decide, by decide, rfl⟩
theorem fX4_93 : zz_F RX4 93 0 2 := ⟨zz_in (i := 118) (by decide +kernel) rfl, by decide, by decide, rfl⟩
theorem fX4_96 : zz_F RX4 96 0 3 := ⟨zz_in (i := 121) (by decide +kernel) rfl, by decide, by decide, rfl⟩
theorem fX4_99 : zz_F RX4 99 0 4 := ⟨zz_in (i := 124) (by decide +kernel) rfl, by decide, by decide, rfl⟩
theorem fX4_102 : zz_F RX4 102 0 5 := ⟨zz_in (i := 127) (by decide +kernel) rfl, by decide, by decide, rfl⟩
theorem fX4_105 : zz_F RX4 105 0 6 := ⟨zz_in (i := 129) (by decide +kernel) rfl, by decide, by decide, rfl⟩
theorem fX4_108 : zz_F RX4 108 0 7 := ⟨zz_in (i := 132) (by decide +kernel) rfl, by decide, by decide, rfl⟩
theorem fX5_12 : zz_F RX5 12 5 0 := ⟨zz_in (i := 188) (by decide +kernel) rfl, by decide, by decide, rfl⟩
theorem fX5_18 : zz_F RX5 18 5 1 := ⟨zz_in (i := 190) (by decide +kernel) rfl, by decide, by decide, rfl⟩
theorem fX5_22 : zz_F RX5 22 5 2 := ⟨zz_in (i := 191) (by decide +kernel) rfl, by decide, by decide, rfl⟩
theorem fX5_35 : zz_F RX5 35 4 5 := ⟨zz_in (i := 164) (by decide +kernel) rfl, by decide, by decide, rfl⟩
theorem fX6_10 : zz_F RX6 10 6 0 := ⟨zz_in (i := 94) (by decide +kernel) rfl, by decide, by decide, rfl⟩
theorem fX6_16 : zz_F RX6 16 6 1 := ⟨zz_in (i := 97) (by decide +kernel) rfl, by decide, by decide, rfl⟩
theorem fX7_10 : zz_F RX7 10 7 0 := ⟨zz_in (i := 264) (by decide +kernel) rfl, by decide, by decide, rfl⟩
theorem fX7_19 : zz_F RX7 19 7 1 := ⟨zz_in (i := 265) (by decide +kernel) rfl, by decide, by decide, rfl⟩
theorem fX7_26 : zz_F RX7 26 7 2 := ⟨zz_in (i := 266) (by decide +kernel) rfl, by decide, by decide, rfl⟩
theorem fX7_33 : zz_F RX7 33 7 3 := ⟨zz_in (i := 267) (by decide +kernel) rfl, by decide, by decide, rfl⟩
theorem fX7_37 : zz_F RX7 37 5 0 := ⟨zz_in (i := 189) (by decide +kernel) rfl, by decide, by decide, rfl⟩
theorem fX7_41 : zz_F RX7 41 7 4 := ⟨zz_in (i := 268) (by decide +kernel) rfl, by decide, by decide, rfl⟩
theorem fX7_91 : zz_F RX7 91 2 2 := ⟨zz_in (i := 212) (by decide +kernel) rfl, by decide, by decide, rfl⟩
theorem fX7_112 : zz_F RX7 112 3 3 := ⟨zz_in (i := 232) (by decide +kernel) rfl, by decide, by decide, rfl⟩
theorem fX7_131 : zz_F RX7 131 4 4 := ⟨zz_in (i := 162) (by decide +kernel) rfl, by decide, by decide, rfl⟩
theorem fX7_137 : zz_F RX7 137 4 5 := ⟨zz_in (i := 165) (by decide +kernel) rfl, by decide, by decide, rfl⟩
theorem fX7_143 : zz_F RX7 143 4 6 := ⟨zz_in (i := 167) (by decide +kernel) rfl, by decide, by decide, rfl⟩
theorem fX7_146 : zz_F RX7 146 4 7 := ⟨zz_in (i := 169) (by decide +kernel) rfl, by decide, by decide, rfl⟩
theorem fX7_152 : zz_F RX7 152 3 2 := ⟨zz_in (i := 230) (by decide +kernel) rfl, by decide, by decide, rfl⟩
theorem fX7_155 : zz_F RX7 155 4 2 := ⟨zz_in (i := 158) (by decide +kernel) rfl, by decide, by decide, rfl⟩
theorem fX7_163 : zz_F RX7 163 4 0 := ⟨zz_in (i := 154) (by decide +kernel) rfl, by decide, by decide, rfl⟩
theorem fX7_167 : zz_F RX7 167 6 0 := ⟨zz_in (i := 96) (by decide +kernel) rfl, by decide, by decide, rfl⟩
theorem fX7_172 : zz_F RX7 172 6 1 := ⟨zz_in (i := 99) (by decide +kernel) rfl, by decide, by decide, rfl⟩
theorem fX7_184 : zz_F RX7 184 4 3 := ⟨zz_in (i := 160) (by decide +kernel) rfl, by decide, by decide, rfl⟩
theorem fX7_188 : zz_F RX7 188 0 0 := ⟨zz_in (i := 113) (by decide +kernel) rfl, by decide, by decide, rfl⟩
theorem fX7_193 : zz_F RX7 193 0 1 := ⟨zz_in (i := 116) (by decide +kernel) rfl, by decide, by decide, rfl⟩
theorem fX7_196 : zz_F RX7 196 0 2 := ⟨zz_in (i := 119) (by decide +kernel) rfl, by decide, by decide, rfl⟩
theorem fX7_199 : zz_F RX7 199 0 3 := ⟨zz_in (i := 122) (by decide +kernel) rfl, by decide, by decide, rfl⟩
theorem fX7_202 : zz_F RX7 202 0 4 := ⟨zz_in (i := 125) (by decide +kernel) rfl, by decide, by decide, rfl⟩
theorem fX7_210 : zz_F RX7 210 0 6 := ⟨zz_in (i := 130) (by decide +kernel) rfl, by decide, by decide, rfl⟩
theorem fX7_213 : zz_F RX7 213 0 7 := ⟨zz_in (i := 133) (by decide +kernel) rfl, by decide, by decide, rfl⟩
theorem fX7_220 : zz_F RX7 220 4 1 := ⟨zz_in (i := 156) (by decide +kernel) rfl, by decide, by decide, rfl⟩
theorem fX7_251 : zz_F RX7 251 1 1 := ⟨zz_in (i := 254) (by decide +kernel) rfl, by decide, by decide, rfl⟩
theorem fX7_254 : zz_F RX7 254 1 2 := ⟨zz_in (i := 256) (by decide +kernel) rfl, by decide, by decide, rfl⟩
theorem fX7_267 : zz_F RX7 267 3 1 := ⟨zz_in (i := 228) (by decide +kernel) rfl, by decide, by decide, rfl⟩
theorem fX8_7 : zz_F RX8 7 8 1 := ⟨zz_in (i := 755) (by decide +kernel) rfl, by decide, by decide, rfl⟩
theorem fX8_13 : zz_F RX8 13 8 2 := ⟨zz_in (i := 756) (by decide +kernel) rfl, by decide, by decide, rfl⟩
theorem fX8_16 : zz_F RX8 16 8 3 := ⟨zz_in (i := 757) (by decide +kernel) rfl, by decide, by decide, rfl⟩
theorem fX8_19 : zz_F RX8 19 8 5 := ⟨zz_in (i := 759) (by decide +kernel) rfl, by decide, by decide, rfl⟩
theorem fX8_22 : zz_F RX8 22 8 7 := ⟨zz_in (i := 761) (by decide +kernel) rfl, by decide, by decide, rfl⟩
theorem fX8_25 : zz_F RX8 25 8 8 := ⟨zz_in (i := 762) (by decide +kernel) rfl, by decide, by decide, rfl⟩
theorem fX8_28 : zz_F RX8 28 8 9 := ⟨zz_in (i := 763) (by decide +kernel) rfl, by decide, by decide, rfl⟩
theorem fX8_32 : zz_F RX8 32 8 10 := ⟨zz_in (i := 764) (by decide +kernel) rfl, by decide, by decide, rfl⟩
theorem fX8_35 : zz_F RX8 35 8 0 := ⟨zz_in (i := 754) (by decide +kernel) rfl, by decide, by decide, rfl⟩
theorem fX8_39 : zz_F RX8 39 8 4 := ⟨zz_in (i := 758) (by decide +kernel) rfl, by decide, by decide, rfl⟩
theorem fX8_199 : zz_F RX8 199 8 6 := ⟨zz_in (i := 760) (by decide +kernel) rfl, by decide, by decide, rfl⟩
theorem fX8_202 : zz_F RX8 202 8 13 := ⟨zz_in (i := 767) (by decide +kernel) rfl, by decide, by decide, rfl⟩
theorem fX8_205 : zz_F RX8 205 8 12 := ⟨zz_in (i := 766) (by decide +kernel) rfl, by decide, by decide, rfl⟩
theorem fX8_211 : zz_F RX8 211 8 11 := ⟨zz_in (i := 765) (by decide +kernel) rfl, by decide, by decide, rfl⟩
theorem fX8_214 : zz_F RX8 214 8 14 := ⟨zz_in (i := 768) (by decide +kernel) rfl, by decide, by decide, rfl⟩
theorem kJ6_265 : Cond.constant RJ6 265 (1431655765) ∈ zz_t := zz_in (i := 495) (by decide +kernel) rfl
theorem kJ6_266 : Cond.constant RJ6 266 (858993459) ∈ zz_t := zz_in (i := 496) (by decide +kernel) rfl
theorem kJ6_267 : Cond.constant RJ6 267 (252645135) ∈ zz_t := zz_in (i := 497) (by decide +kernel) rfl
theorem kX1_25 : Cond.constant RX1 25 (-100009) ∈ zz_t := zz_in (i := 432) (by decide +kernel) rfl
theorem kX3_23 : Cond.constant RX3 23 (-100001) ∈ zz_t := zz_in (i := 550) (by decide +kernel) rfl
theorem kX3_28 : Cond.constant RX3 28 (-100003) ∈ zz_t := zz_in (i := 551) (by decide +kernel) rfl
theorem kX4_65 : Cond.constant RX4 65 (-100001) ∈ zz_t := zz_in (i := 314) (by decide +kernel) rfl
theorem kX4_72 : Cond.constant RX4 72 (-100003) ∈ zz_t := zz_in (i := 352) (by decide +kernel) rfl
theorem kX4_73 : Cond.constant RX4 73 (-100009) ∈ zz_t := zz_in (i := 353) (by decide +kernel) rfl
theorem kX4_114 : Cond.constant RX4 114 (-100002) ∈ zz_t := zz_in (i := 465) (by decide +kernel) rfl
theorem kX5_34 : Cond.constant RX5 34 (-100001) ∈ zz_t := zz_in (i := 519) (by decide +kernel) rfl
theorem kX5_39 : Cond.constant RX5 39 (-100002) ∈ zz_t := zz_in (i := 528) (by decide +kernel) rfl
theorem kX6_9 : Cond.constant RX6 9 (-100009) ∈ zz_t := zz_in (i := 93) (by decide +kernel) rfl
theorem kX7_95 : Cond.constant RX7 95 (-100002) ∈ zz_t := zz_in (i := 323) (by decide +kernel) rfl
theorem kX7_159 : Cond.constant RX7 159 (-100001) ∈ zz_t := zz_in (i := 322) (by decide +kernel) rfl
theorem kX7_247 : Cond.constant RX7 247 (-100009) ∈ zz_t := zz_in (i := 415) (by decide +kernel) rfl
theorem kX7_270 : Cond.constant RX7 270 (-100003) ∈ zz_t := zz_in (i := 324) (by decide +kernel) rfl
theorem kX8_83 : Cond.constant RX8 83 (-100009) ∈ zz_t := zz_in (i := 835) (by decide +kernel) rfl
theorem kX8_94 : Cond.constant RX8 94 (-100001) ∈ zz_t := zz_in (i := 807) (by decide +kernel) rfl
theorem kX8_104 : Cond.constant RX8 104 (-100003) ∈ zz_t := zz_in (i := 830) (by decide +kernel) rfl
theorem kX8_165 : Cond.constant RX8 165 (-100002) ∈ zz_t := zz_in (i := 895) (by decide +kernel) rfl
theorem kX0_36 : Cond.constantLong RX0 36 (100) ∈ zz_t := zz_in (i := 459) (by decide +kernel) rfl
theorem kX1_19 : Cond.constantLong RX1 19 (10000) ∈ zz_t := zz_in (i := 428) (by decide +kernel) rfl
theorem kX1_26 : Cond.constantLong RX1 26 (1000) ∈ zz_t := zz_in (i := 433) (by decide +kernel) rfl
theorem kX1_32 : Cond.constantLong RX1 32 (-3000) ∈ zz_t := zz_in (i := 435) (by decide +kernel) rfl
theorem kX1_34 : Cond.constantLong RX1 34 (3000) ∈ zz_t := zz_in (i := 436) (by decide +kernel) rfl
theorem kX4_137 : Cond.constantLong RX4 137 (2) ∈ zz_t := zz_in (i := 410) (by decide +kernel) rfl
theorem kX7_271 : Cond.constantLong RX7 271 (2) ∈ zz_t := zz_in (i := 414) (by decide +kernel) rfl
theorem kX7_278 : Cond.constantLong RX7 278 (720) ∈ zz_t := zz_in (i := 424) (by decide +kernel) rfl
theorem kX7_280 : Cond.constantLong RX7 280 (40000) ∈ zz_t := zz_in (i := 425) (by decide +kernel) rfl
theorem kX7_282 : Cond.constantLong RX7 282 (648000) ∈ zz_t := zz_in (i := 426) (by decide +kernel) rfl
theorem kX8_42 : Cond.constantLong RX8 42 (40000) ∈ zz_t := zz_in (i := 926) (by decide +kernel) rfl
theorem kX8_44 : Cond.constantLong RX8 44 (648000) ∈ zz_t := zz_in (i := 927) (by decide +kernel) rfl
theorem kX8_54 : Cond.constantLong RX8 54 (10000) ∈ zz_t := zz_in (i := 919) (by decide +kernel) rfl
theorem kX8_63 : Cond.constantLong RX8 63 (1000) ∈ zz_t := zz_in (i := 928) (by decide +kernel) rfl
theorem kX8_69 : Cond.constantLong RX8 69 (-3000) ∈ zz_t := zz_in (i := 932) (by decide +kernel) rfl
theorem kX8_71 : Cond.constantLong RX8 71 (3000) ∈ zz_t := zz_in (i := 933) (by decide +kernel) rfl
theorem kX8_81 : Cond.constantLong RX8 81 (60) ∈ zz_t := zz_in (i := 954) (by decide +kernel) rfl
theorem kX8_112 : Cond.constantLong RX8 112 (2) ∈ zz_t := zz_in (i := 859) (by decide +kernel) rfl
theorem kX8_137 : Cond.constantLong RX8 137 (100) ∈ zz_t := zz_in (i := 959) (by decide +kernel) rfl
theorem nL_7 : Cond.classLink RL 7 RX7 ∈ zz_t := zz_in (i := 64) (by decide +kernel) rfl
theorem nL_10 : Cond.classLink RL 10 RX8 ∈ zz_t := zz_in (i := 748) (by decide +kernel) rfl
theorem nX2_9 : Cond.classLink RX2 9 RX5 ∈ zz_t := zz_in (i := 206) (by decide +kernel) rfl
theorem nX4_9 : Cond.classLink RX4 9 RX6 ∈ zz_t := zz_in (i := 84) (by decide +kernel) rfl
theorem nX4_24 : Cond.classLink RX4 24 RX0 ∈ zz_t := zz_in (i := 86) (by decide +kernel) rfl
theorem nX5_9 : Cond.classLink RX5 9 RX4 ∈ zz_t := zz_in (i := 78) (by decide +kernel) rfl
theorem nX7_7 : Cond.classLink RX7 7 RX5 ∈ zz_t := zz_in (i := 72) (by decide +kernel) rfl
theorem nX7_16 : Cond.classLink RX7 16 RX2 ∈ zz_t := zz_in (i := 200) (by decide +kernel) rfl
theorem nX7_23 : Cond.classLink RX7 23 RX3 ∈ zz_t := zz_in (i := 220) (by decide +kernel) rfl
theorem nX7_30 : Cond.classLink RX7 30 RX1 ∈ zz_t := zz_in (i := 246) (by decide +kernel) rfl
theorem n_inst0 : Cond.instantiable (zz_cn 0) (zz_n 0) ∈ zz_t ∧ Cond.initialized (zz_cn 0) ∈ zz_t := ⟨zz_in (i := 106) (by decide +kernel) rfl, zz_in (i := 52) (by decide +kernel) rfl⟩
theorem n_inst1 : Cond.instantiable (zz_cn 1) (zz_n 1) ∈ zz_t ∧ Cond.initialized (zz_cn 1) ∈ zz_t := ⟨zz_in (i := 247) (by decide +kernel) rfl, zz_in (i := 55) (by decide +kernel) rfl⟩
theorem n_inst2 : Cond.instantiable (zz_cn 2) (zz_n 2) ∈ zz_t ∧ Cond.initialized (zz_cn 2) ∈ zz_t := ⟨zz_in (i := 201) (by decide +kernel) rfl, zz_in (i := 53) (by decide +kernel) rfl⟩
theorem n_inst3 : Cond.instantiable (zz_cn 3) (zz_n 3) ∈ zz_t ∧ Cond.initialized (zz_cn 3) ∈ zz_t := ⟨zz_in (i := 221) (by decide +kernel) rfl, zz_in (i := 54) (by decide +kernel) rfl⟩
theorem n_inst4 : Cond.instantiable (zz_cn 4) (zz_n 4) ∈ zz_t ∧ Cond.initialized (zz_cn 4) ∈ zz_t := ⟨zz_in (i := 79) (by decide +kernel) rfl, zz_in (i := 50) (by decide +kernel) rfl⟩
theorem n_inst5 : Cond.instantiable (zz_cn 5) (zz_n 5) ∈ zz_t ∧ Cond.initialized (zz_cn 5) ∈ zz_t := ⟨zz_in (i := 73) (by decide +kernel) rfl, zz_in (i := 49) (by decide +kernel) rfl⟩
theorem n_inst6 : Cond.instantiable (zz_cn 6) (zz_n 6) ∈ zz_t ∧ Cond.initialized (zz_cn 6) ∈ zz_t := ⟨zz_in (i := 88) (by decide +kernel) rfl, zz_in (i := 51) (by decide +kernel) rfl⟩
theorem n_inst7 : Cond.instantiable (zz_cn 7) (zz_n 7) ∈ zz_t ∧ Cond.initialized (zz_cn 7) ∈ zz_t := ⟨zz_in (i := 65) (by decide +kernel) rfl, zz_in (i := 48) (by decide +kernel) rfl⟩
theorem n_inst8 : Cond.instantiable (zz_cn 8) (zz_n 8) ∈ zz_t ∧ Cond.initialized (zz_cn 8) ∈ zz_t := ⟨zz_in (i := 749) (by decide +kernel) rfl, zz_in (i := 56) (by decide +kernel) rfl⟩
theorem n_objIn : Cond.instanceMethod objectInit ∈ zz_t := zz_in (i := 70) (by decide +kernel) rfl
theorem n_objCo : Cond.code objectInit ⟨#[0xb1]⟩ 1 none ∈ zz_t := zz_in (i := 71) (by decide +kernel) rfl
theorem n_absSt : Cond.static Lib.Math.abs.name ∈ zz_t := zz_in (i := 371) (by decide +kernel) rfl
theorem n_absCo : Cond.code Lib.Math.abs.name Lib.Math.abs.code 1 (some .int) ∈ zz_t := zz_in (i := 372) (by decide +kernel) rfl
theorem n_minSt : Cond.static Lib.Math.min.name ∈ zz_t := zz_in (i := 330) (by decide +kernel) rfl
theorem n_minCo : Cond.code Lib.Math.min.name Lib.Math.min.code 2 (some .int) ∈ zz_t := zz_in (i := 331) (by decide +kernel) rfl
theorem n_MathIni : Cond.initialized "java/lang/Math" ∈ zz_t := zz_in (i := 58) (by decide +kernel) rfl
theorem n_SysIni : Cond.initialized "java/lang/System" ∈ zz_t := zz_in (i := 57) (by decide +kernel) rfl
theorem n_acNa : Cond.native arraycopyName ∈ zz_t := zz_in (i := 306) (by decide +kernel) rfl
theorem n_acSt : Cond.static arraycopyName ∈ zz_t := zz_in (i := 305) (by decide +kernel) rfl
theorem n_arrI : Cond.arrayClass .int ∈ zz_t := zz_in (i := 105) (by decide +kernel) rfl
theorem n_arrZ : Cond.arrayClass .boolean ∈ zz_t := zz_in (i := 199) (by decide +kernel) rfl
theorem n_arrC : Cond.arrayClass .char ∈ zz_t := zz_in (i := 245) (by decide +kernel) rfl
