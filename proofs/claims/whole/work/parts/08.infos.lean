theorem kl_0 : Int64.ofNat ((0 : Fin 2) : Nat) = (nI 0).toInt64 := by decide
theorem kl_1 : Int64.ofNat ((1 : Fin 2) : Nat) = (nI 1).toInt64 := by decide
theorem ki_m1 : Int32.ofInt (-1) = (-1) := by decide
theorem ki_0 : Int32.ofInt 0 = 0 := by decide
theorem ki_1 : Int32.ofInt 1 = 1 := by decide
theorem ki_2 : Int32.ofInt 2 = 2 := by decide
theorem ki_3 : Int32.ofInt 3 = 3 := by decide
theorem ki_4 : Int32.ofInt 4 = 4 := by decide
theorem ki_5 : Int32.ofInt 5 = 5 := by decide
theorem kb_6 : (Int8.ofInt 6).toInt32 = 6 := by decide
theorem kb_7 : (Int8.ofInt 7).toInt32 = 7 := by decide
theorem kb_8 : (Int8.ofInt 8).toInt32 = 8 := by decide
theorem kb_9 : (Int8.ofInt 9).toInt32 = 9 := by decide
theorem kb_10 : (Int8.ofInt 10).toInt32 = 10 := by decide
theorem kb_11 : (Int8.ofInt 11).toInt32 = 11 := by decide
theorem kb_12 : (Int8.ofInt 12).toInt32 = 12 := by decide
theorem kb_13 : (Int8.ofInt 13).toInt32 = 13 := by decide
theorem kb_14 : (Int8.ofInt 14).toInt32 = 14 := by decide
theorem kb_15 : (Int8.ofInt 15).toInt32 = 15 := by decide
theorem kb_16 : (Int8.ofInt 16).toInt32 = 16 := by decide
theorem kb_17 : (Int8.ofInt 17).toInt32 = 17 := by decide
theorem kb_20 : (Int8.ofInt 20).toInt32 = 20 := by decide
theorem kb_32 : (Int8.ofInt 32).toInt32 = 32 := by decide
theorem kb_40 : (Int8.ofInt 40).toInt32 = 40 := by decide
theorem kb_48 : (Int8.ofInt 48).toInt32 = 48 := by decide
theorem kb_50 : (Int8.ofInt 50).toInt32 = 50 := by decide
theorem kb_57 : (Int8.ofInt 57).toInt32 = 57 := by decide
theorem kb_59 : (Int8.ofInt 59).toInt32 = 59 := by decide
theorem kb_60 : (Int8.ofInt 60).toInt32 = 60 := by decide
theorem kb_63 : (Int8.ofInt 63).toInt32 = 63 := by decide
theorem kb_64 : (Int8.ofInt 64).toInt32 = 64 := by decide
theorem kb_74 : (Int8.ofInt 74).toInt32 = 74 := by decide
theorem kb_97 : (Int8.ofInt 97).toInt32 = 97 := by decide
theorem kb_98 : (Int8.ofInt 98).toInt32 = 98 := by decide
theorem kb_99 : (Int8.ofInt 99).toInt32 = 99 := by decide
theorem kb_100 : (Int8.ofInt 100).toInt32 = 100 := by decide
theorem kb_101 : (Int8.ofInt 101).toInt32 = 101 := by decide
theorem kb_103 : (Int8.ofInt 103).toInt32 = 103 := by decide
theorem kb_104 : (Int8.ofInt 104).toInt32 = 104 := by decide
theorem kb_105 : (Int8.ofInt 105).toInt32 = 105 := by decide
theorem kb_107 : (Int8.ofInt 107).toInt32 = 107 := by decide
theorem kb_108 : (Int8.ofInt 108).toInt32 = 108 := by decide
theorem kb_109 : (Int8.ofInt 109).toInt32 = 109 := by decide
theorem kb_110 : (Int8.ofInt 110).toInt32 = 110 := by decide
theorem kb_111 : (Int8.ofInt 111).toInt32 = 111 := by decide
theorem kb_112 : (Int8.ofInt 112).toInt32 = 112 := by decide
theorem kb_114 : (Int8.ofInt 114).toInt32 = 114 := by decide
theorem kb_115 : (Int8.ofInt 115).toInt32 = 115 := by decide
theorem kb_116 : (Int8.ofInt 116).toInt32 = 116 := by decide
theorem kb_119 : (Int8.ofInt 119).toInt32 = 119 := by decide
theorem kb_120 : (Int8.ofInt 120).toInt32 = 120 := by decide
theorem kb_121 : (Int8.ofInt 121).toInt32 = 121 := by decide
theorem kb_122 : (Int8.ofInt 122).toInt32 = 122 := by decide
theorem ks_160 : (Int16.ofInt 160).toInt32 = 160 := by decide
theorem ks_200 : (Int16.ofInt 200).toInt32 = 200 := by decide
theorem ks_255 : (Int16.ofInt 255).toInt32 = 255 := by decide
theorem ks_999 : (Int16.ofInt 999).toInt32 = 999 := by decide
theorem ks_1000 : (Int16.ofInt 1000).toInt32 = 1000 := by decide
theorem ks_12345 : (Int16.ofInt 12345).toInt32 = 12345 := by decide
theorem fX0_9 : vF RX0 9 0 0 := ⟨RX0, TX0, 14, rfl, by decide, inlX0, wm_34⟩
theorem fX0_15 : vF RX0 15 0 1 := ⟨RX0, TX0, 14, rfl, by decide, inlX0, wm_35⟩
theorem fX0_36 : vF RX0 36 0 8 := ⟨RX0, TX0, 14, rfl, by decide, inlX0, wm_42⟩
theorem gX0_39 : vFP RX0 39 0 9 .int := ⟨RX0, TX0, 14, tyX0, rfl, by decide, inlX0, wm_43, tyX0_ok, nmX0, rfl, by decide +kernel⟩
theorem gX0_43 : vFP RX0 43 0 10 .int := ⟨RX0, TX0, 14, tyX0, rfl, by decide, inlX0, wm_44, tyX0_ok, nmX0, rfl, by decide +kernel⟩
theorem gX0_46 : vFP RX0 46 0 11 .int := ⟨RX0, TX0, 14, tyX0, rfl, by decide, inlX0, wm_45, tyX0_ok, nmX0, rfl, by decide +kernel⟩
theorem gX0_49 : vFP RX0 49 0 12 .int := ⟨RX0, TX0, 14, tyX0, rfl, by decide, inlX0, wm_46, tyX0_ok, nmX0, rfl, by decide +kernel⟩
theorem gX0_52 : vFP RX0 52 0 13 .int := ⟨RX0, TX0, 14, tyX0, rfl, by decide, inlX0, wm_47, tyX0_ok, nmX0, rfl, by decide +kernel⟩
theorem fX0_18 : vF RX0 18 0 2 := ⟨RX0, TX0, 14, rfl, by decide, inlX0, wm_36⟩
theorem fX0_21 : vF RX0 21 0 3 := ⟨RX0, TX0, 14, rfl, by decide, inlX0, wm_37⟩
theorem fX0_24 : vF RX0 24 0 4 := ⟨RX0, TX0, 14, rfl, by decide, inlX0, wm_38⟩
theorem fX0_27 : vF RX0 27 0 5 := ⟨RX0, TX0, 14, rfl, by decide, inlX0, wm_39⟩
theorem fX0_30 : vF RX0 30 0 6 := ⟨RX0, TX0, 14, rfl, by decide, inlX0, wm_40⟩
theorem fX0_33 : vF RX0 33 0 7 := ⟨RX0, TX0, 14, rfl, by decide, inlX0, wm_41⟩
theorem fX0_39 : vF RX0 39 0 9 := ⟨RX0, TX0, 14, rfl, by decide, inlX0, wm_43⟩
theorem fX0_43 : vF RX0 43 0 10 := ⟨RX0, TX0, 14, rfl, by decide, inlX0, wm_44⟩
theorem fX0_46 : vF RX0 46 0 11 := ⟨RX0, TX0, 14, rfl, by decide, inlX0, wm_45⟩
theorem fX0_49 : vF RX0 49 0 12 := ⟨RX0, TX0, 14, rfl, by decide, inlX0, wm_46⟩
theorem fX0_52 : vF RX0 52 0 13 := ⟨RX0, TX0, 14, rfl, by decide, inlX0, wm_47⟩
theorem mX0_61 : vMV RX0 61 RX0 yX0_isFull cX0_isFull 1 (some .boolean) 0 := ⟨wm_161, wm_154, wm_155, wm_14, wm_156, by decide +kernel⟩
theorem mX0_65 : vMV RX0 65 RX0 yX0_clearOyster cX0_clearOyster 2 none 1 := ⟨wm_162, wm_163, wm_164, wm_14, wm_165, by decide +kernel⟩
theorem mX0_78 : vMV RX0 78 RX0 yX0_isTold cX0_isTold 2 (some .boolean) 1 := ⟨wm_211, wm_212, wm_213, wm_14, wm_214, by decide +kernel⟩
theorem mX0_82 : vMV RX0 82 RX0 yX0_needs cX0_needs 3 (some .int) 1 := ⟨wm_300, wm_197, wm_198, wm_14, wm_199, by decide +kernel⟩
theorem mX0_86 : vMV RX0 86 RX0 yX0_passYear cX0_passYear 2 none 0 := ⟨wm_286, wm_287, wm_288, wm_14, wm_289, by decide +kernel⟩
theorem mX0_89 : vMV RX0 89 RX0 yX0_growLayers cX0_growLayers 4 none 1 := ⟨wm_291, wm_292, wm_293, wm_14, wm_294, by decide +kernel⟩
theorem mX0_92 : vMV RX0 92 RX0 yX0_isHidden cX0_isHidden 2 (some .boolean) 1 := ⟨wm_296, wm_297, wm_298, wm_14, wm_299, by decide +kernel⟩
theorem mX0_95 : vMV RX0 95 RX0 yX0_opens cX0_opens 3 (some .boolean) 1 := ⟨wm_301, wm_204, wm_205, wm_14, wm_206, by decide +kernel⟩
theorem mX0_99 : vMV RX0 99 RX0 yX0_takes cX0_takes 5 (some .int) 1 := ⟨wm_295, wm_189, wm_190, wm_14, wm_191, by decide +kernel⟩
theorem mX0_103 : vMV RX0 103 RX0 yX0_worthOf cX0_worthOf 4 (some .int) 1 := ⟨wm_350, wm_208, wm_209, wm_14, wm_210, by decide +kernel⟩
theorem gX1_15 : vFP RX1 15 1 1 .int := ⟨RX1, TX1, 3, tyX1, rfl, by decide, inlX1, wm_65, tyX1_ok, nmX1, rfl, by decide +kernel⟩
theorem gX1_19 : vFP RX1 19 1 2 .int := ⟨RX1, TX1, 3, tyX1, rfl, by decide, inlX1, wm_66, tyX1_ok, nmX1, rfl, by decide +kernel⟩
theorem fX1_15 : vF RX1 15 1 1 := ⟨RX1, TX1, 3, rfl, by decide, inlX1, wm_65⟩
theorem fX1_9 : vF RX1 9 1 0 := ⟨RX1, TX1, 3, rfl, by decide, inlX1, wm_64⟩
theorem fX1_19 : vF RX1 19 1 2 := ⟨RX1, TX1, 3, rfl, by decide, inlX1, wm_66⟩
theorem gX2_24 : vFP RX2 24 2 4 .int := ⟨RX2, TX2, 8, tyX2, rfl, by decide, inlX2, wm_56, tyX2_ok, nmX2, rfl, by decide +kernel⟩
theorem gX2_28 : vFP RX2 28 2 5 .int := ⟨RX2, TX2, 8, tyX2, rfl, by decide, inlX2, wm_57, tyX2_ok, nmX2, rfl, by decide +kernel⟩
theorem gX2_31 : vFP RX2 31 2 6 .int := ⟨RX2, TX2, 8, tyX2, rfl, by decide, inlX2, wm_58, tyX2_ok, nmX2, rfl, by decide +kernel⟩
theorem gX2_34 : vFP RX2 34 2 7 .int := ⟨RX2, TX2, 8, tyX2, rfl, by decide, inlX2, wm_59, tyX2_ok, nmX2, rfl, by decide +kernel⟩
theorem fX2_24 : vF RX2 24 2 4 := ⟨RX2, TX2, 8, rfl, by decide, inlX2, wm_56⟩
theorem fX2_9 : vF RX2 9 2 0 := ⟨RX2, TX2, 8, rfl, by decide, inlX2, wm_52⟩
theorem mX2_37 : vMV RX2 37 RX2 yX2_splitIntoTokens cX2_splitIntoTokens 2 none 0 := ⟨wm_685, wm_686, wm_687, wm_21, wm_688, by decide +kernel⟩
theorem mX2_40 : vMV RX2 40 RX2 yX2_readItem cX2_readItem 3 (some .boolean) 1 := ⟨wm_772, wm_773, wm_774, wm_21, wm_775, by decide +kernel⟩
theorem fX2_18 : vF RX2 18 2 2 := ⟨RX2, TX2, 8, rfl, by decide, inlX2, wm_54⟩
theorem fX2_31 : vF RX2 31 2 6 := ⟨RX2, TX2, 8, rfl, by decide, inlX2, wm_58⟩
theorem fX2_15 : vF RX2 15 2 1 := ⟨RX2, TX2, 8, rfl, by decide, inlX2, wm_53⟩
theorem mX2_44 : vMV RX2 44 RX2 yX2_passIf cX2_passIf 2 (some .boolean) 1 := ⟨wm_776, wm_777, wm_778, wm_21, wm_779, by decide +kernel⟩
theorem mX2_48 : vMV RX2 48 RX2 yX2_readBed cX2_readBed 3 (some .boolean) 1 := ⟨wm_780, wm_781, wm_782, wm_21, wm_783, by decide +kernel⟩
theorem mX2_51 : vMV RX2 51 RX2 yX2_readComes cX2_readComes 2 (some .boolean) 1 := ⟨wm_794, wm_795, wm_796, wm_21, wm_797, by decide +kernel⟩
theorem mX2_57 : vMV RX2 57 RX0 yX0_isFull cX0_isFull 1 (some .boolean) 0 := ⟨wm_799, wm_154, wm_155, wm_14, wm_156, by decide +kernel⟩
theorem mX2_63 : vMV RX2 63 RX2 yX2_readOyster cX2_readOyster 4 (some .boolean) 2 := ⟨wm_800, wm_801, wm_802, wm_21, wm_803, by decide +kernel⟩
theorem mX2_67 : vMV RX2 67 RX2 yX2_readAfter cX2_readAfter 4 (some .boolean) 3 := ⟨wm_790, wm_791, wm_792, wm_21, wm_793, by decide +kernel⟩
theorem fX2_34 : vF RX2 34 2 7 := ⟨RX2, TX2, 8, rfl, by decide, inlX2, wm_59⟩
theorem mX2_71 : vMV RX2 71 RX0 yX0_addOyster cX0_addOyster 4 (some .int) 2 := ⟨wm_806, wm_158, wm_159, wm_14, wm_160, by decide +kernel⟩
theorem fX2_75 : vF RX2 75 0 4 := ⟨RX0, TX0, 14, rfl, by decide, inlX0, wm_804⟩
theorem fX2_78 : vF RX2 78 0 5 := ⟨RX0, TX0, 14, rfl, by decide, inlX0, wm_805⟩
theorem mX2_81 : vMV RX2 81 RX2 yX2_readNumber cX2_readNumber 2 (some .boolean) 1 := ⟨wm_786, wm_787, wm_788, wm_21, wm_789, by decide +kernel⟩
theorem fX2_84 : vF RX2 84 0 0 := ⟨RX0, TX0, 14, rfl, by decide, inlX0, wm_784⟩
theorem fX2_87 : vF RX2 87 0 1 := ⟨RX0, TX0, 14, rfl, by decide, inlX0, wm_785⟩
theorem gX2_90 : vFP RX2 90 0 10 .int := ⟨RX0, TX0, 14, tyX0, rfl, by decide, inlX0, wm_798, tyX0_ok, nmX0, rfl, by decide +kernel⟩
theorem fX2_21 : vF RX2 21 2 3 := ⟨RX2, TX2, 8, rfl, by decide, inlX2, wm_55⟩
theorem fX2_28 : vF RX2 28 2 5 := ⟨RX2, TX2, 8, rfl, by decide, inlX2, wm_57⟩
theorem mX2_93 : vMV RX2 93 RX2 yX2_isTogether cX2_isTogether 4 (some .boolean) 1 := ⟨wm_689, wm_690, wm_691, wm_21, wm_692, by decide +kernel⟩
theorem mX2_96 : vMV RX2 96 RX2 yX2_endOfToken cX2_endOfToken 3 (some .int) 1 := ⟨wm_699, wm_700, wm_701, wm_21, wm_702, by decide +kernel⟩
theorem mX2_100 : vMV RX2 100 RX2 yX2_addToken cX2_addToken 3 none 2 := ⟨wm_703, wm_704, wm_705, wm_21, wm_706, by decide +kernel⟩
theorem mX2_104 : vMV RX2 104 RX2 yX2_sortOf cX2_sortOf 4 (some .int) 2 := ⟨wm_707, wm_708, wm_709, wm_21, wm_710, by decide +kernel⟩
theorem mX2_107 : vMV RX2 107 RX2 yX2_numberOf cX2_numberOf 5 (some .int) 2 := ⟨wm_767, wm_768, wm_769, wm_21, wm_770, by decide +kernel⟩
theorem mX2_110 : vMS RX2 110 yX2_isLetter cX2_isLetter 1 (some .boolean) 1 := ⟨wm_693, wm_694, wm_21, wm_695, by decide +kernel⟩
theorem mX2_113 : vMS RX2 113 yX2_isDigit cX2_isDigit 1 (some .boolean) 1 := ⟨wm_696, wm_697, wm_21, wm_698, by decide +kernel⟩
theorem mX2_116 : vMS RX2 116 yX2_textOf cX2_textOf 1 (some (.object "java/lang/String")) 1 := ⟨wm_711, wm_712, wm_21, wm_713, by decide +kernel⟩
theorem mX2_120 : vMV RX2 120 RX2 yX2_isText cX2_isText 5 (some .boolean) 3 := ⟨wm_714, wm_715, wm_716, wm_21, wm_717, by decide +kernel⟩
theorem mX2_129 : vMV RX2 129 RJ0 yJ0_length_8abf5 cJ0_length_8abf5 1 (some .int) 0 := ⟨wm_718, wm_719, wm_720, wm_721, wm_722, by decide +kernel⟩
theorem mX2_135 : vMV RX2 135 RJ0 yJ0_charAt_5068e cJ0_charAt_5068e 2 (some .char) 1 := ⟨wm_730, wm_731, wm_732, wm_721, wm_733, by decide +kernel⟩
theorem gX3_22 : vFP RX3 22 3 3 .boolean := ⟨RX3, TX3, 8, tyX3, rfl, by decide, inlX3, wm_18, tyX3_ok, nmX3, rfl, by decide +kernel⟩
theorem fX3_35 : vF RX3 35 3 5 := ⟨RX3, TX3, 8, rfl, by decide, inlX3, wm_24⟩
theorem mX3_47 : vMS RX3 47 yX3_isBed cX3_isBed 1 (some .boolean) 1 := ⟨wm_87, wm_88, wm_2, wm_89, by decide +kernel⟩
theorem mX3_51 : vMS RX3 51 yX3_isWithin cX3_isWithin 2 (some .boolean) 2 := ⟨wm_90, wm_91, wm_2, wm_92, by decide +kernel⟩
theorem mX3_55 : vMV RX3 55 RX3 yX3_finding cX3_finding 2 (some .int) 1 := ⟨wm_93, wm_94, wm_95, wm_2, wm_96, by decide +kernel⟩
theorem fX3_10 : vF RX3 10 3 0 := ⟨RX3, TX3, 8, rfl, by decide, inlX3, wm_15⟩
theorem fX3_59 : vF RX3 59 0 0 := ⟨RX0, TX0, 14, rfl, by decide, inlX0, wm_85⟩
theorem fX3_62 : vF RX3 62 0 1 := ⟨RX0, TX0, 14, rfl, by decide, inlX0, wm_86⟩
theorem mX3_65 : vMV RX3 65 RX0 yX0_setIn cX0_setIn 4 (some .int) 1 := ⟨wm_123, wm_124, wm_125, wm_14, wm_126, by decide +kernel⟩
theorem fX3_68 : vF RX3 68 0 10 := ⟨RX0, TX0, 14, rfl, by decide, inlX0, wm_140⟩
theorem gX3_68 : vFP RX3 68 0 10 .int := ⟨RX0, TX0, 14, tyX0, rfl, by decide, inlX0, wm_140, tyX0_ok, nmX0, rfl, by decide +kernel⟩
theorem mX3_72 : vMS RX3 72 yX3_isKind cX3_isKind 1 (some .boolean) 1 := ⟨wm_150, wm_151, wm_2, wm_152, by decide +kernel⟩
theorem mX3_75 : vMV RX3 75 RX0 yX0_isFull cX0_isFull 1 (some .boolean) 0 := ⟨wm_153, wm_154, wm_155, wm_14, wm_156, by decide +kernel⟩
theorem mX3_79 : vMV RX3 79 RX0 yX0_addOyster cX0_addOyster 4 (some .int) 2 := ⟨wm_157, wm_158, wm_159, wm_14, wm_160, by decide +kernel⟩
theorem mX3_83 : vMV RX3 83 RX3 yX3_isOyster cX3_isOyster 2 (some .boolean) 1 := ⟨wm_183, wm_184, wm_185, wm_2, wm_186, by decide +kernel⟩
theorem mX3_86 : vMV RX3 86 RX0 yX0_takes cX0_takes 5 (some .int) 1 := ⟨wm_188, wm_189, wm_190, wm_14, wm_191, by decide +kernel⟩
theorem mX3_89 : vMV RX3 89 RX0 yX0_needs cX0_needs 3 (some .int) 1 := ⟨wm_196, wm_197, wm_198, wm_14, wm_199, by decide +kernel⟩
theorem mX3_92 : vMV RX3 92 RX0 yX0_opens cX0_opens 3 (some .boolean) 1 := ⟨wm_203, wm_204, wm_205, wm_14, wm_206, by decide +kernel⟩
theorem mX3_95 : vMV RX3 95 RX0 yX0_worthOf cX0_worthOf 4 (some .int) 1 := ⟨wm_207, wm_208, wm_209, wm_14, wm_210, by decide +kernel⟩
theorem mX3_98 : vMV RX3 98 RX0 yX0_rowOf cX0_rowOf 2 (some (.array .int)) 1 := ⟨wm_215, wm_216, wm_217, wm_14, wm_218, by decide +kernel⟩
theorem mX3_105 : vMV RX3 105 RX0 yX0_clearOyster cX0_clearOyster 2 none 1 := ⟨wm_270, wm_163, wm_164, wm_14, wm_165, by decide +kernel⟩
theorem fX3_109 : vF RX3 109 0 11 := ⟨RX0, TX0, 14, rfl, by decide, inlX0, wm_279⟩
theorem mX3_113 : vMV RX3 113 RX0 yX0_passYears cX0_passYears 3 none 1 := ⟨wm_282, wm_283, wm_284, wm_14, wm_285, by decide +kernel⟩
theorem fX3_116 : vF RX3 116 0 5 := ⟨RX0, TX0, 14, rfl, by decide, inlX0, wm_281⟩
theorem mX3_119 : vMV RX3 119 RX0 yX0_sumOf cX0_sumOf 4 (some .int) 1 := ⟨wm_302, wm_303, wm_304, wm_14, wm_305, by decide +kernel⟩
theorem mX3_123 : vMV RX3 123 RX0 yX0_toldSet cX0_toldSet 3 (some .int) 0 := ⟨wm_334, wm_335, wm_336, wm_14, wm_337, by decide +kernel⟩
theorem mX3_127 : vMV RX3 127 RX0 yX0_hiddenSet cX0_hiddenSet 3 (some .int) 0 := ⟨wm_338, wm_339, wm_340, wm_14, wm_341, by decide +kernel⟩
theorem mX3_130 : vMV RX3 130 RX0 yX0_nacreTogether cX0_nacreTogether 3 (some .int) 0 := ⟨wm_342, wm_343, wm_344, wm_14, wm_345, by decide +kernel⟩
theorem mX3_133 : vMV RX3 133 RX0 yX0_worthTogether cX0_worthTogether 3 (some .int) 0 := ⟨wm_346, wm_347, wm_348, wm_14, wm_349, by decide +kernel⟩
theorem fX3_136 : vF RX3 136 0 7 := ⟨RX0, TX0, 14, rfl, by decide, inlX0, wm_333⟩
theorem fX3_16 : vF RX3 16 3 1 := ⟨RX3, TX3, 8, rfl, by decide, inlX3, wm_16⟩
theorem mX3_139 : vMV RX3 139 RX0 yX0_copyFrom cX0_copyFrom 2 none 1 := ⟨wm_367, wm_368, wm_369, wm_14, wm_370, by decide +kernel⟩
theorem mX3_143 : vMV RX3 143 RX0 yX0_isHidden cX0_isHidden 2 (some .boolean) 1 := ⟨wm_399, wm_297, wm_298, wm_14, wm_299, by decide +kernel⟩
theorem mX3_146 : vMV RX3 146 RX0 yX0_passYear cX0_passYear 2 none 0 := ⟨wm_400, wm_287, wm_288, wm_14, wm_289, by decide +kernel⟩
theorem mX3_149 : vMV RX3 149 RX0 yX0_isTold cX0_isTold 2 (some .boolean) 1 := ⟨wm_410, wm_212, wm_213, wm_14, wm_214, by decide +kernel⟩
theorem fX3_152 : vF RX3 152 0 3 := ⟨RX0, TX0, 14, rfl, by decide, inlX0, wm_427⟩
theorem fX3_155 : vF RX3 155 0 2 := ⟨RX0, TX0, 14, rfl, by decide, inlX0, wm_445⟩
theorem fX3_158 : vF RX3 158 0 4 := ⟨RX0, TX0, 14, rfl, by decide, inlX0, wm_454⟩
theorem fX3_161 : vF RX3 161 0 9 := ⟨RX0, TX0, 14, rfl, by decide, inlX0, wm_187⟩
theorem mX3_164 : vMS RX3 164 yJ6_bitCount_0f7a4 cJ6_bitCount_0f7a4 1 (some .int) 1 := ⟨wm_487, wm_488, wm_489, wm_490, by decide +kernel⟩
theorem mX3_169 : vMV RX3 169 RX3 yX3_growsWithout cX3_growsWithout 5 (some .boolean) 4 := ⟨wm_494, wm_495, wm_496, wm_2, wm_497, by decide +kernel⟩
theorem gX3_173 : vFP RX3 173 0 13 .int := ⟨RX0, TX0, 14, tyX0, rfl, by decide, inlX0, wm_498, tyX0_ok, nmX0, rfl, by decide +kernel⟩
theorem mX3_181 : vMV RX3 181 RX3 yX3_sortLayers cX3_sortLayers 4 none 0 := ⟨wm_523, wm_524, wm_525, wm_2, wm_526, by decide +kernel⟩
theorem fX3_44 : vF RX3 44 3 7 := ⟨RX3, TX3, 8, rfl, by decide, inlX3, wm_29⟩
theorem mX3_187 : vMV RX3 187 RX3 yX3_faultOfTelling cX3_faultOfTelling 3 (some .int) 2 := ⟨wm_555, wm_556, wm_557, wm_2, wm_558, by decide +kernel⟩
theorem mX3_190 : vMV RX3 190 RX3 yX3_fitsWeight cX3_fitsWeight 4 (some .boolean) 3 := ⟨wm_566, wm_567, wm_568, wm_2, wm_569, by decide +kernel⟩
theorem mX3_194 : vMV RX3 194 RX3 yX3_trialGrowsAs cX3_trialGrowsAs 5 (some .boolean) 2 := ⟨wm_570, wm_571, wm_572, wm_2, wm_573, by decide +kernel⟩
theorem mX3_198 : vMS RX3 198 yX3_isSheet cX3_isSheet 1 (some .boolean) 1 := ⟨wm_559, wm_560, wm_2, wm_561, by decide +kernel⟩
theorem mX3_201 : vMV RX3 201 RX1 yX1_isMissing cX1_isMissing 1 (some .boolean) 0 := ⟨wm_562, wm_563, wm_564, wm_26, wm_565, by decide +kernel⟩
theorem fX3_204 : vF RX3 204 1 2 := ⟨RX1, TX1, 3, rfl, by decide, inlX1, wm_574⟩
theorem fX3_207 : vF RX3 207 1 0 := ⟨RX1, TX1, 3, rfl, by decide, inlX1, wm_575⟩
theorem mX3_210 : vMV RX3 210 RX0 yX0_draw cX0_draw 1 (some .int) 0 := ⟨wm_622, wm_623, wm_624, wm_14, wm_625, by decide +kernel⟩
theorem fX3_213 : vF RX3 213 0 12 := ⟨RX0, TX0, 14, rfl, by decide, inlX0, wm_649⟩
theorem gX3_213 : vFP RX3 213 0 12 .int := ⟨RX0, TX0, 14, tyX0, rfl, by decide, inlX0, wm_649, tyX0_ok, nmX0, rfl, by decide +kernel⟩
theorem fX3_29 : vF RX3 29 3 4 := ⟨RX3, TX3, 8, rfl, by decide, inlX3, wm_22⟩
theorem fX3_216 : vF RX3 216 2 4 := ⟨RX2, TX2, 8, rfl, by decide, inlX2, wm_658⟩
theorem mX3_217 : vMV RX3 217 RX2 yX2_addByte cX2_addByte 2 none 1 := ⟨wm_659, wm_660, wm_661, wm_21, wm_662, by decide +kernel⟩
theorem gX3_216 : vFP RX3 216 2 4 .int := ⟨RX2, TX2, 8, tyX2, rfl, by decide, inlX2, wm_658, tyX2_ok, nmX2, rfl, by decide +kernel⟩
theorem mX3_220 : vMV RX3 220 RX2 yX2_readInto cX2_readInto 4 (some .int) 1 := ⟨wm_681, wm_682, wm_683, wm_21, wm_684, by decide +kernel⟩
theorem fX3_224 : vF RX3 224 0 8 := ⟨RX0, TX0, 14, rfl, by decide, inlX0, wm_882⟩
theorem mX3_227 : vMS RX3 227 yX3_isOfKind cX3_isOfKind 4 (some .boolean) 2 := ⟨wm_891, wm_892, wm_2, wm_893, by decide +kernel⟩
theorem mX3_230 : vMV RX3 230 RX1 yX1_become cX1_become 4 none 2 := ⟨wm_907, wm_908, wm_909, wm_26, wm_910, by decide +kernel⟩
theorem mX3_234 : vMV RX3 234 RX1 yX1_put cX1_put 3 none 2 := ⟨wm_920, wm_921, wm_922, wm_26, wm_923, by decide +kernel⟩
theorem fX3_237 : vF RX3 237 1 1 := ⟨RX1, TX1, 3, rfl, by decide, inlX1, wm_932⟩
theorem mX3_240 : vMV RX3 240 RX1 yX1_hasNumbers cX1_hasNumbers 3 (some .boolean) 2 := ⟨wm_934, wm_935, wm_936, wm_26, wm_937, by decide +kernel⟩
theorem fX3_19 : vF RX3 19 3 2 := ⟨RX3, TX3, 8, rfl, by decide, inlX3, wm_17⟩
theorem fX3_22 : vF RX3 22 3 3 := ⟨RX3, TX3, 8, rfl, by decide, inlX3, wm_18⟩
theorem mX3_252 : vMV RX3 252 RX0 yX0_spotsHolding cX0_spotsHolding 3 (some .int) 0 := ⟨wm_988, wm_989, wm_990, wm_14, wm_991, by decide +kernel⟩
theorem fX3_40 : vF RX3 40 3 6 := ⟨RX3, TX3, 8, rfl, by decide, inlX3, wm_28⟩
theorem fX4_7 : vF RX4 7 4 0 := ⟨RX4, TX4, 19, rfl, by decide, inlX4, wm_71⟩
theorem fX4_22 : vF RX4 22 4 5 := ⟨RX4, TX4, 19, rfl, by decide, inlX4, wm_75⟩
theorem mX4_42 : vMV RX4 42 RX4 yX4_finds cX4_finds 2 (some .int) 1 := ⟨wm_111, wm_112, wm_113, wm_5, wm_114, by decide +kernel⟩
theorem mX4_46 : vMS RX4 46 yX4_isBed cX4_isBed 1 (some .boolean) 1 := ⟨wm_105, wm_106, wm_5, wm_107, by decide +kernel⟩
theorem mX4_50 : vMS RX4 50 yX4_isIn cX4_isIn 6 (some .boolean) 3 := ⟨wm_108, wm_109, wm_5, wm_110, by decide +kernel⟩
theorem mX4_58 : vMV RX4 58 RX4 yX4_becomes cX4_becomes 4 (some .int) 2 := ⟨wm_115, wm_116, wm_117, wm_5, wm_118, by decide +kernel⟩
theorem mX4_64 : vMV RX4 64 RX4 yX4_its cX4_its 3 (some .int) 2 := ⟨wm_132, wm_133, wm_134, wm_5, wm_135, by decide +kernel⟩
theorem mX4_69 : vMS RX4 69 yX4_at cX4_at 2 (some .int) 2 := ⟨wm_176, wm_177, wm_5, wm_178, by decide +kernel⟩
theorem mX4_75 : vMV RX4 75 RX4 yX4_comesNew cX4_comesNew 4 none 2 := ⟨wm_172, wm_173, wm_174, wm_5, wm_175, by decide +kernel⟩
theorem mX4_79 : vMS RX4 79 yX4_least cX4_least 2 (some .int) 2 := ⟨wm_231, wm_232, wm_5, wm_233, by decide +kernel⟩
theorem mX4_82 : vMS RX4 82 yX4_greatest cX4_greatest 2 (some .int) 2 := ⟨wm_238, wm_239, wm_5, wm_240, by decide +kernel⟩
theorem mX4_85 : vMV RX4 85 RX4 yX4_isTold cX4_isTold 2 (some .boolean) 1 := ⟨wm_249, wm_250, wm_251, wm_5, wm_252, by decide +kernel⟩
theorem mX4_88 : vMV RX4 88 RX4 yX4_isOyster cX4_isOyster 2 (some .boolean) 1 := ⟨wm_223, wm_224, wm_225, wm_5, wm_226, by decide +kernel⟩
theorem mX4_91 : vMV RX4 91 RX4 yX4_takes cX4_takes 3 (some .int) 1 := ⟨wm_227, wm_228, wm_229, wm_5, wm_230, by decide +kernel⟩
theorem mX4_94 : vMV RX4 94 RX4 yX4_needs cX4_needs 3 (some .int) 1 := ⟨wm_234, wm_235, wm_236, wm_5, wm_237, by decide +kernel⟩
theorem mX4_97 : vMV RX4 97 RX4 yX4_opens cX4_opens 3 (some .boolean) 1 := ⟨wm_241, wm_242, wm_243, wm_5, wm_244, by decide +kernel⟩
theorem mX4_100 : vMV RX4 100 RX4 yX4_worthOf cX4_worthOf 4 (some .int) 1 := ⟨wm_245, wm_246, wm_247, wm_5, wm_248, by decide +kernel⟩
theorem mX4_105 : vMS RX4 105 yX4_greatestOf cX4_greatestOf 1 (some .int) 1 := ⟨wm_263, wm_264, wm_5, wm_265, by decide +kernel⟩
theorem mX4_108 : vMV RX4 108 RX4 yX4_isHidden cX4_isHidden 2 (some .boolean) 1 := ⟨wm_321, wm_322, wm_323, wm_5, wm_324, by decide +kernel⟩
theorem mX4_111 : vMV RX4 111 RX4 yX4_yearBut cX4_yearBut 5 none 1 := ⟨wm_317, wm_318, wm_319, wm_5, wm_320, by decide +kernel⟩
theorem mX4_119 : vMV RX4 119 RX4 yX4_goes cX4_goes 3 none 1 := ⟨wm_313, wm_314, wm_315, wm_5, wm_316, by decide +kernel⟩
theorem mX4_122 : vMV RX4 122 RX4 yX4_sumOf cX4_sumOf 4 (some .int) 1 := ⟨wm_325, wm_326, wm_327, wm_5, wm_328, by decide +kernel⟩
theorem mX4_125 : vMV RX4 125 RX4 yX4_toldOnes cX4_toldOnes 3 (some .int) 0 := ⟨wm_355, wm_356, wm_357, wm_5, wm_358, by decide +kernel⟩
theorem mX4_129 : vMV RX4 129 RX4 yX4_hiddenOnes cX4_hiddenOnes 3 (some .int) 0 := ⟨wm_359, wm_360, wm_361, wm_5, wm_362, by decide +kernel⟩
theorem fX4_19 : vF RX4 19 4 3 := ⟨RX4, TX4, 19, rfl, by decide, inlX4, wm_74⟩
theorem mX4_132 : vMS RX4 132 yX4_copyRow cX4_copyRow 3 none 2 := ⟨wm_384, wm_385, wm_5, wm_386, by decide +kernel⟩
theorem mX4_138 : vMV RX4 138 RX4 yX4_then cX4_then 5 (some .int) 3 := ⟨wm_380, wm_381, wm_382, wm_5, wm_383, by decide +kernel⟩
theorem mX4_144 : vMV RX4 144 RX4 yX4_isAsked cX4_isAsked 3 (some .boolean) 2 := ⟨wm_432, wm_433, wm_434, wm_5, wm_435, by decide +kernel⟩
theorem mX4_148 : vMV RX4 148 RX4 yX4_bestBy cX4_bestBy 10 (some .int) 4 := ⟨wm_437, wm_438, wm_439, wm_5, wm_440, by decide +kernel⟩
theorem mX4_152 : vMV RX4 152 RX4 yX4_isHiddenThen cX4_isHiddenThen 4 (some .boolean) 2 := ⟨wm_459, wm_460, wm_461, wm_5, wm_462, by decide +kernel⟩
theorem mX4_155 : vMV RX4 155 RX4 yX4_orNone cX4_orNone 2 (some .int) 1 := ⟨wm_463, wm_464, wm_465, wm_5, wm_466, by decide +kernel⟩
theorem mX4_160 : vMS RX4 160 yX4_many cX4_many 3 (some .int) 1 := ⟨wm_504, wm_505, wm_5, wm_506, by decide +kernel⟩
theorem fX4_37 : vF RX4 37 4 11 := ⟨RX4, TX4, 19, rfl, by decide, inlX4, wm_80⟩
theorem mX4_163 : vMV RX4 163 RX4 yX4_lines cX4_lines 4 none 0 := ⟨wm_531, wm_532, wm_533, wm_5, wm_534, by decide +kernel⟩
theorem fX4_31 : vF RX4 31 4 9 := ⟨RX4, TX4, 19, rfl, by decide, inlX4, wm_78⟩
theorem fX4_34 : vF RX4 34 4 10 := ⟨RX4, TX4, 19, rfl, by decide, inlX4, wm_79⟩
theorem gX4_166 : vFP RX4 166 4 12 .int := ⟨RX4, TX4, 19, tyX4, rfl, by decide, inlX4, wm_580, tyX4_ok, nmX4, rfl, by decide +kernel⟩
theorem mX4_170 : vMV RX4 170 RX4 yX4_isLike cX4_isLike 6 (some .boolean) 2 := ⟨wm_598, wm_599, wm_600, wm_5, wm_601, by decide +kernel⟩
theorem fX4_166 : vF RX4 166 4 12 := ⟨RX4, TX4, 19, rfl, by decide, inlX4, wm_580⟩
theorem gX4_173 : vFP RX4 173 4 13 .int := ⟨RX4, TX4, 19, tyX4, rfl, by decide, inlX4, wm_597, tyX4_ok, nmX4, rfl, by decide +kernel⟩
theorem mX4_176 : vMV RX4 176 RX4 yX4_wants cX4_wants 2 (some .int) 1 := ⟨wm_585, wm_586, wm_587, wm_5, wm_588, by decide +kernel⟩
theorem mX4_179 : vMV RX4 179 RX4 yX4_wantsFor cX4_wantsFor 3 (some .int) 2 := ⟨wm_581, wm_582, wm_583, wm_5, wm_584, by decide +kernel⟩
theorem mX4_182 : vMV RX4 182 RX4 yX4_findsFits cX4_findsFits 5 none 2 := ⟨wm_593, wm_594, wm_595, wm_5, wm_596, by decide +kernel⟩
theorem fX4_173 : vF RX4 173 4 13 := ⟨RX4, TX4, 19, rfl, by decide, inlX4, wm_597⟩
theorem mX4_186 : vMV RX4 186 RX4 yX4_draw cX4_draw 1 (some .int) 0 := ⟨wm_631, wm_632, wm_633, wm_5, wm_634, by decide +kernel⟩
theorem fX4_193 : vF RX4 193 4 7 := ⟨RX4, TX4, 19, rfl, by decide, inlX4, wm_668⟩
theorem fX4_25 : vF RX4 25 4 6 := ⟨RX4, TX4, 19, rfl, by decide, inlX4, wm_76⟩
theorem gX4_193 : vFP RX4 193 4 7 .int := ⟨RX4, TX4, 19, tyX4, rfl, by decide, inlX4, wm_668, tyX4_ok, nmX4, rfl, by decide +kernel⟩
theorem fX4_196 : vF RX4 196 4 16 := ⟨RX4, TX4, 19, rfl, by decide, inlX4, wm_811⟩
theorem gX4_199 : vFP RX4 199 4 15 .int := ⟨RX4, TX4, 19, tyX4, rfl, by decide, inlX4, wm_818, tyX4_ok, nmX4, rfl, by decide +kernel⟩
theorem fX4_199 : vF RX4 199 4 15 := ⟨RX4, TX4, 19, rfl, by decide, inlX4, wm_818⟩
theorem mX4_202 : vMV RX4 202 RX4 yX4_byteAt cX4_byteAt 2 (some .int) 1 := ⟨wm_820, wm_821, wm_822, wm_5, wm_823, by decide +kernel⟩
theorem gX4_196 : vFP RX4 196 4 16 .int := ⟨RX4, TX4, 19, tyX4, rfl, by decide, inlX4, wm_811, tyX4_ok, nmX4, rfl, by decide +kernel⟩
theorem mX4_205 : vMS RX4 205 yX4_isLetter cX4_isLetter 1 (some .boolean) 1 := ⟨wm_824, wm_825, wm_5, wm_826, by decide +kernel⟩
theorem mX4_208 : vMS RX4 208 yX4_isDigit cX4_isDigit 1 (some .boolean) 1 := ⟨wm_827, wm_828, wm_5, wm_829, by decide +kernel⟩
theorem gX4_211 : vFP RX4 211 4 14 .int := ⟨RX4, TX4, 19, tyX4, rfl, by decide, inlX4, wm_812, tyX4_ok, nmX4, rfl, by decide +kernel⟩
theorem gX4_214 : vFP RX4 214 4 17 .int := ⟨RX4, TX4, 19, tyX4, rfl, by decide, inlX4, wm_819, tyX4_ok, nmX4, rfl, by decide +kernel⟩
theorem fX4_211 : vF RX4 211 4 14 := ⟨RX4, TX4, 19, rfl, by decide, inlX4, wm_812⟩
theorem fX4_214 : vF RX4 214 4 17 := ⟨RX4, TX4, 19, rfl, by decide, inlX4, wm_819⟩
theorem gX4_217 : vFP RX4 217 4 18 .int := ⟨RX4, TX4, 19, tyX4, rfl, by decide, inlX4, wm_813, tyX4_ok, nmX4, rfl, by decide +kernel⟩
theorem mX4_220 : vMV RX4 220 RX4 yX4_isWord cX4_isWord 2 (some .boolean) 1 := ⟨wm_842, wm_843, wm_844, wm_5, wm_845, by decide +kernel⟩
theorem mX4_223 : vMV RX4 223 RX4 yX4_has3 cX4_has3 5 (some .boolean) 4 := ⟨wm_846, wm_847, wm_848, wm_5, wm_849, by decide +kernel⟩
theorem mX4_227 : vMV RX4 227 RX4 yX4_fails cX4_fails 1 (some .boolean) 0 := ⟨wm_862, wm_863, wm_864, wm_5, wm_865, by decide +kernel⟩
theorem mX4_231 : vMV RX4 231 RX4 yX4_isSix cX4_isSix 7 (some .boolean) 6 := ⟨wm_838, wm_839, wm_840, wm_5, wm_841, by decide +kernel⟩
theorem mX4_235 : vMV RX4 235 RX4 yX4_isFive cX4_isFive 6 (some .boolean) 5 := ⟨wm_850, wm_851, wm_852, wm_5, wm_853, by decide +kernel⟩
theorem mX4_239 : vMV RX4 239 RX4 yX4_isFour cX4_isFour 5 (some .boolean) 4 := ⟨wm_854, wm_855, wm_856, wm_5, wm_857, by decide +kernel⟩
theorem mX4_242 : vMV RX4 242 RX4 yX4_nextToken cX4_nextToken 2 none 0 := ⟨wm_814, wm_815, wm_816, wm_5, wm_817, by decide +kernel⟩
theorem mX4_245 : vMV RX4 245 RX4 yX4_isNumber cX4_isNumber 3 (some .boolean) 2 := ⟨wm_870, wm_871, wm_872, wm_5, wm_873, by decide +kernel⟩
theorem mX4_248 : vMV RX4 248 RX4 yX4_perhaps cX4_perhaps 4 (some .boolean) 3 := ⟨wm_866, wm_867, wm_868, wm_5, wm_869, by decide +kernel⟩
theorem mX4_252 : vMV RX4 252 RX4 yX4_kindHere cX4_kindHere 1 (some .int) 0 := ⟨wm_834, wm_835, wm_836, wm_5, wm_837, by decide +kernel⟩
theorem mX4_255 : vMV RX4 255 RX4 yX4_oysterHere cX4_oysterHere 3 (some .boolean) 1 := ⟨wm_858, wm_859, wm_860, wm_5, wm_861, by decide +kernel⟩
theorem mX4_258 : vMV RX4 258 RX4 yX4_bedHere cX4_bedHere 2 (some .boolean) 0 := ⟨wm_874, wm_875, wm_876, wm_5, wm_877, by decide +kernel⟩
theorem fX4_16 : vF RX4 16 4 2 := ⟨RX4, TX4, 19, rfl, by decide, inlX4, wm_73⟩
theorem mX4_261 : vMV RX4 261 RX4 yX4_itemHere cX4_itemHere 2 (some .boolean) 0 := ⟨wm_830, wm_831, wm_832, wm_5, wm_833, by decide +kernel⟩
theorem fX4_217 : vF RX4 217 4 18 := ⟨RX4, TX4, 19, rfl, by decide, inlX4, wm_813⟩
theorem mX4_265 : vMS RX4 265 yX4_isUnder cX4_isUnder 2 (some .boolean) 2 := ⟨wm_900, wm_901, wm_5, wm_902, by decide +kernel⟩
theorem mX4_269 : vMS RX4 269 yX4_isSheet cX4_isSheet 1 (some .boolean) 1 := ⟨wm_590, wm_591, wm_5, wm_592, by decide +kernel⟩
theorem fX4_28 : vF RX4 28 4 8 := ⟨RX4, TX4, 19, rfl, by decide, inlX4, wm_77⟩
theorem fX4_13 : vF RX4 13 4 1 := ⟨RX4, TX4, 19, rfl, by decide, inlX4, wm_72⟩
theorem gX4_273 : vFP RX4 273 4 4 .boolean := ⟨RX4, TX4, 19, tyX4, rfl, by decide, inlX4, wm_967, tyX4_ok, nmX4, rfl, by decide +kernel⟩
theorem fX4_273 : vF RX4 273 4 4 := ⟨RX4, TX4, 19, rfl, by decide, inlX4, wm_967⟩
theorem mL_13 : vMV RL 13 RX3 yX3_bed cX3_bed 6 (some .int) 3 := ⟨wm_81, wm_82, wm_83, wm_2, wm_84, by decide +kernel⟩
theorem mL_17 : vMV RL 17 RX4 yX4_bed cX4_bed 4 (some .int) 3 := ⟨wm_98, wm_99, wm_100, wm_5, wm_101, by decide +kernel⟩
theorem mL_18 : vMV RL 18 RX3 yX3_bedOf cX3_bedOf 3 (some .int) 2 := ⟨wm_119, wm_120, wm_121, wm_2, wm_122, by decide +kernel⟩
theorem mL_22 : vMV RL 22 RX4 yX4_bedOf cX4_bedOf 5 (some .int) 2 := ⟨wm_127, wm_128, wm_129, wm_5, wm_130, by decide +kernel⟩
theorem mL_23 : vMV RL 23 RX3 yX3_comes cX3_comes 3 (some .int) 1 := ⟨wm_136, wm_137, wm_138, wm_2, wm_139, by decide +kernel⟩
theorem mL_27 : vMV RL 27 RX4 yX4_comes cX4_comes 2 (some .int) 1 := ⟨wm_141, wm_142, wm_143, wm_5, wm_144, by decide +kernel⟩
theorem mL_28 : vMV RL 28 RX3 yX3_oyster cX3_oyster 3 (some .int) 2 := ⟨wm_146, wm_147, wm_148, wm_2, wm_149, by decide +kernel⟩
theorem mL_31 : vMV RL 31 RX4 yX4_oyster cX4_oyster 3 (some .int) 2 := ⟨wm_166, wm_167, wm_168, wm_5, wm_169, by decide +kernel⟩
theorem mL_32 : vMV RL 32 RX3 yX3_of cX3_of 3 (some .int) 2 := ⟨wm_179, wm_180, wm_181, wm_2, wm_182, by decide +kernel⟩
theorem mL_35 : vMV RL 35 RX4 yX4_of cX4_of 3 (some .int) 2 := ⟨wm_219, wm_220, wm_221, wm_5, wm_222, by decide +kernel⟩
theorem mL_36 : vMV RL 36 RX3 yX3_change cX3_change 6 (some .int) 3 := ⟨wm_253, wm_254, wm_255, wm_2, wm_256, by decide +kernel⟩
theorem mL_39 : vMV RL 39 RX4 yX4_change cX4_change 5 (some .int) 3 := ⟨wm_258, wm_259, wm_260, wm_5, wm_261, by decide +kernel⟩
theorem mL_40 : vMV RL 40 RX3 yX3_open cX3_open 3 (some .int) 1 := ⟨wm_266, wm_267, wm_268, wm_2, wm_269, by decide +kernel⟩
theorem mL_43 : vMV RL 43 RX4 yX4_open cX4_open 4 (some .int) 1 := ⟨wm_271, wm_272, wm_273, wm_5, wm_274, by decide +kernel⟩
theorem mL_44 : vMV RL 44 RX3 yX3_go cX3_go 2 (some .int) 1 := ⟨wm_275, wm_276, wm_277, wm_2, wm_278, by decide +kernel⟩
theorem mL_47 : vMV RL 47 RX4 yX4_go cX4_go 2 (some .int) 1 := ⟨wm_306, wm_307, wm_308, wm_5, wm_309, by decide +kernel⟩
theorem mL_48 : vMV RL 48 RX3 yX3_now cX3_now 2 (some .int) 1 := ⟨wm_329, wm_330, wm_331, wm_2, wm_332, by decide +kernel⟩
theorem mL_51 : vMV RL 51 RX4 yX4_now cX4_now 4 (some .int) 1 := ⟨wm_351, wm_352, wm_353, wm_5, wm_354, by decide +kernel⟩
theorem mL_52 : vMV RL 52 RX3 yX3_ahead cX3_ahead 5 (some .int) 3 := ⟨wm_363, wm_364, wm_365, wm_2, wm_366, by decide +kernel⟩
theorem mL_55 : vMV RL 55 RX4 yX4_ahead cX4_ahead 5 (some .int) 3 := ⟨wm_375, wm_376, wm_377, wm_5, wm_378, by decide +kernel⟩
theorem mL_56 : vMV RL 56 RX3 yX3_worth cX3_worth 3 (some .int) 2 := ⟨wm_387, wm_388, wm_389, wm_2, wm_390, by decide +kernel⟩
theorem mL_59 : vMV RL 59 RX4 yX4_worth cX4_worth 3 (some .int) 2 := ⟨wm_391, wm_392, wm_393, wm_5, wm_394, by decide +kernel⟩
theorem mL_60 : vMV RL 60 RX3 yX3_hidden cX3_hidden 3 (some .int) 1 := ⟨wm_395, wm_396, wm_397, wm_2, wm_398, by decide +kernel⟩
theorem mL_63 : vMV RL 63 RX4 yX4_hidden cX4_hidden 3 (some .int) 1 := ⟨wm_401, wm_402, wm_403, wm_5, wm_404, by decide +kernel⟩
theorem mL_64 : vMV RL 64 RX3 yX3_told cX3_told 3 (some .int) 1 := ⟨wm_406, wm_407, wm_408, wm_2, wm_409, by decide +kernel⟩
theorem mL_67 : vMV RL 67 RX4 yX4_told cX4_told 3 (some .int) 1 := ⟨wm_411, wm_412, wm_413, wm_5, wm_414, by decide +kernel⟩
theorem mL_68 : vMV RL 68 RX3 yX3_dive cX3_dive 6 (some .int) 1 := ⟨wm_415, wm_416, wm_417, wm_2, wm_418, by decide +kernel⟩
theorem mL_71 : vMV RL 71 RX4 yX4_dive cX4_dive 5 (some .int) 1 := ⟨wm_419, wm_420, wm_421, wm_5, wm_422, by decide +kernel⟩
theorem mL_72 : vMV RL 72 RX3 yX3_sow cX3_sow 6 (some .int) 2 := ⟨wm_423, wm_424, wm_425, wm_2, wm_426, by decide +kernel⟩
theorem mL_75 : vMV RL 75 RX4 yX4_sow cX4_sow 3 (some .int) 2 := ⟨wm_428, wm_429, wm_430, wm_5, wm_431, by decide +kernel⟩
theorem mL_76 : vMV RL 76 RX3 yX3_kindFor cX3_kindFor 7 (some .int) 2 := ⟨wm_441, wm_442, wm_443, wm_2, wm_444, by decide +kernel⟩
theorem mL_79 : vMV RL 79 RX4 yX4_kindFor cX4_kindFor 3 (some .int) 2 := ⟨wm_446, wm_447, wm_448, wm_5, wm_449, by decide +kernel⟩
theorem mL_80 : vMV RL 80 RX3 yX3_weightFor cX3_weightFor 4 (some .int) 2 := ⟨wm_450, wm_451, wm_452, wm_2, wm_453, by decide +kernel⟩
theorem mL_83 : vMV RL 83 RX4 yX4_weightFor cX4_weightFor 6 (some .int) 2 := ⟨wm_455, wm_456, wm_457, wm_5, wm_458, by decide +kernel⟩
theorem mL_84 : vMV RL 84 RX3 yX3_comesFor cX3_comesFor 4 (some .int) 2 := ⟨wm_467, wm_468, wm_469, wm_2, wm_470, by decide +kernel⟩
theorem mL_87 : vMV RL 87 RX4 yX4_comesFor cX4_comesFor 6 (some .int) 2 := ⟨wm_471, wm_472, wm_473, wm_5, wm_474, by decide +kernel⟩
theorem mL_88 : vMV RL 88 RX3 yX3_coldFor cX3_coldFor 4 (some .int) 2 := ⟨wm_475, wm_476, wm_477, wm_2, wm_478, by decide +kernel⟩
theorem mL_91 : vMV RL 91 RX4 yX4_coldFor cX4_coldFor 7 (some .int) 2 := ⟨wm_479, wm_480, wm_481, wm_5, wm_482, by decide +kernel⟩
theorem mL_92 : vMV RL 92 RX3 yX3_room cX3_room 9 (some .int) 3 := ⟨wm_483, wm_484, wm_485, wm_2, wm_486, by decide +kernel⟩
theorem mL_95 : vMV RL 95 RX4 yX4_room cX4_room 7 (some .int) 3 := ⟨wm_499, wm_500, wm_501, wm_5, wm_502, by decide +kernel⟩
theorem mL_96 : vMV RL 96 RX3 yX3_alike cX3_alike 5 (some .int) 2 := ⟨wm_507, wm_508, wm_509, wm_2, wm_510, by decide +kernel⟩
theorem mL_99 : vMV RL 99 RX4 yX4_alike cX4_alike 5 (some .int) 2 := ⟨wm_514, wm_515, wm_516, wm_5, wm_517, by decide +kernel⟩
theorem mL_100 : vMV RL 100 RX3 yX3_string cX3_string 6 (some .int) 1 := ⟨wm_518, wm_519, wm_520, wm_2, wm_521, by decide +kernel⟩
theorem mL_103 : vMV RL 103 RX4 yX4_string cX4_string 5 (some .int) 1 := ⟨wm_527, wm_528, wm_529, wm_5, wm_530, by decide +kernel⟩
theorem mL_104 : vMV RL 104 RX3 yX3_pairs cX3_pairs 5 (some .int) 1 := ⟨wm_535, wm_536, wm_537, wm_2, wm_538, by decide +kernel⟩
theorem mL_107 : vMV RL 107 RX4 yX4_pairs cX4_pairs 5 (some .int) 1 := ⟨wm_539, wm_540, wm_541, wm_5, wm_542, by decide +kernel⟩
theorem mL_108 : vMV RL 108 RX3 yX3_match cX3_match 3 (some .int) 0 := ⟨wm_543, wm_544, wm_545, wm_2, wm_546, by decide +kernel⟩
theorem mL_112 : vMV RL 112 RX4 yX4_match cX4_match 3 (some .int) 0 := ⟨wm_547, wm_548, wm_549, wm_5, wm_550, by decide +kernel⟩
theorem mL_113 : vMV RL 113 RX3 yX3_fits cX3_fits 6 (some .int) 2 := ⟨wm_551, wm_552, wm_553, wm_2, wm_554, by decide +kernel⟩
theorem mL_116 : vMV RL 116 RX4 yX4_fits cX4_fits 4 (some .int) 2 := ⟨wm_576, wm_577, wm_578, wm_5, wm_579, by decide +kernel⟩
theorem mL_117 : vMV RL 117 RX3 yX3_weighed cX3_weighed 5 (some .int) 2 := ⟨wm_602, wm_603, wm_604, wm_2, wm_605, by decide +kernel⟩
theorem mL_120 : vMV RL 120 RX4 yX4_weighed cX4_weighed 4 (some .int) 2 := ⟨wm_606, wm_607, wm_608, wm_5, wm_609, by decide +kernel⟩
theorem mL_121 : vMV RL 121 RX3 yX3_kinds cX3_kinds 6 (some .int) 2 := ⟨wm_610, wm_611, wm_612, wm_2, wm_613, by decide +kernel⟩
theorem mL_124 : vMV RL 124 RX4 yX4_kinds cX4_kinds 7 (some .int) 2 := ⟨wm_614, wm_615, wm_616, wm_5, wm_617, by decide +kernel⟩
theorem mL_125 : vMV RL 125 RX3 yX3_storms cX3_storms 5 (some .int) 1 := ⟨wm_618, wm_619, wm_620, wm_2, wm_621, by decide +kernel⟩
theorem mL_128 : vMV RL 128 RX4 yX4_storms cX4_storms 5 (some .int) 1 := ⟨wm_627, wm_628, wm_629, wm_5, wm_630, by decide +kernel⟩
theorem mL_129 : vMV RL 129 RX3 yX3_odds cX3_odds 10 (some .long) 2 := ⟨wm_636, wm_637, wm_638, wm_2, wm_639, by decide +kernel⟩
theorem mL_133 : vMV RL 133 RX4 yX4_odds cX4_odds 9 (some .long) 2 := ⟨wm_640, wm_641, wm_642, wm_5, wm_643, by decide +kernel⟩
theorem mL_134 : vMV RL 134 RX3 yX3_seed cX3_seed 3 (some .int) 1 := ⟨wm_645, wm_646, wm_647, wm_2, wm_648, by decide +kernel⟩
theorem mL_137 : vMV RL 137 RX4 yX4_seed cX4_seed 2 (some .int) 1 := ⟨wm_650, wm_651, wm_652, wm_5, wm_653, by decide +kernel⟩
theorem mL_138 : vMV RL 138 RX3 yX3_feed cX3_feed 4 (some .int) 2 := ⟨wm_654, wm_655, wm_656, wm_2, wm_657, by decide +kernel⟩
theorem mL_141 : vMV RL 141 RX4 yX4_feed cX4_feed 4 (some .int) 2 := ⟨wm_663, wm_664, wm_665, wm_5, wm_666, by decide +kernel⟩
theorem mL_142 : vMV RL 142 RX3 yX3_wipe cX3_wipe 2 (some .int) 0 := ⟨wm_669, wm_670, wm_671, wm_2, wm_672, by decide +kernel⟩
theorem mL_145 : vMV RL 145 RX4 yX4_wipe cX4_wipe 2 (some .int) 0 := ⟨wm_673, wm_674, wm_675, wm_5, wm_676, by decide +kernel⟩
theorem mL_146 : vMV RL 146 RX3 yX3_text cX3_text 2 (some .int) 0 := ⟨wm_677, wm_678, wm_679, wm_2, wm_680, by decide +kernel⟩
theorem mL_149 : vMV RL 149 RX4 yX4_text cX4_text 3 (some .int) 0 := ⟨wm_807, wm_808, wm_809, wm_5, wm_810, by decide +kernel⟩
theorem mL_150 : vMV RL 150 RX3 yX3_hold cX3_hold 3 (some .int) 2 := ⟨wm_878, wm_879, wm_880, wm_2, wm_881, by decide +kernel⟩
theorem mL_153 : vMV RL 153 RX4 yX4_hold cX4_hold 3 (some .int) 2 := ⟨wm_883, wm_884, wm_885, wm_5, wm_886, by decide +kernel⟩
theorem mL_154 : vMV RL 154 RX3 yX3_as cX3_as 4 (some .int) 2 := ⟨wm_887, wm_888, wm_889, wm_2, wm_890, by decide +kernel⟩
theorem mL_157 : vMV RL 157 RX4 yX4_as cX4_as 4 (some .int) 2 := ⟨wm_895, wm_896, wm_897, wm_5, wm_898, by decide +kernel⟩
theorem mL_158 : vMV RL 158 RX3 yX3_sheet cX3_sheet 5 (some .int) 3 := ⟨wm_903, wm_904, wm_905, wm_2, wm_906, by decide +kernel⟩
theorem mL_161 : vMV RL 161 RX4 yX4_sheet cX4_sheet 5 (some .int) 3 := ⟨wm_911, wm_912, wm_913, wm_5, wm_914, by decide +kernel⟩
theorem mL_162 : vMV RL 162 RX3 yX3_write cX3_write 4 (some .int) 3 := ⟨wm_916, wm_917, wm_918, wm_2, wm_919, by decide +kernel⟩
theorem mL_165 : vMV RL 165 RX4 yX4_write cX4_write 4 (some .int) 3 := ⟨wm_924, wm_925, wm_926, wm_5, wm_927, by decide +kernel⟩
theorem mL_166 : vMV RL 166 RX3 yX3_copy cX3_copy 8 (some .int) 5 := ⟨wm_928, wm_929, wm_930, wm_2, wm_931, by decide +kernel⟩
theorem mL_170 : vMV RL 170 RX4 yX4_copy cX4_copy 10 (some .int) 5 := ⟨wm_938, wm_939, wm_940, wm_5, wm_941, by decide +kernel⟩
theorem mL_171 : vMV RL 171 RX3 yX3_load cX3_load 4 (some .int) 1 := ⟨wm_942, wm_943, wm_944, wm_2, wm_945, by decide +kernel⟩
theorem mL_174 : vMV RL 174 RX4 yX4_load cX4_load 3 (some .int) 1 := ⟨wm_947, wm_948, wm_949, wm_5, wm_950, by decide +kernel⟩
theorem mL_175 : vMV RL 175 RX3 yX3_judge cX3_judge 3 (some .int) 1 := ⟨wm_951, wm_952, wm_953, wm_2, wm_954, by decide +kernel⟩
theorem mL_178 : vMV RL 178 RX4 yX4_judge cX4_judge 3 (some .int) 1 := ⟨wm_955, wm_956, wm_957, wm_5, wm_958, by decide +kernel⟩
theorem mL_179 : vMV RL 179 RX3 yX3_image cX3_image 1 (some .int) 0 := ⟨wm_959, wm_960, wm_961, wm_2, wm_962, by decide +kernel⟩
theorem mL_182 : vMV RL 182 RX4 yX4_image cX4_image 1 (some .int) 0 := ⟨wm_963, wm_964, wm_965, wm_5, wm_966, by decide +kernel⟩
theorem mL_183 : vMV RL 183 RX3 yX3_undo cX3_undo 1 (some .int) 0 := ⟨wm_968, wm_969, wm_970, wm_2, wm_971, by decide +kernel⟩
theorem mL_186 : vMV RL 186 RX4 yX4_undo cX4_undo 1 (some .int) 0 := ⟨wm_972, wm_973, wm_974, wm_5, wm_975, by decide +kernel⟩
theorem mL_187 : vMV RL 187 RX3 yX3_tear cX3_tear 2 (some .int) 0 := ⟨wm_976, wm_977, wm_978, wm_2, wm_979, by decide +kernel⟩
theorem mL_190 : vMV RL 190 RX4 yX4_tear cX4_tear 2 (some .int) 0 := ⟨wm_980, wm_981, wm_982, wm_5, wm_983, by decide +kernel⟩
theorem mL_191 : vMV RL 191 RX3 yX3_count cX3_count 2 (some .int) 1 := ⟨wm_984, wm_985, wm_986, wm_2, wm_987, by decide +kernel⟩
theorem mL_194 : vMV RL 194 RX4 yX4_count cX4_count 4 (some .int) 1 := ⟨wm_992, wm_993, wm_994, wm_5, wm_995, by decide +kernel⟩
theorem mL_195 : vMV RL 195 RX3 yX3_status cX3_status 4 (some .int) 1 := ⟨wm_996, wm_997, wm_998, wm_2, wm_999, by decide +kernel⟩
theorem mL_198 : vMV RL 198 RX4 yX4_status cX4_status 2 (some .int) 1 := ⟨wm_1000, wm_1001, wm_1002, wm_5, wm_1003, by decide +kernel⟩
theorem sw_0_4 {x : Int32} (h0 : ¬ x = 0) (h1 : ¬ x = 1) (h2 : ¬ x = 2) (h3 : ¬ x = 3) (h4 : ¬ x = 4) : x.toInt < 0 ∨ 4 < x.toInt := by
  have t0 := lv_neT (a := 0) h0 (by decide)
  have t1 := lv_neT (a := 1) h1 (by decide)
  have t2 := lv_neT (a := 2) h2 (by decide)
  have t3 := lv_neT (a := 3) h3 (by decide)
  have t4 := lv_neT (a := 4) h4 (by decide)
  omega
theorem sw_1_6 {x : Int32} (h1 : ¬ x = 1) (h2 : ¬ x = 2) (h3 : ¬ x = 3) (h4 : ¬ x = 4) (h5 : ¬ x = 5) (h6 : ¬ x = 6) : x.toInt < 1 ∨ 6 < x.toInt := by
  have t1 := lv_neT (a := 1) h1 (by decide)
  have t2 := lv_neT (a := 2) h2 (by decide)
  have t3 := lv_neT (a := 3) h3 (by decide)
  have t4 := lv_neT (a := 4) h4 (by decide)
  have t5 := lv_neT (a := 5) h5 (by decide)
  have t6 := lv_neT (a := 6) h6 (by decide)
  omega
theorem sw_0_12 {x : Int32} (h0 : ¬ x = 0) (h1 : ¬ x = 1) (h2 : ¬ x = 2) (h3 : ¬ x = 3) (h4 : ¬ x = 4) (h5 : ¬ x = 5) (h6 : ¬ x = 6) (h7 : ¬ x = 7) (h8 : ¬ x = 8) (h9 : ¬ x = 9) (h10 : ¬ x = 10) (h11 : ¬ x = 11) (h12 : ¬ x = 12) : x.toInt < 0 ∨ 12 < x.toInt := by
  have t0 := lv_neT (a := 0) h0 (by decide)
  have t1 := lv_neT (a := 1) h1 (by decide)
  have t2 := lv_neT (a := 2) h2 (by decide)
  have t3 := lv_neT (a := 3) h3 (by decide)
  have t4 := lv_neT (a := 4) h4 (by decide)
  have t5 := lv_neT (a := 5) h5 (by decide)
  have t6 := lv_neT (a := 6) h6 (by decide)
  have t7 := lv_neT (a := 7) h7 (by decide)
  have t8 := lv_neT (a := 8) h8 (by decide)
  have t9 := lv_neT (a := 9) h9 (by decide)
  have t10 := lv_neT (a := 10) h10 (by decide)
  have t11 := lv_neT (a := 11) h11 (by decide)
  have t12 := lv_neT (a := 12) h12 (by decide)
  omega
theorem sw_6_9 {x : Int32} (h6 : ¬ x = 6) (h7 : ¬ x = 7) (h8 : ¬ x = 8) (h9 : ¬ x = 9) : x.toInt < 6 ∨ 9 < x.toInt := by
  have t6 := lv_neT (a := 6) h6 (by decide)
  have t7 := lv_neT (a := 7) h7 (by decide)
  have t8 := lv_neT (a := 8) h8 (by decide)
  have t9 := lv_neT (a := 9) h9 (by decide)
  omega
theorem sw_0_6 {x : Int32} (h0 : ¬ x = 0) (h1 : ¬ x = 1) (h2 : ¬ x = 2) (h3 : ¬ x = 3) (h4 : ¬ x = 4) (h5 : ¬ x = 5) (h6 : ¬ x = 6) : x.toInt < 0 ∨ 6 < x.toInt := by
  have t0 := lv_neT (a := 0) h0 (by decide)
  have t1 := lv_neT (a := 1) h1 (by decide)
  have t2 := lv_neT (a := 2) h2 (by decide)
  have t3 := lv_neT (a := 3) h3 (by decide)
  have t4 := lv_neT (a := 4) h4 (by decide)
  have t5 := lv_neT (a := 5) h5 (by decide)
  have t6 := lv_neT (a := 6) h6 (by decide)
  omega
theorem sw_0_7 {x : Int32} (h0 : ¬ x = 0) (h1 : ¬ x = 1) (h2 : ¬ x = 2) (h3 : ¬ x = 3) (h4 : ¬ x = 4) (h5 : ¬ x = 5) (h6 : ¬ x = 6) (h7 : ¬ x = 7) : x.toInt < 0 ∨ 7 < x.toInt := by
  have t0 := lv_neT (a := 0) h0 (by decide)
  have t1 := lv_neT (a := 1) h1 (by decide)
  have t2 := lv_neT (a := 2) h2 (by decide)
  have t3 := lv_neT (a := 3) h3 (by decide)
  have t4 := lv_neT (a := 4) h4 (by decide)
  have t5 := lv_neT (a := 5) h5 (by decide)
  have t6 := lv_neT (a := 6) h6 (by decide)
  have t7 := lv_neT (a := 7) h7 (by decide)
  omega
