theorem wt_1 {w : Cond} (h : w ∈ tables_1_1) (g : goodWord w = true) : w ∈ wsL_law := wsL_mem (List.mem_append_left _ h) g
theorem wt_2 {w : Cond} (h : w ∈ tables_1_2) (g : goodWord w = true) : w ∈ wsL_law := wsL_mem (List.mem_append_right _ (List.mem_append_left _ h)) g
theorem wt_3 {w : Cond} (h : w ∈ tables_1_3) (g : goodWord w = true) : w ∈ wsL_law := wsL_mem (List.mem_append_right _ (List.mem_append_right _ (List.mem_append_left _ h))) g
theorem wt_4 {w : Cond} (h : w ∈ tables_1_4) (g : goodWord w = true) : w ∈ wsL_law := wsL_mem (List.mem_append_right _ (List.mem_append_right _ (List.mem_append_right _ (List.mem_append_left _ h)))) g
theorem wt_5 {w : Cond} (h : w ∈ tables_1_5) (g : goodWord w = true) : w ∈ wsL_law := wsL_mem (List.mem_append_right _ (List.mem_append_right _ (List.mem_append_right _ (List.mem_append_right _ (h))))) g
theorem wm_0 : (Cond.classLink RL 7 RX3) ∈ wsL_law := wt_1 (List.mem_of_getElem? (i := 13) rfl) rfl
theorem wm_1 : (Cond.instantiable RX3 8) ∈ wsL_law := wt_1 (List.mem_of_getElem? (i := 14) rfl) rfl
theorem wm_2 : (Cond.initialized RX3) ∈ wsL_law := wt_1 (List.mem_of_getElem? (i := 1) rfl) rfl
theorem wm_3 : (Cond.classLink RL 10 RX4) ∈ wsL_law := wt_3 (List.mem_of_getElem? (i := 191) rfl) rfl
theorem wm_4 : (Cond.instantiable RX4 19) ∈ wsL_law := wt_3 (List.mem_of_getElem? (i := 192) rfl) rfl
theorem wm_5 : (Cond.initialized RX4) ∈ wsL_law := wt_1 (List.mem_of_getElem? (i := 5) rfl) rfl
theorem wm_6 : (Cond.methodLink RL 9 yX3_init) ∈ wsL_law := wt_1 (List.mem_of_getElem? (i := 15) rfl) rfl
theorem wm_7 : (Cond.instanceMethod yX3_init) ∈ wsL_law := wt_1 (List.mem_of_getElem? (i := 16) rfl) rfl
theorem wm_8 : (Cond.code yX3_init cX3_init 2 none) ∈ wsL_law := wt_1 (List.mem_of_getElem? (i := 17) rfl) rfl
theorem wm_9 : (Cond.methodLink RX3 1 objectInit) ∈ wsL_law := wt_1 (List.mem_of_getElem? (i := 18) rfl) rfl
theorem wm_10 : (Cond.instanceMethod objectInit) ∈ wsL_law := wt_1 (List.mem_of_getElem? (i := 19) rfl) rfl
theorem wm_11 : (Cond.code objectInit ⟨#[0xb1]⟩ 1 none) ∈ wsL_law := wt_1 (List.mem_of_getElem? (i := 20) rfl) rfl
theorem wm_12 : (Cond.classLink RX3 7 RX0) ∈ wsL_law := wt_1 (List.mem_of_getElem? (i := 21) rfl) rfl
theorem wm_13 : (Cond.instantiable RX0 14) ∈ wsL_law := wt_1 (List.mem_of_getElem? (i := 22) rfl) rfl
theorem wm_14 : (Cond.initialized RX0) ∈ wsL_law := wt_1 (List.mem_of_getElem? (i := 2) rfl) rfl
theorem wm_15 : (Cond.fieldLink RX3 10 "OysterSecrets" "live" "LOysterSecrets$Estuary;") ∈ wsL_law := wt_1 (List.mem_of_getElem? (i := 141) rfl) rfl
theorem wm_16 : (Cond.fieldLink RX3 16 "OysterSecrets" "trial" "LOysterSecrets$Estuary;") ∈ wsL_law := wt_1 (List.mem_of_getElem? (i := 142) rfl) rfl
theorem wm_17 : (Cond.fieldLink RX3 19 "OysterSecrets" "kept" "LOysterSecrets$Estuary;") ∈ wsL_law := wt_1 (List.mem_of_getElem? (i := 143) rfl) rfl
theorem wm_18 : (Cond.fieldLink RX3 22 "OysterSecrets" "hasKept" "Z") ∈ wsL_law := wt_1 (List.mem_of_getElem? (i := 144) rfl) rfl
theorem wm_19 : (Cond.classLink RX3 26 RX2) ∈ wsL_law := wt_1 (List.mem_of_getElem? (i := 89) rfl) rfl
theorem wm_20 : (Cond.instantiable RX2 8) ∈ wsL_law := wt_1 (List.mem_of_getElem? (i := 90) rfl) rfl
theorem wm_21 : (Cond.initialized RX2) ∈ wsL_law := wt_1 (List.mem_of_getElem? (i := 3) rfl) rfl
theorem wm_22 : (Cond.fieldLink RX3 29 "OysterSecrets" "tape" "LOysterSecrets$Tape;") ∈ wsL_law := wt_1 (List.mem_of_getElem? (i := 145) rfl) rfl
theorem wm_23 : (Cond.classLink RX3 33 RX1) ∈ wsL_law := wt_1 (List.mem_of_getElem? (i := 121) rfl) rfl
theorem wm_24 : (Cond.fieldLink RX3 35 "OysterSecrets" "sheets" "[LOysterSecrets$Sheet;") ∈ wsL_law := wt_1 (List.mem_of_getElem? (i := 146) rfl) rfl
theorem wm_25 : (Cond.instantiable RX1 3) ∈ wsL_law := wt_1 (List.mem_of_getElem? (i := 123) rfl) rfl
theorem wm_26 : (Cond.initialized RX1) ∈ wsL_law := wt_1 (List.mem_of_getElem? (i := 4) rfl) rfl
theorem wm_27 : (Cond.arrayClass .int) ∈ wsL_law := wt_1 (List.mem_of_getElem? (i := 88) rfl) rfl
theorem wm_28 : (Cond.fieldLink RX3 40 "OysterSecrets" "findings" "[I") ∈ wsL_law := wt_1 (List.mem_of_getElem? (i := 147) rfl) rfl
theorem wm_29 : (Cond.fieldLink RX3 44 "OysterSecrets" "sorted" "[I") ∈ wsL_law := wt_1 (List.mem_of_getElem? (i := 148) rfl) rfl
theorem wm_30 : (Cond.methodLink RX3 9 yX0_init) ∈ wsL_law := wt_1 (List.mem_of_getElem? (i := 23) rfl) rfl
theorem wm_31 : (Cond.instanceMethod yX0_init) ∈ wsL_law := wt_1 (List.mem_of_getElem? (i := 24) rfl) rfl
theorem wm_32 : (Cond.code yX0_init cX0_init 2 none) ∈ wsL_law := wt_1 (List.mem_of_getElem? (i := 25) rfl) rfl
theorem wm_33 : (Cond.methodLink RX0 3 objectInit) ∈ wsL_law := wt_1 (List.mem_of_getElem? (i := 26) rfl) rfl
theorem wm_34 : (Cond.fieldLink RX0 9 "OysterSecrets$Estuary" "nacre" "[I") ∈ wsL_law := wt_1 (List.mem_of_getElem? (i := 27) rfl) rfl
theorem wm_35 : (Cond.fieldLink RX0 15 "OysterSecrets$Estuary" "cold" "[I") ∈ wsL_law := wt_1 (List.mem_of_getElem? (i := 30) rfl) rfl
theorem wm_36 : (Cond.fieldLink RX0 18 "OysterSecrets$Estuary" "kind" "[I") ∈ wsL_law := wt_1 (List.mem_of_getElem? (i := 33) rfl) rfl
theorem wm_37 : (Cond.fieldLink RX0 21 "OysterSecrets$Estuary" "home" "[I") ∈ wsL_law := wt_1 (List.mem_of_getElem? (i := 35) rfl) rfl
theorem wm_38 : (Cond.fieldLink RX0 24 "OysterSecrets$Estuary" "weight" "[I") ∈ wsL_law := wt_1 (List.mem_of_getElem? (i := 37) rfl) rfl
theorem wm_39 : (Cond.fieldLink RX0 27 "OysterSecrets$Estuary" "layers" "[I") ∈ wsL_law := wt_1 (List.mem_of_getElem? (i := 40) rfl) rfl
theorem wm_40 : (Cond.fieldLink RX0 30 "OysterSecrets$Estuary" "age" "[I") ∈ wsL_law := wt_1 (List.mem_of_getElem? (i := 43) rfl) rfl
theorem wm_41 : (Cond.fieldLink RX0 33 "OysterSecrets$Estuary" "shown" "[I") ∈ wsL_law := wt_1 (List.mem_of_getElem? (i := 44) rfl) rfl
theorem wm_42 : (Cond.fieldLink RX0 36 "OysterSecrets$Estuary" "spots" "[I") ∈ wsL_law := wt_1 (List.mem_of_getElem? (i := 46) rfl) rfl
theorem wm_43 : (Cond.fieldLink RX0 39 "OysterSecrets$Estuary" "oysters" "I") ∈ wsL_law := wt_1 (List.mem_of_getElem? (i := 48) rfl) rfl
theorem wm_44 : (Cond.fieldLink RX0 43 "OysterSecrets$Estuary" "coming" "I") ∈ wsL_law := wt_1 (List.mem_of_getElem? (i := 50) rfl) rfl
theorem wm_45 : (Cond.fieldLink RX0 46 "OysterSecrets$Estuary" "year" "I") ∈ wsL_law := wt_1 (List.mem_of_getElem? (i := 53) rfl) rfl
theorem wm_46 : (Cond.fieldLink RX0 49 "OysterSecrets$Estuary" "z" "I") ∈ wsL_law := wt_1 (List.mem_of_getElem? (i := 55) rfl) rfl
theorem wm_47 : (Cond.fieldLink RX0 52 "OysterSecrets$Estuary" "takenUp" "I") ∈ wsL_law := wt_1 (List.mem_of_getElem? (i := 57) rfl) rfl
theorem wm_48 : (Cond.methodLink RX3 28 yX2_init) ∈ wsL_law := wt_1 (List.mem_of_getElem? (i := 91) rfl) rfl
theorem wm_49 : (Cond.instanceMethod yX2_init) ∈ wsL_law := wt_1 (List.mem_of_getElem? (i := 92) rfl) rfl
theorem wm_50 : (Cond.code yX2_init cX2_init 1 none) ∈ wsL_law := wt_1 (List.mem_of_getElem? (i := 93) rfl) rfl
theorem wm_51 : (Cond.methodLink RX2 3 objectInit) ∈ wsL_law := wt_1 (List.mem_of_getElem? (i := 94) rfl) rfl
theorem wm_52 : (Cond.fieldLink RX2 9 "OysterSecrets$Tape" "bytes" "[I") ∈ wsL_law := wt_1 (List.mem_of_getElem? (i := 95) rfl) rfl
theorem wm_53 : (Cond.fieldLink RX2 15 "OysterSecrets$Tape" "sorts" "[I") ∈ wsL_law := wt_1 (List.mem_of_getElem? (i := 96) rfl) rfl
theorem wm_54 : (Cond.fieldLink RX2 18 "OysterSecrets$Tape" "starts" "[I") ∈ wsL_law := wt_1 (List.mem_of_getElem? (i := 97) rfl) rfl
theorem wm_55 : (Cond.fieldLink RX2 21 "OysterSecrets$Tape" "numbers" "[I") ∈ wsL_law := wt_1 (List.mem_of_getElem? (i := 98) rfl) rfl
theorem wm_56 : (Cond.fieldLink RX2 24 "OysterSecrets$Tape" "size" "I") ∈ wsL_law := wt_1 (List.mem_of_getElem? (i := 99) rfl) rfl
theorem wm_57 : (Cond.fieldLink RX2 28 "OysterSecrets$Tape" "tokens" "I") ∈ wsL_law := wt_1 (List.mem_of_getElem? (i := 101) rfl) rfl
theorem wm_58 : (Cond.fieldLink RX2 31 "OysterSecrets$Tape" "at" "I") ∈ wsL_law := wt_1 (List.mem_of_getElem? (i := 102) rfl) rfl
theorem wm_59 : (Cond.fieldLink RX2 34 "OysterSecrets$Tape" "value" "I") ∈ wsL_law := wt_1 (List.mem_of_getElem? (i := 103) rfl) rfl
theorem wm_60 : (Cond.methodLink RX3 39 yX1_init) ∈ wsL_law := wt_1 (List.mem_of_getElem? (i := 124) rfl) rfl
theorem wm_61 : (Cond.instanceMethod yX1_init) ∈ wsL_law := wt_1 (List.mem_of_getElem? (i := 125) rfl) rfl
theorem wm_62 : (Cond.code yX1_init cX1_init 1 none) ∈ wsL_law := wt_1 (List.mem_of_getElem? (i := 126) rfl) rfl
theorem wm_63 : (Cond.methodLink RX1 3 objectInit) ∈ wsL_law := wt_1 (List.mem_of_getElem? (i := 127) rfl) rfl
theorem wm_64 : (Cond.fieldLink RX1 9 "OysterSecrets$Sheet" "numbers" "[I") ∈ wsL_law := wt_1 (List.mem_of_getElem? (i := 128) rfl) rfl
theorem wm_65 : (Cond.fieldLink RX1 15 "OysterSecrets$Sheet" "bits" "I") ∈ wsL_law := wt_1 (List.mem_of_getElem? (i := 130) rfl) rfl
theorem wm_66 : (Cond.fieldLink RX1 19 "OysterSecrets$Sheet" "size" "I") ∈ wsL_law := wt_1 (List.mem_of_getElem? (i := 132) rfl) rfl
theorem wm_67 : (Cond.methodLink RL 12 yX4_init) ∈ wsL_law := wt_3 (List.mem_of_getElem? (i := 193) rfl) rfl
theorem wm_68 : (Cond.instanceMethod yX4_init) ∈ wsL_law := wt_3 (List.mem_of_getElem? (i := 194) rfl) rfl
theorem wm_69 : (Cond.code yX4_init cX4_init 2 none) ∈ wsL_law := wt_3 (List.mem_of_getElem? (i := 195) rfl) rfl
theorem wm_70 : (Cond.methodLink RX4 1 objectInit) ∈ wsL_law := wt_3 (List.mem_of_getElem? (i := 196) rfl) rfl
theorem wm_71 : (Cond.fieldLink RX4 7 "OysterSecretsModel" "s" "[I") ∈ wsL_law := wt_3 (List.mem_of_getElem? (i := 197) rfl) rfl
theorem wm_72 : (Cond.fieldLink RX4 13 "OysterSecretsModel" "kept" "[I") ∈ wsL_law := wt_3 (List.mem_of_getElem? (i := 198) rfl) rfl
theorem wm_73 : (Cond.fieldLink RX4 16 "OysterSecretsModel" "before" "[I") ∈ wsL_law := wt_3 (List.mem_of_getElem? (i := 199) rfl) rfl
theorem wm_74 : (Cond.fieldLink RX4 19 "OysterSecretsModel" "aside" "[I") ∈ wsL_law := wt_3 (List.mem_of_getElem? (i := 200) rfl) rfl
theorem wm_75 : (Cond.fieldLink RX4 22 "OysterSecretsModel" "findings" "[I") ∈ wsL_law := wt_3 (List.mem_of_getElem? (i := 202) rfl) rfl
theorem wm_76 : (Cond.fieldLink RX4 25 "OysterSecretsModel" "tape" "[I") ∈ wsL_law := wt_3 (List.mem_of_getElem? (i := 203) rfl) rfl
theorem wm_77 : (Cond.fieldLink RX4 28 "OysterSecretsModel" "bitsOf" "[I") ∈ wsL_law := wt_3 (List.mem_of_getElem? (i := 205) rfl) rfl
theorem wm_78 : (Cond.fieldLink RX4 31 "OysterSecretsModel" "sizes" "[I") ∈ wsL_law := wt_3 (List.mem_of_getElem? (i := 206) rfl) rfl
theorem wm_79 : (Cond.fieldLink RX4 34 "OysterSecretsModel" "numbers" "[I") ∈ wsL_law := wt_3 (List.mem_of_getElem? (i := 207) rfl) rfl
theorem wm_80 : (Cond.fieldLink RX4 37 "OysterSecretsModel" "line" "[I") ∈ wsL_law := wt_3 (List.mem_of_getElem? (i := 208) rfl) rfl
theorem wm_81 : (Cond.methodLink RL 13 yX3_bed) ∈ wsL_law := wt_1 (List.mem_of_getElem? (i := 166) rfl) rfl
theorem wm_82 : (Cond.instanceMethod yX3_bed) ∈ wsL_law := wt_1 (List.mem_of_getElem? (i := 167) rfl) rfl
theorem wm_83 : (Cond.selects RX3 yX3_bed yX3_bed) ∈ wsL_law := wt_1 (List.mem_of_getElem? (i := 168) rfl) rfl
theorem wm_84 : (Cond.code yX3_bed cX3_bed 6 (some .int)) ∈ wsL_law := wt_1 (List.mem_of_getElem? (i := 169) rfl) rfl
theorem wm_85 : (Cond.fieldLink RX3 59 "OysterSecrets$Estuary" "nacre" "[I") ∈ wsL_law := wt_1 (List.mem_of_getElem? (i := 28) rfl) rfl
theorem wm_86 : (Cond.fieldLink RX3 62 "OysterSecrets$Estuary" "cold" "[I") ∈ wsL_law := wt_1 (List.mem_of_getElem? (i := 31) rfl) rfl
theorem wm_87 : (Cond.methodLink RX3 47 yX3_isBed) ∈ wsL_law := wt_1 (List.mem_of_getElem? (i := 170) rfl) rfl
theorem wm_88 : (Cond.static yX3_isBed) ∈ wsL_law := wt_1 (List.mem_of_getElem? (i := 171) rfl) rfl
theorem wm_89 : (Cond.code yX3_isBed cX3_isBed 1 (some .boolean)) ∈ wsL_law := wt_1 (List.mem_of_getElem? (i := 172) rfl) rfl
theorem wm_90 : (Cond.methodLink RX3 51 yX3_isWithin) ∈ wsL_law := wt_1 (List.mem_of_getElem? (i := 173) rfl) rfl
theorem wm_91 : (Cond.static yX3_isWithin) ∈ wsL_law := wt_1 (List.mem_of_getElem? (i := 174) rfl) rfl
theorem wm_92 : (Cond.code yX3_isWithin cX3_isWithin 2 (some .boolean)) ∈ wsL_law := wt_1 (List.mem_of_getElem? (i := 175) rfl) rfl
theorem wm_93 : (Cond.methodLink RX3 55 yX3_finding) ∈ wsL_law := wt_1 (List.mem_of_getElem? (i := 176) rfl) rfl
theorem wm_94 : (Cond.instanceMethod yX3_finding) ∈ wsL_law := wt_1 (List.mem_of_getElem? (i := 178) rfl) rfl
theorem wm_95 : (Cond.selects RX3 yX3_finding yX3_finding) ∈ wsL_law := wsL_sel (List.mem_of_getElem? (i := 0) rfl) rfl
theorem wm_96 : (Cond.code yX3_finding cX3_finding 2 (some .int)) ∈ wsL_law := wt_1 (List.mem_of_getElem? (i := 179) rfl) rfl
theorem wm_97 : (Cond.constant RX3 255 (-1000001)) ∈ wsL_law := wt_1 (List.mem_of_getElem? (i := 180) rfl) rfl
theorem wm_98 : (Cond.methodLink RL 17 yX4_bed) ∈ wsL_law := wt_4 (List.mem_of_getElem? (i := 15) rfl) rfl
theorem wm_99 : (Cond.instanceMethod yX4_bed) ∈ wsL_law := wt_4 (List.mem_of_getElem? (i := 16) rfl) rfl
theorem wm_100 : (Cond.selects RX4 yX4_bed yX4_bed) ∈ wsL_law := wt_4 (List.mem_of_getElem? (i := 17) rfl) rfl
theorem wm_101 : (Cond.code yX4_bed cX4_bed 4 (some .int)) ∈ wsL_law := wt_4 (List.mem_of_getElem? (i := 18) rfl) rfl
theorem wm_102 : (Cond.constantLong RX4 54 (999)) ∈ wsL_law := wt_4 (List.mem_of_getElem? (i := 25) rfl) rfl
theorem wm_103 : (Cond.constantLong RX4 56 (9)) ∈ wsL_law := wt_4 (List.mem_of_getElem? (i := 26) rfl) rfl
theorem wm_104 : (Cond.constant RX4 40 (-1000001)) ∈ wsL_law := wt_4 (List.mem_of_getElem? (i := 27) rfl) rfl
theorem wm_105 : (Cond.methodLink RX4 46 yX4_isBed) ∈ wsL_law := wt_4 (List.mem_of_getElem? (i := 19) rfl) rfl
theorem wm_106 : (Cond.static yX4_isBed) ∈ wsL_law := wt_4 (List.mem_of_getElem? (i := 20) rfl) rfl
theorem wm_107 : (Cond.code yX4_isBed cX4_isBed 1 (some .boolean)) ∈ wsL_law := wt_4 (List.mem_of_getElem? (i := 21) rfl) rfl
theorem wm_108 : (Cond.methodLink RX4 50 yX4_isIn) ∈ wsL_law := wt_4 (List.mem_of_getElem? (i := 22) rfl) rfl
theorem wm_109 : (Cond.static yX4_isIn) ∈ wsL_law := wt_4 (List.mem_of_getElem? (i := 23) rfl) rfl
theorem wm_110 : (Cond.code yX4_isIn cX4_isIn 6 (some .boolean)) ∈ wsL_law := wt_4 (List.mem_of_getElem? (i := 24) rfl) rfl
theorem wm_111 : (Cond.methodLink RX4 42 yX4_finds) ∈ wsL_law := wt_4 (List.mem_of_getElem? (i := 28) rfl) rfl
theorem wm_112 : (Cond.instanceMethod yX4_finds) ∈ wsL_law := wt_4 (List.mem_of_getElem? (i := 30) rfl) rfl
theorem wm_113 : (Cond.selects RX4 yX4_finds yX4_finds) ∈ wsL_law := wsL_sel (List.mem_of_getElem? (i := 7) rfl) rfl
theorem wm_114 : (Cond.code yX4_finds cX4_finds 2 (some .int)) ∈ wsL_law := wt_4 (List.mem_of_getElem? (i := 31) rfl) rfl
theorem wm_115 : (Cond.methodLink RX4 58 yX4_becomes) ∈ wsL_law := wt_4 (List.mem_of_getElem? (i := 32) rfl) rfl
theorem wm_116 : (Cond.instanceMethod yX4_becomes) ∈ wsL_law := wt_4 (List.mem_of_getElem? (i := 34) rfl) rfl
theorem wm_117 : (Cond.selects RX4 yX4_becomes yX4_becomes) ∈ wsL_law := wsL_sel (List.mem_of_getElem? (i := 8) rfl) rfl
theorem wm_118 : (Cond.code yX4_becomes cX4_becomes 4 (some .int)) ∈ wsL_law := wt_4 (List.mem_of_getElem? (i := 35) rfl) rfl
theorem wm_119 : (Cond.methodLink RL 18 yX3_bedOf) ∈ wsL_law := wt_1 (List.mem_of_getElem? (i := 181) rfl) rfl
theorem wm_120 : (Cond.instanceMethod yX3_bedOf) ∈ wsL_law := wt_1 (List.mem_of_getElem? (i := 182) rfl) rfl
theorem wm_121 : (Cond.selects RX3 yX3_bedOf yX3_bedOf) ∈ wsL_law := wt_1 (List.mem_of_getElem? (i := 183) rfl) rfl
theorem wm_122 : (Cond.code yX3_bedOf cX3_bedOf 3 (some .int)) ∈ wsL_law := wt_1 (List.mem_of_getElem? (i := 184) rfl) rfl
theorem wm_123 : (Cond.methodLink RX3 65 yX0_setIn) ∈ wsL_law := wt_1 (List.mem_of_getElem? (i := 185) rfl) rfl
theorem wm_124 : (Cond.instanceMethod yX0_setIn) ∈ wsL_law := wt_1 (List.mem_of_getElem? (i := 186) rfl) rfl
theorem wm_125 : (Cond.selects RX0 yX0_setIn yX0_setIn) ∈ wsL_law := wt_1 (List.mem_of_getElem? (i := 187) rfl) rfl
theorem wm_126 : (Cond.code yX0_setIn cX0_setIn 4 (some .int)) ∈ wsL_law := wt_1 (List.mem_of_getElem? (i := 188) rfl) rfl
theorem wm_127 : (Cond.methodLink RL 22 yX4_bedOf) ∈ wsL_law := wt_4 (List.mem_of_getElem? (i := 36) rfl) rfl
theorem wm_128 : (Cond.instanceMethod yX4_bedOf) ∈ wsL_law := wt_4 (List.mem_of_getElem? (i := 37) rfl) rfl
theorem wm_129 : (Cond.selects RX4 yX4_bedOf yX4_bedOf) ∈ wsL_law := wt_4 (List.mem_of_getElem? (i := 38) rfl) rfl
theorem wm_130 : (Cond.code yX4_bedOf cX4_bedOf 5 (some .int)) ∈ wsL_law := wt_4 (List.mem_of_getElem? (i := 39) rfl) rfl
theorem wm_131 : (Cond.constantLong RX4 62 (2)) ∈ wsL_law := wt_4 (List.mem_of_getElem? (i := 40) rfl) rfl
theorem wm_132 : (Cond.methodLink RX4 64 yX4_its) ∈ wsL_law := wt_4 (List.mem_of_getElem? (i := 41) rfl) rfl
theorem wm_133 : (Cond.instanceMethod yX4_its) ∈ wsL_law := wt_4 (List.mem_of_getElem? (i := 43) rfl) rfl
theorem wm_134 : (Cond.selects RX4 yX4_its yX4_its) ∈ wsL_law := wsL_sel (List.mem_of_getElem? (i := 9) rfl) rfl
theorem wm_135 : (Cond.code yX4_its cX4_its 3 (some .int)) ∈ wsL_law := wt_4 (List.mem_of_getElem? (i := 44) rfl) rfl
theorem wm_136 : (Cond.methodLink RL 23 yX3_comes) ∈ wsL_law := wt_1 (List.mem_of_getElem? (i := 189) rfl) rfl
theorem wm_137 : (Cond.instanceMethod yX3_comes) ∈ wsL_law := wt_1 (List.mem_of_getElem? (i := 190) rfl) rfl
theorem wm_138 : (Cond.selects RX3 yX3_comes yX3_comes) ∈ wsL_law := wt_1 (List.mem_of_getElem? (i := 191) rfl) rfl
theorem wm_139 : (Cond.code yX3_comes cX3_comes 3 (some .int)) ∈ wsL_law := wt_1 (List.mem_of_getElem? (i := 192) rfl) rfl
theorem wm_140 : (Cond.fieldLink RX3 68 "OysterSecrets$Estuary" "coming" "I") ∈ wsL_law := wt_1 (List.mem_of_getElem? (i := 51) rfl) rfl
theorem wm_141 : (Cond.methodLink RL 27 yX4_comes) ∈ wsL_law := wt_4 (List.mem_of_getElem? (i := 45) rfl) rfl
theorem wm_142 : (Cond.instanceMethod yX4_comes) ∈ wsL_law := wt_4 (List.mem_of_getElem? (i := 46) rfl) rfl
theorem wm_143 : (Cond.selects RX4 yX4_comes yX4_comes) ∈ wsL_law := wt_4 (List.mem_of_getElem? (i := 47) rfl) rfl
theorem wm_144 : (Cond.code yX4_comes cX4_comes 2 (some .int)) ∈ wsL_law := wt_4 (List.mem_of_getElem? (i := 48) rfl) rfl
theorem wm_145 : (Cond.constantLong RX4 67 (99)) ∈ wsL_law := wt_4 (List.mem_of_getElem? (i := 49) rfl) rfl
theorem wm_146 : (Cond.methodLink RL 28 yX3_oyster) ∈ wsL_law := wt_1 (List.mem_of_getElem? (i := 193) rfl) rfl
theorem wm_147 : (Cond.instanceMethod yX3_oyster) ∈ wsL_law := wt_1 (List.mem_of_getElem? (i := 194) rfl) rfl
theorem wm_148 : (Cond.selects RX3 yX3_oyster yX3_oyster) ∈ wsL_law := wt_1 (List.mem_of_getElem? (i := 195) rfl) rfl
theorem wm_149 : (Cond.code yX3_oyster cX3_oyster 3 (some .int)) ∈ wsL_law := wt_1 (List.mem_of_getElem? (i := 196) rfl) rfl
theorem wm_150 : (Cond.methodLink RX3 72 yX3_isKind) ∈ wsL_law := wt_1 (List.mem_of_getElem? (i := 197) rfl) rfl
theorem wm_151 : (Cond.static yX3_isKind) ∈ wsL_law := wt_1 (List.mem_of_getElem? (i := 198) rfl) rfl
theorem wm_152 : (Cond.code yX3_isKind cX3_isKind 1 (some .boolean)) ∈ wsL_law := wt_1 (List.mem_of_getElem? (i := 199) rfl) rfl
theorem wm_153 : (Cond.methodLink RX3 75 yX0_isFull) ∈ wsL_law := wt_1 (List.mem_of_getElem? (i := 200) rfl) rfl
theorem wm_154 : (Cond.instanceMethod yX0_isFull) ∈ wsL_law := wt_1 (List.mem_of_getElem? (i := 201) rfl) rfl
theorem wm_155 : (Cond.selects RX0 yX0_isFull yX0_isFull) ∈ wsL_law := wt_1 (List.mem_of_getElem? (i := 202) rfl) rfl
theorem wm_156 : (Cond.code yX0_isFull cX0_isFull 1 (some .boolean)) ∈ wsL_law := wt_1 (List.mem_of_getElem? (i := 203) rfl) rfl
theorem wm_157 : (Cond.methodLink RX3 79 yX0_addOyster) ∈ wsL_law := wt_1 (List.mem_of_getElem? (i := 204) rfl) rfl
theorem wm_158 : (Cond.instanceMethod yX0_addOyster) ∈ wsL_law := wt_1 (List.mem_of_getElem? (i := 205) rfl) rfl
theorem wm_159 : (Cond.selects RX0 yX0_addOyster yX0_addOyster) ∈ wsL_law := wt_1 (List.mem_of_getElem? (i := 206) rfl) rfl
theorem wm_160 : (Cond.code yX0_addOyster cX0_addOyster 4 (some .int)) ∈ wsL_law := wt_1 (List.mem_of_getElem? (i := 207) rfl) rfl
theorem wm_161 : (Cond.methodLink RX0 61 yX0_isFull) ∈ wsL_law := wt_1 (List.mem_of_getElem? (i := 208) rfl) rfl
theorem wm_162 : (Cond.methodLink RX0 65 yX0_clearOyster) ∈ wsL_law := wt_1 (List.mem_of_getElem? (i := 209) rfl) rfl
theorem wm_163 : (Cond.instanceMethod yX0_clearOyster) ∈ wsL_law := wt_1 (List.mem_of_getElem? (i := 210) rfl) rfl
theorem wm_164 : (Cond.selects RX0 yX0_clearOyster yX0_clearOyster) ∈ wsL_law := wt_1 (List.mem_of_getElem? (i := 211) rfl) rfl
theorem wm_165 : (Cond.code yX0_clearOyster cX0_clearOyster 2 none) ∈ wsL_law := wt_1 (List.mem_of_getElem? (i := 212) rfl) rfl
theorem wm_166 : (Cond.methodLink RL 31 yX4_oyster) ∈ wsL_law := wt_4 (List.mem_of_getElem? (i := 50) rfl) rfl
theorem wm_167 : (Cond.instanceMethod yX4_oyster) ∈ wsL_law := wt_4 (List.mem_of_getElem? (i := 51) rfl) rfl
theorem wm_168 : (Cond.selects RX4 yX4_oyster yX4_oyster) ∈ wsL_law := wt_4 (List.mem_of_getElem? (i := 52) rfl) rfl
theorem wm_169 : (Cond.code yX4_oyster cX4_oyster 3 (some .int)) ∈ wsL_law := wt_4 (List.mem_of_getElem? (i := 53) rfl) rfl
theorem wm_170 : (Cond.constantLong RX4 72 (6)) ∈ wsL_law := wt_4 (List.mem_of_getElem? (i := 54) rfl) rfl
theorem wm_171 : (Cond.constant RX4 74 (-1000002)) ∈ wsL_law := wt_4 (List.mem_of_getElem? (i := 55) rfl) rfl
theorem wm_172 : (Cond.methodLink RX4 75 yX4_comesNew) ∈ wsL_law := wt_4 (List.mem_of_getElem? (i := 56) rfl) rfl
theorem wm_173 : (Cond.instanceMethod yX4_comesNew) ∈ wsL_law := wt_4 (List.mem_of_getElem? (i := 58) rfl) rfl
theorem wm_174 : (Cond.selects RX4 yX4_comesNew yX4_comesNew) ∈ wsL_law := wsL_sel (List.mem_of_getElem? (i := 10) rfl) rfl
theorem wm_175 : (Cond.code yX4_comesNew cX4_comesNew 4 none) ∈ wsL_law := wt_4 (List.mem_of_getElem? (i := 59) rfl) rfl
theorem wm_176 : (Cond.methodLink RX4 69 yX4_at) ∈ wsL_law := wt_4 (List.mem_of_getElem? (i := 60) rfl) rfl
theorem wm_177 : (Cond.static yX4_at) ∈ wsL_law := wt_4 (List.mem_of_getElem? (i := 61) rfl) rfl
theorem wm_178 : (Cond.code yX4_at cX4_at 2 (some .int)) ∈ wsL_law := wt_4 (List.mem_of_getElem? (i := 62) rfl) rfl
theorem wm_179 : (Cond.methodLink RL 32 yX3_of) ∈ wsL_law := wt_1 (List.mem_of_getElem? (i := 213) rfl) rfl
theorem wm_180 : (Cond.instanceMethod yX3_of) ∈ wsL_law := wt_1 (List.mem_of_getElem? (i := 214) rfl) rfl
theorem wm_181 : (Cond.selects RX3 yX3_of yX3_of) ∈ wsL_law := wt_1 (List.mem_of_getElem? (i := 215) rfl) rfl
theorem wm_182 : (Cond.code yX3_of cX3_of 3 (some .int)) ∈ wsL_law := wt_1 (List.mem_of_getElem? (i := 216) rfl) rfl
theorem wm_183 : (Cond.methodLink RX3 83 yX3_isOyster) ∈ wsL_law := wt_1 (List.mem_of_getElem? (i := 217) rfl) rfl
theorem wm_184 : (Cond.instanceMethod yX3_isOyster) ∈ wsL_law := wt_1 (List.mem_of_getElem? (i := 219) rfl) rfl
theorem wm_185 : (Cond.selects RX3 yX3_isOyster yX3_isOyster) ∈ wsL_law := wsL_sel (List.mem_of_getElem? (i := 1) rfl) rfl
theorem wm_186 : (Cond.code yX3_isOyster cX3_isOyster 2 (some .boolean)) ∈ wsL_law := wt_1 (List.mem_of_getElem? (i := 220) rfl) rfl
theorem wm_187 : (Cond.fieldLink RX3 161 "OysterSecrets$Estuary" "oysters" "I") ∈ wsL_law := wt_1 (List.mem_of_getElem? (i := 49) rfl) rfl
theorem wm_188 : (Cond.methodLink RX3 86 yX0_takes) ∈ wsL_law := wt_1 (List.mem_of_getElem? (i := 221) rfl) rfl
theorem wm_189 : (Cond.instanceMethod yX0_takes) ∈ wsL_law := wt_1 (List.mem_of_getElem? (i := 222) rfl) rfl
theorem wm_190 : (Cond.selects RX0 yX0_takes yX0_takes) ∈ wsL_law := wt_1 (List.mem_of_getElem? (i := 223) rfl) rfl
theorem wm_191 : (Cond.code yX0_takes cX0_takes 5 (some .int)) ∈ wsL_law := wt_1 (List.mem_of_getElem? (i := 224) rfl) rfl
theorem wm_192 : (Cond.methodLink RX0 69 Lib.Math.min.name) ∈ wsL_law := wt_1 (List.mem_of_getElem? (i := 225) rfl) rfl
theorem wm_193 : (Cond.static Lib.Math.min.name) ∈ wsL_law := wt_1 (List.mem_of_getElem? (i := 226) rfl) rfl
theorem wm_194 : (Cond.initialized "java/lang/Math") ∈ wsL_law := wt_1 (List.mem_of_getElem? (i := 6) rfl) rfl
theorem wm_195 : (Cond.code Lib.Math.min.name Lib.Math.min.code 2 (some .int)) ∈ wsL_law := wt_1 (List.mem_of_getElem? (i := 227) rfl) rfl
theorem wm_196 : (Cond.methodLink RX3 89 yX0_needs) ∈ wsL_law := wt_1 (List.mem_of_getElem? (i := 228) rfl) rfl
theorem wm_197 : (Cond.instanceMethod yX0_needs) ∈ wsL_law := wt_1 (List.mem_of_getElem? (i := 229) rfl) rfl
theorem wm_198 : (Cond.selects RX0 yX0_needs yX0_needs) ∈ wsL_law := wt_1 (List.mem_of_getElem? (i := 230) rfl) rfl
theorem wm_199 : (Cond.code yX0_needs cX0_needs 3 (some .int)) ∈ wsL_law := wt_1 (List.mem_of_getElem? (i := 231) rfl) rfl
theorem wm_200 : (Cond.methodLink RX0 75 Lib.Math.max.name) ∈ wsL_law := wt_1 (List.mem_of_getElem? (i := 232) rfl) rfl
theorem wm_201 : (Cond.static Lib.Math.max.name) ∈ wsL_law := wt_1 (List.mem_of_getElem? (i := 233) rfl) rfl
theorem wm_202 : (Cond.code Lib.Math.max.name Lib.Math.max.code 2 (some .int)) ∈ wsL_law := wt_1 (List.mem_of_getElem? (i := 234) rfl) rfl
theorem wm_203 : (Cond.methodLink RX3 92 yX0_opens) ∈ wsL_law := wt_1 (List.mem_of_getElem? (i := 235) rfl) rfl
theorem wm_204 : (Cond.instanceMethod yX0_opens) ∈ wsL_law := wt_1 (List.mem_of_getElem? (i := 236) rfl) rfl
theorem wm_205 : (Cond.selects RX0 yX0_opens yX0_opens) ∈ wsL_law := wt_1 (List.mem_of_getElem? (i := 237) rfl) rfl
theorem wm_206 : (Cond.code yX0_opens cX0_opens 3 (some .boolean)) ∈ wsL_law := wt_1 (List.mem_of_getElem? (i := 238) rfl) rfl
theorem wm_207 : (Cond.methodLink RX3 95 yX0_worthOf) ∈ wsL_law := wt_1 (List.mem_of_getElem? (i := 239) rfl) rfl
theorem wm_208 : (Cond.instanceMethod yX0_worthOf) ∈ wsL_law := wt_2 (List.mem_of_getElem? (i := 0) rfl) rfl
theorem wm_209 : (Cond.selects RX0 yX0_worthOf yX0_worthOf) ∈ wsL_law := wt_2 (List.mem_of_getElem? (i := 1) rfl) rfl
theorem wm_210 : (Cond.code yX0_worthOf cX0_worthOf 4 (some .int)) ∈ wsL_law := wt_2 (List.mem_of_getElem? (i := 2) rfl) rfl
theorem wm_211 : (Cond.methodLink RX0 78 yX0_isTold) ∈ wsL_law := wt_2 (List.mem_of_getElem? (i := 3) rfl) rfl
theorem wm_212 : (Cond.instanceMethod yX0_isTold) ∈ wsL_law := wt_2 (List.mem_of_getElem? (i := 4) rfl) rfl
theorem wm_213 : (Cond.selects RX0 yX0_isTold yX0_isTold) ∈ wsL_law := wt_2 (List.mem_of_getElem? (i := 5) rfl) rfl
theorem wm_214 : (Cond.code yX0_isTold cX0_isTold 2 (some .boolean)) ∈ wsL_law := wt_2 (List.mem_of_getElem? (i := 6) rfl) rfl
theorem wm_215 : (Cond.methodLink RX3 98 yX0_rowOf) ∈ wsL_law := wt_2 (List.mem_of_getElem? (i := 7) rfl) rfl
theorem wm_216 : (Cond.instanceMethod yX0_rowOf) ∈ wsL_law := wt_2 (List.mem_of_getElem? (i := 8) rfl) rfl
theorem wm_217 : (Cond.selects RX0 yX0_rowOf yX0_rowOf) ∈ wsL_law := wt_2 (List.mem_of_getElem? (i := 9) rfl) rfl
theorem wm_218 : (Cond.code yX0_rowOf cX0_rowOf 2 (some (.array .int))) ∈ wsL_law := wt_2 (List.mem_of_getElem? (i := 10) rfl) rfl
theorem wm_219 : (Cond.methodLink RL 35 yX4_of) ∈ wsL_law := wt_4 (List.mem_of_getElem? (i := 63) rfl) rfl
theorem wm_220 : (Cond.instanceMethod yX4_of) ∈ wsL_law := wt_4 (List.mem_of_getElem? (i := 64) rfl) rfl
theorem wm_221 : (Cond.selects RX4 yX4_of yX4_of) ∈ wsL_law := wt_4 (List.mem_of_getElem? (i := 65) rfl) rfl
theorem wm_222 : (Cond.code yX4_of cX4_of 3 (some .int)) ∈ wsL_law := wt_4 (List.mem_of_getElem? (i := 66) rfl) rfl
theorem wm_223 : (Cond.methodLink RX4 88 yX4_isOyster) ∈ wsL_law := wt_4 (List.mem_of_getElem? (i := 67) rfl) rfl
theorem wm_224 : (Cond.instanceMethod yX4_isOyster) ∈ wsL_law := wt_4 (List.mem_of_getElem? (i := 69) rfl) rfl
theorem wm_225 : (Cond.selects RX4 yX4_isOyster yX4_isOyster) ∈ wsL_law := wsL_sel (List.mem_of_getElem? (i := 11) rfl) rfl
theorem wm_226 : (Cond.code yX4_isOyster cX4_isOyster 2 (some .boolean)) ∈ wsL_law := wt_4 (List.mem_of_getElem? (i := 70) rfl) rfl
theorem wm_227 : (Cond.methodLink RX4 91 yX4_takes) ∈ wsL_law := wt_4 (List.mem_of_getElem? (i := 71) rfl) rfl
theorem wm_228 : (Cond.instanceMethod yX4_takes) ∈ wsL_law := wt_4 (List.mem_of_getElem? (i := 73) rfl) rfl
theorem wm_229 : (Cond.selects RX4 yX4_takes yX4_takes) ∈ wsL_law := wsL_sel (List.mem_of_getElem? (i := 12) rfl) rfl
theorem wm_230 : (Cond.code yX4_takes cX4_takes 3 (some .int)) ∈ wsL_law := wt_4 (List.mem_of_getElem? (i := 74) rfl) rfl
theorem wm_231 : (Cond.methodLink RX4 79 yX4_least) ∈ wsL_law := wt_4 (List.mem_of_getElem? (i := 75) rfl) rfl
theorem wm_232 : (Cond.static yX4_least) ∈ wsL_law := wt_4 (List.mem_of_getElem? (i := 76) rfl) rfl
theorem wm_233 : (Cond.code yX4_least cX4_least 2 (some .int)) ∈ wsL_law := wt_4 (List.mem_of_getElem? (i := 77) rfl) rfl
theorem wm_234 : (Cond.methodLink RX4 94 yX4_needs) ∈ wsL_law := wt_4 (List.mem_of_getElem? (i := 78) rfl) rfl
theorem wm_235 : (Cond.instanceMethod yX4_needs) ∈ wsL_law := wt_4 (List.mem_of_getElem? (i := 80) rfl) rfl
theorem wm_236 : (Cond.selects RX4 yX4_needs yX4_needs) ∈ wsL_law := wsL_sel (List.mem_of_getElem? (i := 13) rfl) rfl
theorem wm_237 : (Cond.code yX4_needs cX4_needs 3 (some .int)) ∈ wsL_law := wt_4 (List.mem_of_getElem? (i := 81) rfl) rfl
theorem wm_238 : (Cond.methodLink RX4 82 yX4_greatest) ∈ wsL_law := wt_4 (List.mem_of_getElem? (i := 82) rfl) rfl
theorem wm_239 : (Cond.static yX4_greatest) ∈ wsL_law := wt_4 (List.mem_of_getElem? (i := 83) rfl) rfl
theorem wm_240 : (Cond.code yX4_greatest cX4_greatest 2 (some .int)) ∈ wsL_law := wt_4 (List.mem_of_getElem? (i := 84) rfl) rfl
theorem wm_241 : (Cond.methodLink RX4 97 yX4_opens) ∈ wsL_law := wt_4 (List.mem_of_getElem? (i := 85) rfl) rfl
theorem wm_242 : (Cond.instanceMethod yX4_opens) ∈ wsL_law := wt_4 (List.mem_of_getElem? (i := 87) rfl) rfl
theorem wm_243 : (Cond.selects RX4 yX4_opens yX4_opens) ∈ wsL_law := wsL_sel (List.mem_of_getElem? (i := 14) rfl) rfl
theorem wm_244 : (Cond.code yX4_opens cX4_opens 3 (some .boolean)) ∈ wsL_law := wt_4 (List.mem_of_getElem? (i := 88) rfl) rfl
theorem wm_245 : (Cond.methodLink RX4 100 yX4_worthOf) ∈ wsL_law := wt_4 (List.mem_of_getElem? (i := 89) rfl) rfl
theorem wm_246 : (Cond.instanceMethod yX4_worthOf) ∈ wsL_law := wt_4 (List.mem_of_getElem? (i := 91) rfl) rfl
theorem wm_247 : (Cond.selects RX4 yX4_worthOf yX4_worthOf) ∈ wsL_law := wsL_sel (List.mem_of_getElem? (i := 15) rfl) rfl
theorem wm_248 : (Cond.code yX4_worthOf cX4_worthOf 4 (some .int)) ∈ wsL_law := wt_4 (List.mem_of_getElem? (i := 92) rfl) rfl
theorem wm_249 : (Cond.methodLink RX4 85 yX4_isTold) ∈ wsL_law := wt_4 (List.mem_of_getElem? (i := 93) rfl) rfl
theorem wm_250 : (Cond.instanceMethod yX4_isTold) ∈ wsL_law := wt_4 (List.mem_of_getElem? (i := 95) rfl) rfl
theorem wm_251 : (Cond.selects RX4 yX4_isTold yX4_isTold) ∈ wsL_law := wsL_sel (List.mem_of_getElem? (i := 16) rfl) rfl
theorem wm_252 : (Cond.code yX4_isTold cX4_isTold 2 (some .boolean)) ∈ wsL_law := wt_4 (List.mem_of_getElem? (i := 96) rfl) rfl
theorem wm_253 : (Cond.methodLink RL 36 yX3_change) ∈ wsL_law := wt_2 (List.mem_of_getElem? (i := 11) rfl) rfl
theorem wm_254 : (Cond.instanceMethod yX3_change) ∈ wsL_law := wt_2 (List.mem_of_getElem? (i := 12) rfl) rfl
theorem wm_255 : (Cond.selects RX3 yX3_change yX3_change) ∈ wsL_law := wt_2 (List.mem_of_getElem? (i := 13) rfl) rfl
theorem wm_256 : (Cond.code yX3_change cX3_change 6 (some .int)) ∈ wsL_law := wt_2 (List.mem_of_getElem? (i := 14) rfl) rfl
theorem wm_257 : (Cond.fieldLink RX3 102 "OysterSecrets" "MOST_OF_WHAT" "[I") ∈ wsL_law := wt_2 (List.mem_of_getElem? (i := 15) rfl) rfl
theorem wm_258 : (Cond.methodLink RL 39 yX4_change) ∈ wsL_law := wt_4 (List.mem_of_getElem? (i := 97) rfl) rfl
theorem wm_259 : (Cond.instanceMethod yX4_change) ∈ wsL_law := wt_4 (List.mem_of_getElem? (i := 98) rfl) rfl
theorem wm_260 : (Cond.selects RX4 yX4_change yX4_change) ∈ wsL_law := wt_4 (List.mem_of_getElem? (i := 99) rfl) rfl
theorem wm_261 : (Cond.code yX4_change cX4_change 5 (some .int)) ∈ wsL_law := wt_4 (List.mem_of_getElem? (i := 100) rfl) rfl
theorem wm_262 : (Cond.constantLong RX4 103 (5)) ∈ wsL_law := wt_4 (List.mem_of_getElem? (i := 101) rfl) rfl
theorem wm_263 : (Cond.methodLink RX4 105 yX4_greatestOf) ∈ wsL_law := wt_4 (List.mem_of_getElem? (i := 102) rfl) rfl
theorem wm_264 : (Cond.static yX4_greatestOf) ∈ wsL_law := wt_4 (List.mem_of_getElem? (i := 103) rfl) rfl
theorem wm_265 : (Cond.code yX4_greatestOf cX4_greatestOf 1 (some .int)) ∈ wsL_law := wt_4 (List.mem_of_getElem? (i := 104) rfl) rfl
theorem wm_266 : (Cond.methodLink RL 40 yX3_open) ∈ wsL_law := wt_2 (List.mem_of_getElem? (i := 17) rfl) rfl
theorem wm_267 : (Cond.instanceMethod yX3_open) ∈ wsL_law := wt_2 (List.mem_of_getElem? (i := 18) rfl) rfl
theorem wm_268 : (Cond.selects RX3 yX3_open yX3_open) ∈ wsL_law := wt_2 (List.mem_of_getElem? (i := 19) rfl) rfl
theorem wm_269 : (Cond.code yX3_open cX3_open 3 (some .int)) ∈ wsL_law := wt_2 (List.mem_of_getElem? (i := 20) rfl) rfl
theorem wm_270 : (Cond.methodLink RX3 105 yX0_clearOyster) ∈ wsL_law := wt_2 (List.mem_of_getElem? (i := 21) rfl) rfl
theorem wm_271 : (Cond.methodLink RL 43 yX4_open) ∈ wsL_law := wt_4 (List.mem_of_getElem? (i := 105) rfl) rfl
theorem wm_272 : (Cond.instanceMethod yX4_open) ∈ wsL_law := wt_4 (List.mem_of_getElem? (i := 106) rfl) rfl
theorem wm_273 : (Cond.selects RX4 yX4_open yX4_open) ∈ wsL_law := wt_4 (List.mem_of_getElem? (i := 107) rfl) rfl
theorem wm_274 : (Cond.code yX4_open cX4_open 4 (some .int)) ∈ wsL_law := wt_4 (List.mem_of_getElem? (i := 108) rfl) rfl
theorem wm_275 : (Cond.methodLink RL 44 yX3_go) ∈ wsL_law := wt_2 (List.mem_of_getElem? (i := 22) rfl) rfl
theorem wm_276 : (Cond.instanceMethod yX3_go) ∈ wsL_law := wt_2 (List.mem_of_getElem? (i := 23) rfl) rfl
theorem wm_277 : (Cond.selects RX3 yX3_go yX3_go) ∈ wsL_law := wt_2 (List.mem_of_getElem? (i := 24) rfl) rfl
theorem wm_278 : (Cond.code yX3_go cX3_go 2 (some .int)) ∈ wsL_law := wt_2 (List.mem_of_getElem? (i := 25) rfl) rfl
theorem wm_279 : (Cond.fieldLink RX3 109 "OysterSecrets$Estuary" "year" "I") ∈ wsL_law := wt_1 (List.mem_of_getElem? (i := 54) rfl) rfl
theorem wm_280 : (Cond.constant RX3 112 (99999)) ∈ wsL_law := wt_2 (List.mem_of_getElem? (i := 26) rfl) rfl
theorem wm_281 : (Cond.fieldLink RX3 116 "OysterSecrets$Estuary" "layers" "[I") ∈ wsL_law := wt_1 (List.mem_of_getElem? (i := 42) rfl) rfl
theorem wm_282 : (Cond.methodLink RX3 113 yX0_passYears) ∈ wsL_law := wt_2 (List.mem_of_getElem? (i := 27) rfl) rfl
theorem wm_283 : (Cond.instanceMethod yX0_passYears) ∈ wsL_law := wt_2 (List.mem_of_getElem? (i := 28) rfl) rfl
theorem wm_284 : (Cond.selects RX0 yX0_passYears yX0_passYears) ∈ wsL_law := wt_2 (List.mem_of_getElem? (i := 29) rfl) rfl
theorem wm_285 : (Cond.code yX0_passYears cX0_passYears 3 none) ∈ wsL_law := wt_2 (List.mem_of_getElem? (i := 30) rfl) rfl
theorem wm_286 : (Cond.methodLink RX0 86 yX0_passYear) ∈ wsL_law := wt_2 (List.mem_of_getElem? (i := 31) rfl) rfl
theorem wm_287 : (Cond.instanceMethod yX0_passYear) ∈ wsL_law := wt_2 (List.mem_of_getElem? (i := 32) rfl) rfl
theorem wm_288 : (Cond.selects RX0 yX0_passYear yX0_passYear) ∈ wsL_law := wt_2 (List.mem_of_getElem? (i := 33) rfl) rfl
theorem wm_289 : (Cond.code yX0_passYear cX0_passYear 2 none) ∈ wsL_law := wt_2 (List.mem_of_getElem? (i := 34) rfl) rfl
theorem wm_290 : (Cond.constant RX0 98 (99999)) ∈ wsL_law := wt_2 (List.mem_of_getElem? (i := 46) rfl) rfl
theorem wm_291 : (Cond.methodLink RX0 89 yX0_growLayers) ∈ wsL_law := wt_2 (List.mem_of_getElem? (i := 35) rfl) rfl
theorem wm_292 : (Cond.instanceMethod yX0_growLayers) ∈ wsL_law := wt_2 (List.mem_of_getElem? (i := 36) rfl) rfl
theorem wm_293 : (Cond.selects RX0 yX0_growLayers yX0_growLayers) ∈ wsL_law := wt_2 (List.mem_of_getElem? (i := 37) rfl) rfl
theorem wm_294 : (Cond.code yX0_growLayers cX0_growLayers 4 none) ∈ wsL_law := wt_2 (List.mem_of_getElem? (i := 38) rfl) rfl
theorem wm_295 : (Cond.methodLink RX0 99 yX0_takes) ∈ wsL_law := wt_2 (List.mem_of_getElem? (i := 39) rfl) rfl
theorem wm_296 : (Cond.methodLink RX0 92 yX0_isHidden) ∈ wsL_law := wt_2 (List.mem_of_getElem? (i := 40) rfl) rfl
theorem wm_297 : (Cond.instanceMethod yX0_isHidden) ∈ wsL_law := wt_2 (List.mem_of_getElem? (i := 41) rfl) rfl
theorem wm_298 : (Cond.selects RX0 yX0_isHidden yX0_isHidden) ∈ wsL_law := wt_2 (List.mem_of_getElem? (i := 42) rfl) rfl
theorem wm_299 : (Cond.code yX0_isHidden cX0_isHidden 2 (some .boolean)) ∈ wsL_law := wt_2 (List.mem_of_getElem? (i := 43) rfl) rfl
theorem wm_300 : (Cond.methodLink RX0 82 yX0_needs) ∈ wsL_law := wt_2 (List.mem_of_getElem? (i := 44) rfl) rfl
theorem wm_301 : (Cond.methodLink RX0 95 yX0_opens) ∈ wsL_law := wt_2 (List.mem_of_getElem? (i := 45) rfl) rfl
theorem wm_302 : (Cond.methodLink RX3 119 yX0_sumOf) ∈ wsL_law := wt_2 (List.mem_of_getElem? (i := 47) rfl) rfl
theorem wm_303 : (Cond.instanceMethod yX0_sumOf) ∈ wsL_law := wt_2 (List.mem_of_getElem? (i := 48) rfl) rfl
theorem wm_304 : (Cond.selects RX0 yX0_sumOf yX0_sumOf) ∈ wsL_law := wt_2 (List.mem_of_getElem? (i := 49) rfl) rfl
theorem wm_305 : (Cond.code yX0_sumOf cX0_sumOf 4 (some .int)) ∈ wsL_law := wt_2 (List.mem_of_getElem? (i := 50) rfl) rfl
theorem wm_306 : (Cond.methodLink RL 47 yX4_go) ∈ wsL_law := wt_4 (List.mem_of_getElem? (i := 109) rfl) rfl
theorem wm_307 : (Cond.instanceMethod yX4_go) ∈ wsL_law := wt_4 (List.mem_of_getElem? (i := 110) rfl) rfl
theorem wm_308 : (Cond.selects RX4 yX4_go yX4_go) ∈ wsL_law := wt_4 (List.mem_of_getElem? (i := 111) rfl) rfl
theorem wm_309 : (Cond.code yX4_go cX4_go 2 (some .int)) ∈ wsL_law := wt_4 (List.mem_of_getElem? (i := 112) rfl) rfl
theorem wm_310 : (Cond.constantLong RX4 115 (60)) ∈ wsL_law := wt_4 (List.mem_of_getElem? (i := 113) rfl) rfl
theorem wm_311 : (Cond.constant RX4 117 (99999)) ∈ wsL_law := wt_4 (List.mem_of_getElem? (i := 114) rfl) rfl
theorem wm_312 : (Cond.constant RX4 118 (-1000005)) ∈ wsL_law := wt_4 (List.mem_of_getElem? (i := 115) rfl) rfl
theorem wm_313 : (Cond.methodLink RX4 119 yX4_goes) ∈ wsL_law := wt_4 (List.mem_of_getElem? (i := 116) rfl) rfl
theorem wm_314 : (Cond.instanceMethod yX4_goes) ∈ wsL_law := wt_4 (List.mem_of_getElem? (i := 118) rfl) rfl
theorem wm_315 : (Cond.selects RX4 yX4_goes yX4_goes) ∈ wsL_law := wsL_sel (List.mem_of_getElem? (i := 17) rfl) rfl
theorem wm_316 : (Cond.code yX4_goes cX4_goes 3 none) ∈ wsL_law := wt_4 (List.mem_of_getElem? (i := 119) rfl) rfl
theorem wm_317 : (Cond.methodLink RX4 111 yX4_yearBut) ∈ wsL_law := wt_4 (List.mem_of_getElem? (i := 120) rfl) rfl
theorem wm_318 : (Cond.instanceMethod yX4_yearBut) ∈ wsL_law := wt_4 (List.mem_of_getElem? (i := 122) rfl) rfl
theorem wm_319 : (Cond.selects RX4 yX4_yearBut yX4_yearBut) ∈ wsL_law := wsL_sel (List.mem_of_getElem? (i := 18) rfl) rfl
theorem wm_320 : (Cond.code yX4_yearBut cX4_yearBut 5 none) ∈ wsL_law := wt_4 (List.mem_of_getElem? (i := 123) rfl) rfl
theorem wm_321 : (Cond.methodLink RX4 108 yX4_isHidden) ∈ wsL_law := wt_4 (List.mem_of_getElem? (i := 124) rfl) rfl
theorem wm_322 : (Cond.instanceMethod yX4_isHidden) ∈ wsL_law := wt_4 (List.mem_of_getElem? (i := 126) rfl) rfl
theorem wm_323 : (Cond.selects RX4 yX4_isHidden yX4_isHidden) ∈ wsL_law := wsL_sel (List.mem_of_getElem? (i := 19) rfl) rfl
theorem wm_324 : (Cond.code yX4_isHidden cX4_isHidden 2 (some .boolean)) ∈ wsL_law := wt_4 (List.mem_of_getElem? (i := 127) rfl) rfl
theorem wm_325 : (Cond.methodLink RX4 122 yX4_sumOf) ∈ wsL_law := wt_4 (List.mem_of_getElem? (i := 128) rfl) rfl
theorem wm_326 : (Cond.instanceMethod yX4_sumOf) ∈ wsL_law := wt_4 (List.mem_of_getElem? (i := 130) rfl) rfl
theorem wm_327 : (Cond.selects RX4 yX4_sumOf yX4_sumOf) ∈ wsL_law := wsL_sel (List.mem_of_getElem? (i := 20) rfl) rfl
theorem wm_328 : (Cond.code yX4_sumOf cX4_sumOf 4 (some .int)) ∈ wsL_law := wt_4 (List.mem_of_getElem? (i := 131) rfl) rfl
theorem wm_329 : (Cond.methodLink RL 48 yX3_now) ∈ wsL_law := wt_2 (List.mem_of_getElem? (i := 51) rfl) rfl
theorem wm_330 : (Cond.instanceMethod yX3_now) ∈ wsL_law := wt_2 (List.mem_of_getElem? (i := 52) rfl) rfl
theorem wm_331 : (Cond.selects RX3 yX3_now yX3_now) ∈ wsL_law := wt_2 (List.mem_of_getElem? (i := 53) rfl) rfl
theorem wm_332 : (Cond.code yX3_now cX3_now 2 (some .int)) ∈ wsL_law := wt_2 (List.mem_of_getElem? (i := 54) rfl) rfl
theorem wm_333 : (Cond.fieldLink RX3 136 "OysterSecrets$Estuary" "shown" "[I") ∈ wsL_law := wt_1 (List.mem_of_getElem? (i := 45) rfl) rfl
theorem wm_334 : (Cond.methodLink RX3 123 yX0_toldSet) ∈ wsL_law := wt_2 (List.mem_of_getElem? (i := 55) rfl) rfl
theorem wm_335 : (Cond.instanceMethod yX0_toldSet) ∈ wsL_law := wt_2 (List.mem_of_getElem? (i := 56) rfl) rfl
theorem wm_336 : (Cond.selects RX0 yX0_toldSet yX0_toldSet) ∈ wsL_law := wt_2 (List.mem_of_getElem? (i := 57) rfl) rfl
theorem wm_337 : (Cond.code yX0_toldSet cX0_toldSet 3 (some .int)) ∈ wsL_law := wt_2 (List.mem_of_getElem? (i := 58) rfl) rfl
theorem wm_338 : (Cond.methodLink RX3 127 yX0_hiddenSet) ∈ wsL_law := wt_2 (List.mem_of_getElem? (i := 59) rfl) rfl
theorem wm_339 : (Cond.instanceMethod yX0_hiddenSet) ∈ wsL_law := wt_2 (List.mem_of_getElem? (i := 60) rfl) rfl
theorem wm_340 : (Cond.selects RX0 yX0_hiddenSet yX0_hiddenSet) ∈ wsL_law := wt_2 (List.mem_of_getElem? (i := 61) rfl) rfl
theorem wm_341 : (Cond.code yX0_hiddenSet cX0_hiddenSet 3 (some .int)) ∈ wsL_law := wt_2 (List.mem_of_getElem? (i := 62) rfl) rfl
theorem wm_342 : (Cond.methodLink RX3 130 yX0_nacreTogether) ∈ wsL_law := wt_2 (List.mem_of_getElem? (i := 63) rfl) rfl
theorem wm_343 : (Cond.instanceMethod yX0_nacreTogether) ∈ wsL_law := wt_2 (List.mem_of_getElem? (i := 64) rfl) rfl
theorem wm_344 : (Cond.selects RX0 yX0_nacreTogether yX0_nacreTogether) ∈ wsL_law := wt_2 (List.mem_of_getElem? (i := 65) rfl) rfl
theorem wm_345 : (Cond.code yX0_nacreTogether cX0_nacreTogether 3 (some .int)) ∈ wsL_law := wt_2 (List.mem_of_getElem? (i := 66) rfl) rfl
theorem wm_346 : (Cond.methodLink RX3 133 yX0_worthTogether) ∈ wsL_law := wt_2 (List.mem_of_getElem? (i := 67) rfl) rfl
theorem wm_347 : (Cond.instanceMethod yX0_worthTogether) ∈ wsL_law := wt_2 (List.mem_of_getElem? (i := 68) rfl) rfl
theorem wm_348 : (Cond.selects RX0 yX0_worthTogether yX0_worthTogether) ∈ wsL_law := wt_2 (List.mem_of_getElem? (i := 69) rfl) rfl
theorem wm_349 : (Cond.code yX0_worthTogether cX0_worthTogether 3 (some .int)) ∈ wsL_law := wt_2 (List.mem_of_getElem? (i := 70) rfl) rfl
theorem wm_350 : (Cond.methodLink RX0 103 yX0_worthOf) ∈ wsL_law := wt_2 (List.mem_of_getElem? (i := 71) rfl) rfl
theorem wm_351 : (Cond.methodLink RL 51 yX4_now) ∈ wsL_law := wt_4 (List.mem_of_getElem? (i := 132) rfl) rfl
theorem wm_352 : (Cond.instanceMethod yX4_now) ∈ wsL_law := wt_4 (List.mem_of_getElem? (i := 133) rfl) rfl
theorem wm_353 : (Cond.selects RX4 yX4_now yX4_now) ∈ wsL_law := wt_4 (List.mem_of_getElem? (i := 134) rfl) rfl
theorem wm_354 : (Cond.code yX4_now cX4_now 4 (some .int)) ∈ wsL_law := wt_4 (List.mem_of_getElem? (i := 135) rfl) rfl
theorem wm_355 : (Cond.methodLink RX4 125 yX4_toldOnes) ∈ wsL_law := wt_4 (List.mem_of_getElem? (i := 136) rfl) rfl
theorem wm_356 : (Cond.instanceMethod yX4_toldOnes) ∈ wsL_law := wt_4 (List.mem_of_getElem? (i := 138) rfl) rfl
theorem wm_357 : (Cond.selects RX4 yX4_toldOnes yX4_toldOnes) ∈ wsL_law := wsL_sel (List.mem_of_getElem? (i := 21) rfl) rfl
theorem wm_358 : (Cond.code yX4_toldOnes cX4_toldOnes 3 (some .int)) ∈ wsL_law := wt_4 (List.mem_of_getElem? (i := 139) rfl) rfl
theorem wm_359 : (Cond.methodLink RX4 129 yX4_hiddenOnes) ∈ wsL_law := wt_4 (List.mem_of_getElem? (i := 140) rfl) rfl
theorem wm_360 : (Cond.instanceMethod yX4_hiddenOnes) ∈ wsL_law := wt_4 (List.mem_of_getElem? (i := 142) rfl) rfl
theorem wm_361 : (Cond.selects RX4 yX4_hiddenOnes yX4_hiddenOnes) ∈ wsL_law := wsL_sel (List.mem_of_getElem? (i := 22) rfl) rfl
theorem wm_362 : (Cond.code yX4_hiddenOnes cX4_hiddenOnes 3 (some .int)) ∈ wsL_law := wt_4 (List.mem_of_getElem? (i := 143) rfl) rfl
theorem wm_363 : (Cond.methodLink RL 52 yX3_ahead) ∈ wsL_law := wt_2 (List.mem_of_getElem? (i := 72) rfl) rfl
theorem wm_364 : (Cond.instanceMethod yX3_ahead) ∈ wsL_law := wt_2 (List.mem_of_getElem? (i := 73) rfl) rfl
theorem wm_365 : (Cond.selects RX3 yX3_ahead yX3_ahead) ∈ wsL_law := wt_2 (List.mem_of_getElem? (i := 74) rfl) rfl
theorem wm_366 : (Cond.code yX3_ahead cX3_ahead 5 (some .int)) ∈ wsL_law := wt_2 (List.mem_of_getElem? (i := 75) rfl) rfl
theorem wm_367 : (Cond.methodLink RX3 139 yX0_copyFrom) ∈ wsL_law := wt_2 (List.mem_of_getElem? (i := 76) rfl) rfl
theorem wm_368 : (Cond.instanceMethod yX0_copyFrom) ∈ wsL_law := wt_2 (List.mem_of_getElem? (i := 77) rfl) rfl
theorem wm_369 : (Cond.selects RX0 yX0_copyFrom yX0_copyFrom) ∈ wsL_law := wt_2 (List.mem_of_getElem? (i := 78) rfl) rfl
theorem wm_370 : (Cond.code yX0_copyFrom cX0_copyFrom 2 none) ∈ wsL_law := wt_2 (List.mem_of_getElem? (i := 79) rfl) rfl
theorem wm_371 : (Cond.methodLink RX0 55 arraycopyName) ∈ wsL_law := wt_2 (List.mem_of_getElem? (i := 80) rfl) rfl
theorem wm_372 : (Cond.native arraycopyName) ∈ wsL_law := wt_2 (List.mem_of_getElem? (i := 82) rfl) rfl
theorem wm_373 : (Cond.static arraycopyName) ∈ wsL_law := wt_2 (List.mem_of_getElem? (i := 81) rfl) rfl
theorem wm_374 : (Cond.initialized "java/lang/System") ∈ wsL_law := wt_1 (List.mem_of_getElem? (i := 7) rfl) rfl
theorem wm_375 : (Cond.methodLink RL 55 yX4_ahead) ∈ wsL_law := wt_4 (List.mem_of_getElem? (i := 144) rfl) rfl
theorem wm_376 : (Cond.instanceMethod yX4_ahead) ∈ wsL_law := wt_4 (List.mem_of_getElem? (i := 145) rfl) rfl
theorem wm_377 : (Cond.selects RX4 yX4_ahead yX4_ahead) ∈ wsL_law := wt_4 (List.mem_of_getElem? (i := 146) rfl) rfl
theorem wm_378 : (Cond.code yX4_ahead cX4_ahead 5 (some .int)) ∈ wsL_law := wt_4 (List.mem_of_getElem? (i := 147) rfl) rfl
theorem wm_379 : (Cond.constantLong RX4 136 (100)) ∈ wsL_law := wt_4 (List.mem_of_getElem? (i := 148) rfl) rfl
theorem wm_380 : (Cond.methodLink RX4 138 yX4_then) ∈ wsL_law := wt_4 (List.mem_of_getElem? (i := 149) rfl) rfl
theorem wm_381 : (Cond.instanceMethod yX4_then) ∈ wsL_law := wt_4 (List.mem_of_getElem? (i := 151) rfl) rfl
theorem wm_382 : (Cond.selects RX4 yX4_then yX4_then) ∈ wsL_law := wsL_sel (List.mem_of_getElem? (i := 23) rfl) rfl
theorem wm_383 : (Cond.code yX4_then cX4_then 5 (some .int)) ∈ wsL_law := wt_4 (List.mem_of_getElem? (i := 152) rfl) rfl
theorem wm_384 : (Cond.methodLink RX4 132 yX4_copyRow) ∈ wsL_law := wt_4 (List.mem_of_getElem? (i := 153) rfl) rfl
theorem wm_385 : (Cond.static yX4_copyRow) ∈ wsL_law := wt_4 (List.mem_of_getElem? (i := 154) rfl) rfl
theorem wm_386 : (Cond.code yX4_copyRow cX4_copyRow 3 none) ∈ wsL_law := wt_4 (List.mem_of_getElem? (i := 155) rfl) rfl
theorem wm_387 : (Cond.methodLink RL 56 yX3_worth) ∈ wsL_law := wt_2 (List.mem_of_getElem? (i := 83) rfl) rfl
theorem wm_388 : (Cond.instanceMethod yX3_worth) ∈ wsL_law := wt_2 (List.mem_of_getElem? (i := 84) rfl) rfl
theorem wm_389 : (Cond.selects RX3 yX3_worth yX3_worth) ∈ wsL_law := wt_2 (List.mem_of_getElem? (i := 85) rfl) rfl
theorem wm_390 : (Cond.code yX3_worth cX3_worth 3 (some .int)) ∈ wsL_law := wt_2 (List.mem_of_getElem? (i := 86) rfl) rfl
theorem wm_391 : (Cond.methodLink RL 59 yX4_worth) ∈ wsL_law := wt_4 (List.mem_of_getElem? (i := 156) rfl) rfl
theorem wm_392 : (Cond.instanceMethod yX4_worth) ∈ wsL_law := wt_4 (List.mem_of_getElem? (i := 157) rfl) rfl
theorem wm_393 : (Cond.selects RX4 yX4_worth yX4_worth) ∈ wsL_law := wt_4 (List.mem_of_getElem? (i := 158) rfl) rfl
theorem wm_394 : (Cond.code yX4_worth cX4_worth 3 (some .int)) ∈ wsL_law := wt_4 (List.mem_of_getElem? (i := 159) rfl) rfl
theorem wm_395 : (Cond.methodLink RL 60 yX3_hidden) ∈ wsL_law := wt_2 (List.mem_of_getElem? (i := 87) rfl) rfl
theorem wm_396 : (Cond.instanceMethod yX3_hidden) ∈ wsL_law := wt_2 (List.mem_of_getElem? (i := 88) rfl) rfl
theorem wm_397 : (Cond.selects RX3 yX3_hidden yX3_hidden) ∈ wsL_law := wt_2 (List.mem_of_getElem? (i := 89) rfl) rfl
theorem wm_398 : (Cond.code yX3_hidden cX3_hidden 3 (some .int)) ∈ wsL_law := wt_2 (List.mem_of_getElem? (i := 90) rfl) rfl
theorem wm_399 : (Cond.methodLink RX3 143 yX0_isHidden) ∈ wsL_law := wt_2 (List.mem_of_getElem? (i := 91) rfl) rfl
theorem wm_400 : (Cond.methodLink RX3 146 yX0_passYear) ∈ wsL_law := wt_2 (List.mem_of_getElem? (i := 92) rfl) rfl
theorem wm_401 : (Cond.methodLink RL 63 yX4_hidden) ∈ wsL_law := wt_4 (List.mem_of_getElem? (i := 160) rfl) rfl
theorem wm_402 : (Cond.instanceMethod yX4_hidden) ∈ wsL_law := wt_4 (List.mem_of_getElem? (i := 161) rfl) rfl
theorem wm_403 : (Cond.selects RX4 yX4_hidden yX4_hidden) ∈ wsL_law := wt_4 (List.mem_of_getElem? (i := 162) rfl) rfl
theorem wm_404 : (Cond.code yX4_hidden cX4_hidden 3 (some .int)) ∈ wsL_law := wt_4 (List.mem_of_getElem? (i := 163) rfl) rfl
theorem wm_405 : (Cond.constant RX4 41 (-1000004)) ∈ wsL_law := wt_4 (List.mem_of_getElem? (i := 164) rfl) rfl
theorem wm_406 : (Cond.methodLink RL 64 yX3_told) ∈ wsL_law := wt_2 (List.mem_of_getElem? (i := 93) rfl) rfl
theorem wm_407 : (Cond.instanceMethod yX3_told) ∈ wsL_law := wt_2 (List.mem_of_getElem? (i := 94) rfl) rfl
theorem wm_408 : (Cond.selects RX3 yX3_told yX3_told) ∈ wsL_law := wt_2 (List.mem_of_getElem? (i := 95) rfl) rfl
theorem wm_409 : (Cond.code yX3_told cX3_told 3 (some .int)) ∈ wsL_law := wt_2 (List.mem_of_getElem? (i := 96) rfl) rfl
theorem wm_410 : (Cond.methodLink RX3 149 yX0_isTold) ∈ wsL_law := wt_2 (List.mem_of_getElem? (i := 97) rfl) rfl
theorem wm_411 : (Cond.methodLink RL 67 yX4_told) ∈ wsL_law := wt_4 (List.mem_of_getElem? (i := 165) rfl) rfl
theorem wm_412 : (Cond.instanceMethod yX4_told) ∈ wsL_law := wt_4 (List.mem_of_getElem? (i := 166) rfl) rfl
theorem wm_413 : (Cond.selects RX4 yX4_told yX4_told) ∈ wsL_law := wt_4 (List.mem_of_getElem? (i := 167) rfl) rfl
theorem wm_414 : (Cond.code yX4_told cX4_told 3 (some .int)) ∈ wsL_law := wt_4 (List.mem_of_getElem? (i := 168) rfl) rfl
theorem wm_415 : (Cond.methodLink RL 68 yX3_dive) ∈ wsL_law := wt_2 (List.mem_of_getElem? (i := 98) rfl) rfl
theorem wm_416 : (Cond.instanceMethod yX3_dive) ∈ wsL_law := wt_2 (List.mem_of_getElem? (i := 99) rfl) rfl
theorem wm_417 : (Cond.selects RX3 yX3_dive yX3_dive) ∈ wsL_law := wt_2 (List.mem_of_getElem? (i := 100) rfl) rfl
theorem wm_418 : (Cond.code yX3_dive cX3_dive 6 (some .int)) ∈ wsL_law := wt_2 (List.mem_of_getElem? (i := 101) rfl) rfl
theorem wm_419 : (Cond.methodLink RL 71 yX4_dive) ∈ wsL_law := wt_4 (List.mem_of_getElem? (i := 169) rfl) rfl
theorem wm_420 : (Cond.instanceMethod yX4_dive) ∈ wsL_law := wt_4 (List.mem_of_getElem? (i := 170) rfl) rfl
theorem wm_421 : (Cond.selects RX4 yX4_dive yX4_dive) ∈ wsL_law := wt_4 (List.mem_of_getElem? (i := 171) rfl) rfl
theorem wm_422 : (Cond.code yX4_dive cX4_dive 5 (some .int)) ∈ wsL_law := wt_4 (List.mem_of_getElem? (i := 172) rfl) rfl
theorem wm_423 : (Cond.methodLink RL 72 yX3_sow) ∈ wsL_law := wt_2 (List.mem_of_getElem? (i := 102) rfl) rfl
theorem wm_424 : (Cond.instanceMethod yX3_sow) ∈ wsL_law := wt_2 (List.mem_of_getElem? (i := 103) rfl) rfl
theorem wm_425 : (Cond.selects RX3 yX3_sow yX3_sow) ∈ wsL_law := wt_2 (List.mem_of_getElem? (i := 104) rfl) rfl
theorem wm_426 : (Cond.code yX3_sow cX3_sow 6 (some .int)) ∈ wsL_law := wt_2 (List.mem_of_getElem? (i := 105) rfl) rfl
theorem wm_427 : (Cond.fieldLink RX3 152 "OysterSecrets$Estuary" "home" "[I") ∈ wsL_law := wt_1 (List.mem_of_getElem? (i := 36) rfl) rfl
theorem wm_428 : (Cond.methodLink RL 75 yX4_sow) ∈ wsL_law := wt_4 (List.mem_of_getElem? (i := 173) rfl) rfl
theorem wm_429 : (Cond.instanceMethod yX4_sow) ∈ wsL_law := wt_4 (List.mem_of_getElem? (i := 174) rfl) rfl
theorem wm_430 : (Cond.selects RX4 yX4_sow yX4_sow) ∈ wsL_law := wt_4 (List.mem_of_getElem? (i := 175) rfl) rfl
theorem wm_431 : (Cond.code yX4_sow cX4_sow 3 (some .int)) ∈ wsL_law := wt_4 (List.mem_of_getElem? (i := 176) rfl) rfl
theorem wm_432 : (Cond.methodLink RX4 144 yX4_isAsked) ∈ wsL_law := wt_4 (List.mem_of_getElem? (i := 177) rfl) rfl
theorem wm_433 : (Cond.instanceMethod yX4_isAsked) ∈ wsL_law := wt_4 (List.mem_of_getElem? (i := 179) rfl) rfl
theorem wm_434 : (Cond.selects RX4 yX4_isAsked yX4_isAsked) ∈ wsL_law := wsL_sel (List.mem_of_getElem? (i := 24) rfl) rfl
theorem wm_435 : (Cond.code yX4_isAsked cX4_isAsked 3 (some .boolean)) ∈ wsL_law := wt_4 (List.mem_of_getElem? (i := 180) rfl) rfl
theorem wm_436 : (Cond.constantLong RX4 142 (40)) ∈ wsL_law := wt_4 (List.mem_of_getElem? (i := 181) rfl) rfl
theorem wm_437 : (Cond.methodLink RX4 148 yX4_bestBy) ∈ wsL_law := wt_4 (List.mem_of_getElem? (i := 182) rfl) rfl
theorem wm_438 : (Cond.instanceMethod yX4_bestBy) ∈ wsL_law := wt_4 (List.mem_of_getElem? (i := 184) rfl) rfl
theorem wm_439 : (Cond.selects RX4 yX4_bestBy yX4_bestBy) ∈ wsL_law := wsL_sel (List.mem_of_getElem? (i := 25) rfl) rfl
theorem wm_440 : (Cond.code yX4_bestBy cX4_bestBy 10 (some .int)) ∈ wsL_law := wt_4 (List.mem_of_getElem? (i := 185) rfl) rfl
theorem wm_441 : (Cond.methodLink RL 76 yX3_kindFor) ∈ wsL_law := wt_2 (List.mem_of_getElem? (i := 106) rfl) rfl
theorem wm_442 : (Cond.instanceMethod yX3_kindFor) ∈ wsL_law := wt_2 (List.mem_of_getElem? (i := 107) rfl) rfl
theorem wm_443 : (Cond.selects RX3 yX3_kindFor yX3_kindFor) ∈ wsL_law := wt_2 (List.mem_of_getElem? (i := 108) rfl) rfl
theorem wm_444 : (Cond.code yX3_kindFor cX3_kindFor 7 (some .int)) ∈ wsL_law := wt_2 (List.mem_of_getElem? (i := 109) rfl) rfl
theorem wm_445 : (Cond.fieldLink RX3 155 "OysterSecrets$Estuary" "kind" "[I") ∈ wsL_law := wt_1 (List.mem_of_getElem? (i := 34) rfl) rfl
theorem wm_446 : (Cond.methodLink RL 79 yX4_kindFor) ∈ wsL_law := wt_4 (List.mem_of_getElem? (i := 186) rfl) rfl
theorem wm_447 : (Cond.instanceMethod yX4_kindFor) ∈ wsL_law := wt_4 (List.mem_of_getElem? (i := 187) rfl) rfl
theorem wm_448 : (Cond.selects RX4 yX4_kindFor yX4_kindFor) ∈ wsL_law := wt_4 (List.mem_of_getElem? (i := 188) rfl) rfl
theorem wm_449 : (Cond.code yX4_kindFor cX4_kindFor 3 (some .int)) ∈ wsL_law := wt_4 (List.mem_of_getElem? (i := 189) rfl) rfl
theorem wm_450 : (Cond.methodLink RL 80 yX3_weightFor) ∈ wsL_law := wt_2 (List.mem_of_getElem? (i := 110) rfl) rfl
theorem wm_451 : (Cond.instanceMethod yX3_weightFor) ∈ wsL_law := wt_2 (List.mem_of_getElem? (i := 111) rfl) rfl
theorem wm_452 : (Cond.selects RX3 yX3_weightFor yX3_weightFor) ∈ wsL_law := wt_2 (List.mem_of_getElem? (i := 112) rfl) rfl
theorem wm_453 : (Cond.code yX3_weightFor cX3_weightFor 4 (some .int)) ∈ wsL_law := wt_2 (List.mem_of_getElem? (i := 113) rfl) rfl
theorem wm_454 : (Cond.fieldLink RX3 158 "OysterSecrets$Estuary" "weight" "[I") ∈ wsL_law := wt_1 (List.mem_of_getElem? (i := 39) rfl) rfl
theorem wm_455 : (Cond.methodLink RL 83 yX4_weightFor) ∈ wsL_law := wt_4 (List.mem_of_getElem? (i := 190) rfl) rfl
theorem wm_456 : (Cond.instanceMethod yX4_weightFor) ∈ wsL_law := wt_4 (List.mem_of_getElem? (i := 191) rfl) rfl
theorem wm_457 : (Cond.selects RX4 yX4_weightFor yX4_weightFor) ∈ wsL_law := wt_4 (List.mem_of_getElem? (i := 192) rfl) rfl
theorem wm_458 : (Cond.code yX4_weightFor cX4_weightFor 6 (some .int)) ∈ wsL_law := wt_4 (List.mem_of_getElem? (i := 193) rfl) rfl
theorem wm_459 : (Cond.methodLink RX4 152 yX4_isHiddenThen) ∈ wsL_law := wt_4 (List.mem_of_getElem? (i := 194) rfl) rfl
theorem wm_460 : (Cond.instanceMethod yX4_isHiddenThen) ∈ wsL_law := wt_4 (List.mem_of_getElem? (i := 196) rfl) rfl
theorem wm_461 : (Cond.selects RX4 yX4_isHiddenThen yX4_isHiddenThen) ∈ wsL_law := wsL_sel (List.mem_of_getElem? (i := 26) rfl) rfl
theorem wm_462 : (Cond.code yX4_isHiddenThen cX4_isHiddenThen 4 (some .boolean)) ∈ wsL_law := wt_4 (List.mem_of_getElem? (i := 197) rfl) rfl
theorem wm_463 : (Cond.methodLink RX4 155 yX4_orNone) ∈ wsL_law := wt_4 (List.mem_of_getElem? (i := 198) rfl) rfl
theorem wm_464 : (Cond.instanceMethod yX4_orNone) ∈ wsL_law := wt_4 (List.mem_of_getElem? (i := 200) rfl) rfl
theorem wm_465 : (Cond.selects RX4 yX4_orNone yX4_orNone) ∈ wsL_law := wsL_sel (List.mem_of_getElem? (i := 27) rfl) rfl
theorem wm_466 : (Cond.code yX4_orNone cX4_orNone 2 (some .int)) ∈ wsL_law := wt_4 (List.mem_of_getElem? (i := 201) rfl) rfl
theorem wm_467 : (Cond.methodLink RL 84 yX3_comesFor) ∈ wsL_law := wt_2 (List.mem_of_getElem? (i := 114) rfl) rfl
theorem wm_468 : (Cond.instanceMethod yX3_comesFor) ∈ wsL_law := wt_2 (List.mem_of_getElem? (i := 115) rfl) rfl
theorem wm_469 : (Cond.selects RX3 yX3_comesFor yX3_comesFor) ∈ wsL_law := wt_2 (List.mem_of_getElem? (i := 116) rfl) rfl
theorem wm_470 : (Cond.code yX3_comesFor cX3_comesFor 4 (some .int)) ∈ wsL_law := wt_2 (List.mem_of_getElem? (i := 117) rfl) rfl
theorem wm_471 : (Cond.methodLink RL 87 yX4_comesFor) ∈ wsL_law := wt_4 (List.mem_of_getElem? (i := 202) rfl) rfl
theorem wm_472 : (Cond.instanceMethod yX4_comesFor) ∈ wsL_law := wt_4 (List.mem_of_getElem? (i := 203) rfl) rfl
theorem wm_473 : (Cond.selects RX4 yX4_comesFor yX4_comesFor) ∈ wsL_law := wt_4 (List.mem_of_getElem? (i := 204) rfl) rfl
theorem wm_474 : (Cond.code yX4_comesFor cX4_comesFor 6 (some .int)) ∈ wsL_law := wt_4 (List.mem_of_getElem? (i := 205) rfl) rfl
theorem wm_475 : (Cond.methodLink RL 88 yX3_coldFor) ∈ wsL_law := wt_2 (List.mem_of_getElem? (i := 118) rfl) rfl
theorem wm_476 : (Cond.instanceMethod yX3_coldFor) ∈ wsL_law := wt_2 (List.mem_of_getElem? (i := 119) rfl) rfl
theorem wm_477 : (Cond.selects RX3 yX3_coldFor yX3_coldFor) ∈ wsL_law := wt_2 (List.mem_of_getElem? (i := 120) rfl) rfl
theorem wm_478 : (Cond.code yX3_coldFor cX3_coldFor 4 (some .int)) ∈ wsL_law := wt_2 (List.mem_of_getElem? (i := 121) rfl) rfl
theorem wm_479 : (Cond.methodLink RL 91 yX4_coldFor) ∈ wsL_law := wt_4 (List.mem_of_getElem? (i := 206) rfl) rfl
theorem wm_480 : (Cond.instanceMethod yX4_coldFor) ∈ wsL_law := wt_4 (List.mem_of_getElem? (i := 207) rfl) rfl
theorem wm_481 : (Cond.selects RX4 yX4_coldFor yX4_coldFor) ∈ wsL_law := wt_4 (List.mem_of_getElem? (i := 208) rfl) rfl
theorem wm_482 : (Cond.code yX4_coldFor cX4_coldFor 7 (some .int)) ∈ wsL_law := wt_4 (List.mem_of_getElem? (i := 209) rfl) rfl
theorem wm_483 : (Cond.methodLink RL 92 yX3_room) ∈ wsL_law := wt_2 (List.mem_of_getElem? (i := 122) rfl) rfl
theorem wm_484 : (Cond.instanceMethod yX3_room) ∈ wsL_law := wt_2 (List.mem_of_getElem? (i := 123) rfl) rfl
theorem wm_485 : (Cond.selects RX3 yX3_room yX3_room) ∈ wsL_law := wt_2 (List.mem_of_getElem? (i := 124) rfl) rfl
theorem wm_486 : (Cond.code yX3_room cX3_room 9 (some .int)) ∈ wsL_law := wt_2 (List.mem_of_getElem? (i := 125) rfl) rfl
theorem wm_487 : (Cond.methodLink RX3 164 yJ6_bitCount_0f7a4) ∈ wsL_law := wt_2 (List.mem_of_getElem? (i := 126) rfl) rfl
theorem wm_488 : (Cond.static yJ6_bitCount_0f7a4) ∈ wsL_law := wt_2 (List.mem_of_getElem? (i := 127) rfl) rfl
theorem wm_489 : (Cond.initialized RJ6) ∈ wsL_law := wt_1 (List.mem_of_getElem? (i := 8) rfl) rfl
theorem wm_490 : (Cond.code yJ6_bitCount_0f7a4 cJ6_bitCount_0f7a4 1 (some .int)) ∈ wsL_law := wt_2 (List.mem_of_getElem? (i := 128) rfl) rfl
theorem wm_491 : (Cond.constant RJ6 265 (1431655765)) ∈ wsL_law := wt_2 (List.mem_of_getElem? (i := 129) rfl) rfl
theorem wm_492 : (Cond.constant RJ6 266 (858993459)) ∈ wsL_law := wt_2 (List.mem_of_getElem? (i := 130) rfl) rfl
theorem wm_493 : (Cond.constant RJ6 267 (252645135)) ∈ wsL_law := wt_2 (List.mem_of_getElem? (i := 131) rfl) rfl
theorem wm_494 : (Cond.methodLink RX3 169 yX3_growsWithout) ∈ wsL_law := wt_2 (List.mem_of_getElem? (i := 132) rfl) rfl
theorem wm_495 : (Cond.instanceMethod yX3_growsWithout) ∈ wsL_law := wt_2 (List.mem_of_getElem? (i := 134) rfl) rfl
theorem wm_496 : (Cond.selects RX3 yX3_growsWithout yX3_growsWithout) ∈ wsL_law := wsL_sel (List.mem_of_getElem? (i := 2) rfl) rfl
theorem wm_497 : (Cond.code yX3_growsWithout cX3_growsWithout 5 (some .boolean)) ∈ wsL_law := wt_2 (List.mem_of_getElem? (i := 135) rfl) rfl
theorem wm_498 : (Cond.fieldLink RX3 173 "OysterSecrets$Estuary" "takenUp" "I") ∈ wsL_law := wt_1 (List.mem_of_getElem? (i := 58) rfl) rfl
theorem wm_499 : (Cond.methodLink RL 95 yX4_room) ∈ wsL_law := wt_4 (List.mem_of_getElem? (i := 210) rfl) rfl
theorem wm_500 : (Cond.instanceMethod yX4_room) ∈ wsL_law := wt_4 (List.mem_of_getElem? (i := 211) rfl) rfl
theorem wm_501 : (Cond.selects RX4 yX4_room yX4_room) ∈ wsL_law := wt_4 (List.mem_of_getElem? (i := 212) rfl) rfl
theorem wm_502 : (Cond.code yX4_room cX4_room 7 (some .int)) ∈ wsL_law := wt_4 (List.mem_of_getElem? (i := 213) rfl) rfl
theorem wm_503 : (Cond.constantLong RX4 158 (20)) ∈ wsL_law := wt_4 (List.mem_of_getElem? (i := 214) rfl) rfl
theorem wm_504 : (Cond.methodLink RX4 160 yX4_many) ∈ wsL_law := wt_4 (List.mem_of_getElem? (i := 215) rfl) rfl
theorem wm_505 : (Cond.static yX4_many) ∈ wsL_law := wt_4 (List.mem_of_getElem? (i := 216) rfl) rfl
theorem wm_506 : (Cond.code yX4_many cX4_many 3 (some .int)) ∈ wsL_law := wt_4 (List.mem_of_getElem? (i := 217) rfl) rfl
theorem wm_507 : (Cond.methodLink RL 96 yX3_alike) ∈ wsL_law := wt_2 (List.mem_of_getElem? (i := 136) rfl) rfl
theorem wm_508 : (Cond.instanceMethod yX3_alike) ∈ wsL_law := wt_2 (List.mem_of_getElem? (i := 137) rfl) rfl
theorem wm_509 : (Cond.selects RX3 yX3_alike yX3_alike) ∈ wsL_law := wt_2 (List.mem_of_getElem? (i := 138) rfl) rfl
theorem wm_510 : (Cond.code yX3_alike cX3_alike 5 (some .int)) ∈ wsL_law := wt_2 (List.mem_of_getElem? (i := 139) rfl) rfl
theorem wm_511 : (Cond.methodLink RX3 176 Lib.Math.abs.name) ∈ wsL_law := wt_2 (List.mem_of_getElem? (i := 140) rfl) rfl
theorem wm_512 : (Cond.static Lib.Math.abs.name) ∈ wsL_law := wt_2 (List.mem_of_getElem? (i := 141) rfl) rfl
theorem wm_513 : (Cond.code Lib.Math.abs.name Lib.Math.abs.code 1 (some .int)) ∈ wsL_law := wt_2 (List.mem_of_getElem? (i := 142) rfl) rfl
theorem wm_514 : (Cond.methodLink RL 99 yX4_alike) ∈ wsL_law := wt_4 (List.mem_of_getElem? (i := 218) rfl) rfl
theorem wm_515 : (Cond.instanceMethod yX4_alike) ∈ wsL_law := wt_4 (List.mem_of_getElem? (i := 219) rfl) rfl
theorem wm_516 : (Cond.selects RX4 yX4_alike yX4_alike) ∈ wsL_law := wt_4 (List.mem_of_getElem? (i := 220) rfl) rfl
theorem wm_517 : (Cond.code yX4_alike cX4_alike 5 (some .int)) ∈ wsL_law := wt_4 (List.mem_of_getElem? (i := 221) rfl) rfl
theorem wm_518 : (Cond.methodLink RL 100 yX3_string) ∈ wsL_law := wt_2 (List.mem_of_getElem? (i := 143) rfl) rfl
theorem wm_519 : (Cond.instanceMethod yX3_string) ∈ wsL_law := wt_2 (List.mem_of_getElem? (i := 144) rfl) rfl
theorem wm_520 : (Cond.selects RX3 yX3_string yX3_string) ∈ wsL_law := wt_2 (List.mem_of_getElem? (i := 145) rfl) rfl
theorem wm_521 : (Cond.code yX3_string cX3_string 6 (some .int)) ∈ wsL_law := wt_2 (List.mem_of_getElem? (i := 146) rfl) rfl
theorem wm_522 : (Cond.methodLink RX3 184 Lib.Math.max.name) ∈ wsL_law := wt_2 (List.mem_of_getElem? (i := 151) rfl) rfl
theorem wm_523 : (Cond.methodLink RX3 181 yX3_sortLayers) ∈ wsL_law := wt_2 (List.mem_of_getElem? (i := 147) rfl) rfl
theorem wm_524 : (Cond.instanceMethod yX3_sortLayers) ∈ wsL_law := wt_2 (List.mem_of_getElem? (i := 149) rfl) rfl
theorem wm_525 : (Cond.selects RX3 yX3_sortLayers yX3_sortLayers) ∈ wsL_law := wsL_sel (List.mem_of_getElem? (i := 3) rfl) rfl
theorem wm_526 : (Cond.code yX3_sortLayers cX3_sortLayers 4 none) ∈ wsL_law := wt_2 (List.mem_of_getElem? (i := 150) rfl) rfl
theorem wm_527 : (Cond.methodLink RL 103 yX4_string) ∈ wsL_law := wt_4 (List.mem_of_getElem? (i := 222) rfl) rfl
theorem wm_528 : (Cond.instanceMethod yX4_string) ∈ wsL_law := wt_4 (List.mem_of_getElem? (i := 223) rfl) rfl
theorem wm_529 : (Cond.selects RX4 yX4_string yX4_string) ∈ wsL_law := wt_4 (List.mem_of_getElem? (i := 224) rfl) rfl
theorem wm_530 : (Cond.code yX4_string cX4_string 5 (some .int)) ∈ wsL_law := wt_4 (List.mem_of_getElem? (i := 225) rfl) rfl
theorem wm_531 : (Cond.methodLink RX4 163 yX4_lines) ∈ wsL_law := wt_4 (List.mem_of_getElem? (i := 226) rfl) rfl
theorem wm_532 : (Cond.instanceMethod yX4_lines) ∈ wsL_law := wt_4 (List.mem_of_getElem? (i := 228) rfl) rfl
theorem wm_533 : (Cond.selects RX4 yX4_lines yX4_lines) ∈ wsL_law := wsL_sel (List.mem_of_getElem? (i := 28) rfl) rfl
theorem wm_534 : (Cond.code yX4_lines cX4_lines 4 none) ∈ wsL_law := wt_4 (List.mem_of_getElem? (i := 229) rfl) rfl
theorem wm_535 : (Cond.methodLink RL 104 yX3_pairs) ∈ wsL_law := wt_2 (List.mem_of_getElem? (i := 152) rfl) rfl
theorem wm_536 : (Cond.instanceMethod yX3_pairs) ∈ wsL_law := wt_2 (List.mem_of_getElem? (i := 153) rfl) rfl
theorem wm_537 : (Cond.selects RX3 yX3_pairs yX3_pairs) ∈ wsL_law := wt_2 (List.mem_of_getElem? (i := 154) rfl) rfl
theorem wm_538 : (Cond.code yX3_pairs cX3_pairs 5 (some .int)) ∈ wsL_law := wt_2 (List.mem_of_getElem? (i := 155) rfl) rfl
theorem wm_539 : (Cond.methodLink RL 107 yX4_pairs) ∈ wsL_law := wt_4 (List.mem_of_getElem? (i := 230) rfl) rfl
theorem wm_540 : (Cond.instanceMethod yX4_pairs) ∈ wsL_law := wt_4 (List.mem_of_getElem? (i := 231) rfl) rfl
theorem wm_541 : (Cond.selects RX4 yX4_pairs yX4_pairs) ∈ wsL_law := wt_4 (List.mem_of_getElem? (i := 232) rfl) rfl
theorem wm_542 : (Cond.code yX4_pairs cX4_pairs 5 (some .int)) ∈ wsL_law := wt_4 (List.mem_of_getElem? (i := 233) rfl) rfl
theorem wm_543 : (Cond.methodLink RL 108 yX3_match) ∈ wsL_law := wt_2 (List.mem_of_getElem? (i := 156) rfl) rfl
theorem wm_544 : (Cond.instanceMethod yX3_match) ∈ wsL_law := wt_2 (List.mem_of_getElem? (i := 157) rfl) rfl
theorem wm_545 : (Cond.selects RX3 yX3_match yX3_match) ∈ wsL_law := wt_2 (List.mem_of_getElem? (i := 158) rfl) rfl
theorem wm_546 : (Cond.code yX3_match cX3_match 3 (some .int)) ∈ wsL_law := wt_2 (List.mem_of_getElem? (i := 159) rfl) rfl
theorem wm_547 : (Cond.methodLink RL 112 yX4_match) ∈ wsL_law := wt_4 (List.mem_of_getElem? (i := 234) rfl) rfl
theorem wm_548 : (Cond.instanceMethod yX4_match) ∈ wsL_law := wt_4 (List.mem_of_getElem? (i := 235) rfl) rfl
theorem wm_549 : (Cond.selects RX4 yX4_match yX4_match) ∈ wsL_law := wt_4 (List.mem_of_getElem? (i := 236) rfl) rfl
theorem wm_550 : (Cond.code yX4_match cX4_match 3 (some .int)) ∈ wsL_law := wt_4 (List.mem_of_getElem? (i := 237) rfl) rfl
theorem wm_551 : (Cond.methodLink RL 113 yX3_fits) ∈ wsL_law := wt_2 (List.mem_of_getElem? (i := 160) rfl) rfl
theorem wm_552 : (Cond.instanceMethod yX3_fits) ∈ wsL_law := wt_2 (List.mem_of_getElem? (i := 161) rfl) rfl
theorem wm_553 : (Cond.selects RX3 yX3_fits yX3_fits) ∈ wsL_law := wt_2 (List.mem_of_getElem? (i := 162) rfl) rfl
theorem wm_554 : (Cond.code yX3_fits cX3_fits 6 (some .int)) ∈ wsL_law := wt_2 (List.mem_of_getElem? (i := 163) rfl) rfl
theorem wm_555 : (Cond.methodLink RX3 187 yX3_faultOfTelling) ∈ wsL_law := wt_2 (List.mem_of_getElem? (i := 164) rfl) rfl
theorem wm_556 : (Cond.instanceMethod yX3_faultOfTelling) ∈ wsL_law := wt_2 (List.mem_of_getElem? (i := 166) rfl) rfl
theorem wm_557 : (Cond.selects RX3 yX3_faultOfTelling yX3_faultOfTelling) ∈ wsL_law := wsL_sel (List.mem_of_getElem? (i := 4) rfl) rfl
theorem wm_558 : (Cond.code yX3_faultOfTelling cX3_faultOfTelling 3 (some .int)) ∈ wsL_law := wt_2 (List.mem_of_getElem? (i := 167) rfl) rfl
theorem wm_559 : (Cond.methodLink RX3 198 yX3_isSheet) ∈ wsL_law := wt_2 (List.mem_of_getElem? (i := 168) rfl) rfl
theorem wm_560 : (Cond.static yX3_isSheet) ∈ wsL_law := wt_2 (List.mem_of_getElem? (i := 169) rfl) rfl
theorem wm_561 : (Cond.code yX3_isSheet cX3_isSheet 1 (some .boolean)) ∈ wsL_law := wt_2 (List.mem_of_getElem? (i := 170) rfl) rfl
theorem wm_562 : (Cond.methodLink RX3 201 yX1_isMissing) ∈ wsL_law := wt_2 (List.mem_of_getElem? (i := 171) rfl) rfl
theorem wm_563 : (Cond.instanceMethod yX1_isMissing) ∈ wsL_law := wt_2 (List.mem_of_getElem? (i := 172) rfl) rfl
theorem wm_564 : (Cond.selects RX1 yX1_isMissing yX1_isMissing) ∈ wsL_law := wt_2 (List.mem_of_getElem? (i := 173) rfl) rfl
theorem wm_565 : (Cond.code yX1_isMissing cX1_isMissing 1 (some .boolean)) ∈ wsL_law := wt_2 (List.mem_of_getElem? (i := 174) rfl) rfl
theorem wm_566 : (Cond.methodLink RX3 190 yX3_fitsWeight) ∈ wsL_law := wt_2 (List.mem_of_getElem? (i := 175) rfl) rfl
theorem wm_567 : (Cond.instanceMethod yX3_fitsWeight) ∈ wsL_law := wt_2 (List.mem_of_getElem? (i := 177) rfl) rfl
theorem wm_568 : (Cond.selects RX3 yX3_fitsWeight yX3_fitsWeight) ∈ wsL_law := wsL_sel (List.mem_of_getElem? (i := 5) rfl) rfl
theorem wm_569 : (Cond.code yX3_fitsWeight cX3_fitsWeight 4 (some .boolean)) ∈ wsL_law := wt_2 (List.mem_of_getElem? (i := 178) rfl) rfl
theorem wm_570 : (Cond.methodLink RX3 194 yX3_trialGrowsAs) ∈ wsL_law := wt_2 (List.mem_of_getElem? (i := 179) rfl) rfl
theorem wm_571 : (Cond.instanceMethod yX3_trialGrowsAs) ∈ wsL_law := wt_2 (List.mem_of_getElem? (i := 181) rfl) rfl
theorem wm_572 : (Cond.selects RX3 yX3_trialGrowsAs yX3_trialGrowsAs) ∈ wsL_law := wsL_sel (List.mem_of_getElem? (i := 6) rfl) rfl
theorem wm_573 : (Cond.code yX3_trialGrowsAs cX3_trialGrowsAs 5 (some .boolean)) ∈ wsL_law := wt_2 (List.mem_of_getElem? (i := 182) rfl) rfl
theorem wm_574 : (Cond.fieldLink RX3 204 "OysterSecrets$Sheet" "size" "I") ∈ wsL_law := wt_1 (List.mem_of_getElem? (i := 133) rfl) rfl
theorem wm_575 : (Cond.fieldLink RX3 207 "OysterSecrets$Sheet" "numbers" "[I") ∈ wsL_law := wt_1 (List.mem_of_getElem? (i := 129) rfl) rfl
theorem wm_576 : (Cond.methodLink RL 116 yX4_fits) ∈ wsL_law := wt_4 (List.mem_of_getElem? (i := 238) rfl) rfl
theorem wm_577 : (Cond.instanceMethod yX4_fits) ∈ wsL_law := wt_4 (List.mem_of_getElem? (i := 239) rfl) rfl
theorem wm_578 : (Cond.selects RX4 yX4_fits yX4_fits) ∈ wsL_law := wt_5 (List.mem_of_getElem? (i := 0) rfl) rfl
theorem wm_579 : (Cond.code yX4_fits cX4_fits 4 (some .int)) ∈ wsL_law := wt_5 (List.mem_of_getElem? (i := 1) rfl) rfl
theorem wm_580 : (Cond.fieldLink RX4 166 "OysterSecretsModel" "fitting" "I") ∈ wsL_law := wt_3 (List.mem_of_getElem? (i := 209) rfl) rfl
theorem wm_581 : (Cond.methodLink RX4 179 yX4_wantsFor) ∈ wsL_law := wt_5 (List.mem_of_getElem? (i := 2) rfl) rfl
theorem wm_582 : (Cond.instanceMethod yX4_wantsFor) ∈ wsL_law := wt_5 (List.mem_of_getElem? (i := 4) rfl) rfl
theorem wm_583 : (Cond.selects RX4 yX4_wantsFor yX4_wantsFor) ∈ wsL_law := wsL_sel (List.mem_of_getElem? (i := 29) rfl) rfl
theorem wm_584 : (Cond.code yX4_wantsFor cX4_wantsFor 3 (some .int)) ∈ wsL_law := wt_5 (List.mem_of_getElem? (i := 5) rfl) rfl
theorem wm_585 : (Cond.methodLink RX4 176 yX4_wants) ∈ wsL_law := wt_5 (List.mem_of_getElem? (i := 6) rfl) rfl
theorem wm_586 : (Cond.instanceMethod yX4_wants) ∈ wsL_law := wt_5 (List.mem_of_getElem? (i := 8) rfl) rfl
theorem wm_587 : (Cond.selects RX4 yX4_wants yX4_wants) ∈ wsL_law := wsL_sel (List.mem_of_getElem? (i := 30) rfl) rfl
theorem wm_588 : (Cond.code yX4_wants cX4_wants 2 (some .int)) ∈ wsL_law := wt_5 (List.mem_of_getElem? (i := 9) rfl) rfl
theorem wm_589 : (Cond.constant RX4 264 (-1000006)) ∈ wsL_law := wt_5 (List.mem_of_getElem? (i := 13) rfl) rfl
theorem wm_590 : (Cond.methodLink RX4 269 yX4_isSheet) ∈ wsL_law := wt_5 (List.mem_of_getElem? (i := 10) rfl) rfl
theorem wm_591 : (Cond.static yX4_isSheet) ∈ wsL_law := wt_5 (List.mem_of_getElem? (i := 11) rfl) rfl
theorem wm_592 : (Cond.code yX4_isSheet cX4_isSheet 1 (some .boolean)) ∈ wsL_law := wt_5 (List.mem_of_getElem? (i := 12) rfl) rfl
theorem wm_593 : (Cond.methodLink RX4 182 yX4_findsFits) ∈ wsL_law := wt_5 (List.mem_of_getElem? (i := 14) rfl) rfl
theorem wm_594 : (Cond.instanceMethod yX4_findsFits) ∈ wsL_law := wt_5 (List.mem_of_getElem? (i := 16) rfl) rfl
theorem wm_595 : (Cond.selects RX4 yX4_findsFits yX4_findsFits) ∈ wsL_law := wsL_sel (List.mem_of_getElem? (i := 31) rfl) rfl
theorem wm_596 : (Cond.code yX4_findsFits cX4_findsFits 5 none) ∈ wsL_law := wt_5 (List.mem_of_getElem? (i := 17) rfl) rfl
theorem wm_597 : (Cond.fieldLink RX4 173 "OysterSecretsModel" "leastFit" "I") ∈ wsL_law := wt_3 (List.mem_of_getElem? (i := 210) rfl) rfl
theorem wm_598 : (Cond.methodLink RX4 170 yX4_isLike) ∈ wsL_law := wt_5 (List.mem_of_getElem? (i := 18) rfl) rfl
theorem wm_599 : (Cond.instanceMethod yX4_isLike) ∈ wsL_law := wt_5 (List.mem_of_getElem? (i := 20) rfl) rfl
theorem wm_600 : (Cond.selects RX4 yX4_isLike yX4_isLike) ∈ wsL_law := wsL_sel (List.mem_of_getElem? (i := 32) rfl) rfl
theorem wm_601 : (Cond.code yX4_isLike cX4_isLike 6 (some .boolean)) ∈ wsL_law := wt_5 (List.mem_of_getElem? (i := 21) rfl) rfl
theorem wm_602 : (Cond.methodLink RL 117 yX3_weighed) ∈ wsL_law := wt_2 (List.mem_of_getElem? (i := 183) rfl) rfl
theorem wm_603 : (Cond.instanceMethod yX3_weighed) ∈ wsL_law := wt_2 (List.mem_of_getElem? (i := 184) rfl) rfl
theorem wm_604 : (Cond.selects RX3 yX3_weighed yX3_weighed) ∈ wsL_law := wt_2 (List.mem_of_getElem? (i := 185) rfl) rfl
theorem wm_605 : (Cond.code yX3_weighed cX3_weighed 5 (some .int)) ∈ wsL_law := wt_2 (List.mem_of_getElem? (i := 186) rfl) rfl
theorem wm_606 : (Cond.methodLink RL 120 yX4_weighed) ∈ wsL_law := wt_5 (List.mem_of_getElem? (i := 22) rfl) rfl
theorem wm_607 : (Cond.instanceMethod yX4_weighed) ∈ wsL_law := wt_5 (List.mem_of_getElem? (i := 23) rfl) rfl
theorem wm_608 : (Cond.selects RX4 yX4_weighed yX4_weighed) ∈ wsL_law := wt_5 (List.mem_of_getElem? (i := 24) rfl) rfl
theorem wm_609 : (Cond.code yX4_weighed cX4_weighed 4 (some .int)) ∈ wsL_law := wt_5 (List.mem_of_getElem? (i := 25) rfl) rfl
theorem wm_610 : (Cond.methodLink RL 121 yX3_kinds) ∈ wsL_law := wt_2 (List.mem_of_getElem? (i := 187) rfl) rfl
theorem wm_611 : (Cond.instanceMethod yX3_kinds) ∈ wsL_law := wt_2 (List.mem_of_getElem? (i := 188) rfl) rfl
theorem wm_612 : (Cond.selects RX3 yX3_kinds yX3_kinds) ∈ wsL_law := wt_2 (List.mem_of_getElem? (i := 189) rfl) rfl
theorem wm_613 : (Cond.code yX3_kinds cX3_kinds 6 (some .int)) ∈ wsL_law := wt_2 (List.mem_of_getElem? (i := 190) rfl) rfl
theorem wm_614 : (Cond.methodLink RL 124 yX4_kinds) ∈ wsL_law := wt_5 (List.mem_of_getElem? (i := 26) rfl) rfl
theorem wm_615 : (Cond.instanceMethod yX4_kinds) ∈ wsL_law := wt_5 (List.mem_of_getElem? (i := 27) rfl) rfl
theorem wm_616 : (Cond.selects RX4 yX4_kinds yX4_kinds) ∈ wsL_law := wt_5 (List.mem_of_getElem? (i := 28) rfl) rfl
theorem wm_617 : (Cond.code yX4_kinds cX4_kinds 7 (some .int)) ∈ wsL_law := wt_5 (List.mem_of_getElem? (i := 29) rfl) rfl
theorem wm_618 : (Cond.methodLink RL 125 yX3_storms) ∈ wsL_law := wt_2 (List.mem_of_getElem? (i := 191) rfl) rfl
theorem wm_619 : (Cond.instanceMethod yX3_storms) ∈ wsL_law := wt_2 (List.mem_of_getElem? (i := 192) rfl) rfl
theorem wm_620 : (Cond.selects RX3 yX3_storms yX3_storms) ∈ wsL_law := wt_2 (List.mem_of_getElem? (i := 193) rfl) rfl
theorem wm_621 : (Cond.code yX3_storms cX3_storms 5 (some .int)) ∈ wsL_law := wt_2 (List.mem_of_getElem? (i := 194) rfl) rfl
theorem wm_622 : (Cond.methodLink RX3 210 yX0_draw) ∈ wsL_law := wt_2 (List.mem_of_getElem? (i := 195) rfl) rfl
theorem wm_623 : (Cond.instanceMethod yX0_draw) ∈ wsL_law := wt_2 (List.mem_of_getElem? (i := 196) rfl) rfl
theorem wm_624 : (Cond.selects RX0 yX0_draw yX0_draw) ∈ wsL_law := wt_2 (List.mem_of_getElem? (i := 197) rfl) rfl
theorem wm_625 : (Cond.code yX0_draw cX0_draw 1 (some .int)) ∈ wsL_law := wt_2 (List.mem_of_getElem? (i := 198) rfl) rfl
theorem wm_626 : (Cond.constant RX0 102 (1103515245)) ∈ wsL_law := wt_2 (List.mem_of_getElem? (i := 199) rfl) rfl
theorem wm_627 : (Cond.methodLink RL 128 yX4_storms) ∈ wsL_law := wt_5 (List.mem_of_getElem? (i := 30) rfl) rfl
theorem wm_628 : (Cond.instanceMethod yX4_storms) ∈ wsL_law := wt_5 (List.mem_of_getElem? (i := 31) rfl) rfl
theorem wm_629 : (Cond.selects RX4 yX4_storms yX4_storms) ∈ wsL_law := wt_5 (List.mem_of_getElem? (i := 32) rfl) rfl
theorem wm_630 : (Cond.code yX4_storms cX4_storms 5 (some .int)) ∈ wsL_law := wt_5 (List.mem_of_getElem? (i := 33) rfl) rfl
theorem wm_631 : (Cond.methodLink RX4 186 yX4_draw) ∈ wsL_law := wt_5 (List.mem_of_getElem? (i := 34) rfl) rfl
theorem wm_632 : (Cond.instanceMethod yX4_draw) ∈ wsL_law := wt_5 (List.mem_of_getElem? (i := 36) rfl) rfl
theorem wm_633 : (Cond.selects RX4 yX4_draw yX4_draw) ∈ wsL_law := wsL_sel (List.mem_of_getElem? (i := 33) rfl) rfl
theorem wm_634 : (Cond.code yX4_draw cX4_draw 1 (some .int)) ∈ wsL_law := wt_5 (List.mem_of_getElem? (i := 37) rfl) rfl
theorem wm_635 : (Cond.constant RX4 185 (1103515245)) ∈ wsL_law := wt_5 (List.mem_of_getElem? (i := 38) rfl) rfl
theorem wm_636 : (Cond.methodLink RL 129 yX3_odds) ∈ wsL_law := wt_2 (List.mem_of_getElem? (i := 200) rfl) rfl
theorem wm_637 : (Cond.instanceMethod yX3_odds) ∈ wsL_law := wt_2 (List.mem_of_getElem? (i := 201) rfl) rfl
theorem wm_638 : (Cond.selects RX3 yX3_odds yX3_odds) ∈ wsL_law := wt_2 (List.mem_of_getElem? (i := 202) rfl) rfl
theorem wm_639 : (Cond.code yX3_odds cX3_odds 10 (some .long)) ∈ wsL_law := wt_2 (List.mem_of_getElem? (i := 203) rfl) rfl
theorem wm_640 : (Cond.methodLink RL 133 yX4_odds) ∈ wsL_law := wt_5 (List.mem_of_getElem? (i := 39) rfl) rfl
theorem wm_641 : (Cond.instanceMethod yX4_odds) ∈ wsL_law := wt_5 (List.mem_of_getElem? (i := 40) rfl) rfl
theorem wm_642 : (Cond.selects RX4 yX4_odds yX4_odds) ∈ wsL_law := wt_5 (List.mem_of_getElem? (i := 41) rfl) rfl
theorem wm_643 : (Cond.code yX4_odds cX4_odds 9 (some .long)) ∈ wsL_law := wt_5 (List.mem_of_getElem? (i := 42) rfl) rfl
theorem wm_644 : (Cond.constantLong RX4 189 (8)) ∈ wsL_law := wt_5 (List.mem_of_getElem? (i := 43) rfl) rfl
theorem wm_645 : (Cond.methodLink RL 134 yX3_seed) ∈ wsL_law := wt_2 (List.mem_of_getElem? (i := 204) rfl) rfl
theorem wm_646 : (Cond.instanceMethod yX3_seed) ∈ wsL_law := wt_2 (List.mem_of_getElem? (i := 205) rfl) rfl
theorem wm_647 : (Cond.selects RX3 yX3_seed yX3_seed) ∈ wsL_law := wt_2 (List.mem_of_getElem? (i := 206) rfl) rfl
theorem wm_648 : (Cond.code yX3_seed cX3_seed 3 (some .int)) ∈ wsL_law := wt_2 (List.mem_of_getElem? (i := 207) rfl) rfl
theorem wm_649 : (Cond.fieldLink RX3 213 "OysterSecrets$Estuary" "z" "I") ∈ wsL_law := wt_1 (List.mem_of_getElem? (i := 56) rfl) rfl
theorem wm_650 : (Cond.methodLink RL 137 yX4_seed) ∈ wsL_law := wt_5 (List.mem_of_getElem? (i := 44) rfl) rfl
theorem wm_651 : (Cond.instanceMethod yX4_seed) ∈ wsL_law := wt_5 (List.mem_of_getElem? (i := 45) rfl) rfl
theorem wm_652 : (Cond.selects RX4 yX4_seed yX4_seed) ∈ wsL_law := wt_5 (List.mem_of_getElem? (i := 46) rfl) rfl
theorem wm_653 : (Cond.code yX4_seed cX4_seed 2 (some .int)) ∈ wsL_law := wt_5 (List.mem_of_getElem? (i := 47) rfl) rfl
theorem wm_654 : (Cond.methodLink RL 138 yX3_feed) ∈ wsL_law := wt_2 (List.mem_of_getElem? (i := 208) rfl) rfl
theorem wm_655 : (Cond.instanceMethod yX3_feed) ∈ wsL_law := wt_2 (List.mem_of_getElem? (i := 209) rfl) rfl
theorem wm_656 : (Cond.selects RX3 yX3_feed yX3_feed) ∈ wsL_law := wt_2 (List.mem_of_getElem? (i := 210) rfl) rfl
theorem wm_657 : (Cond.code yX3_feed cX3_feed 4 (some .int)) ∈ wsL_law := wt_2 (List.mem_of_getElem? (i := 211) rfl) rfl
theorem wm_658 : (Cond.fieldLink RX3 216 "OysterSecrets$Tape" "size" "I") ∈ wsL_law := wt_1 (List.mem_of_getElem? (i := 100) rfl) rfl
theorem wm_659 : (Cond.methodLink RX3 217 yX2_addByte) ∈ wsL_law := wt_2 (List.mem_of_getElem? (i := 212) rfl) rfl
theorem wm_660 : (Cond.instanceMethod yX2_addByte) ∈ wsL_law := wt_2 (List.mem_of_getElem? (i := 213) rfl) rfl
theorem wm_661 : (Cond.selects RX2 yX2_addByte yX2_addByte) ∈ wsL_law := wt_2 (List.mem_of_getElem? (i := 214) rfl) rfl
theorem wm_662 : (Cond.code yX2_addByte cX2_addByte 2 none) ∈ wsL_law := wt_2 (List.mem_of_getElem? (i := 215) rfl) rfl
theorem wm_663 : (Cond.methodLink RL 141 yX4_feed) ∈ wsL_law := wt_5 (List.mem_of_getElem? (i := 48) rfl) rfl
theorem wm_664 : (Cond.instanceMethod yX4_feed) ∈ wsL_law := wt_5 (List.mem_of_getElem? (i := 49) rfl) rfl
theorem wm_665 : (Cond.selects RX4 yX4_feed yX4_feed) ∈ wsL_law := wt_5 (List.mem_of_getElem? (i := 50) rfl) rfl
theorem wm_666 : (Cond.code yX4_feed cX4_feed 4 (some .int)) ∈ wsL_law := wt_5 (List.mem_of_getElem? (i := 51) rfl) rfl
theorem wm_667 : (Cond.constantLong RX4 191 (4)) ∈ wsL_law := wt_5 (List.mem_of_getElem? (i := 52) rfl) rfl
theorem wm_668 : (Cond.fieldLink RX4 193 "OysterSecretsModel" "taped" "I") ∈ wsL_law := wt_3 (List.mem_of_getElem? (i := 204) rfl) rfl
theorem wm_669 : (Cond.methodLink RL 142 yX3_wipe) ∈ wsL_law := wt_2 (List.mem_of_getElem? (i := 216) rfl) rfl
theorem wm_670 : (Cond.instanceMethod yX3_wipe) ∈ wsL_law := wt_2 (List.mem_of_getElem? (i := 217) rfl) rfl
theorem wm_671 : (Cond.selects RX3 yX3_wipe yX3_wipe) ∈ wsL_law := wt_2 (List.mem_of_getElem? (i := 218) rfl) rfl
theorem wm_672 : (Cond.code yX3_wipe cX3_wipe 2 (some .int)) ∈ wsL_law := wt_2 (List.mem_of_getElem? (i := 219) rfl) rfl
theorem wm_673 : (Cond.methodLink RL 145 yX4_wipe) ∈ wsL_law := wt_5 (List.mem_of_getElem? (i := 53) rfl) rfl
theorem wm_674 : (Cond.instanceMethod yX4_wipe) ∈ wsL_law := wt_5 (List.mem_of_getElem? (i := 54) rfl) rfl
theorem wm_675 : (Cond.selects RX4 yX4_wipe yX4_wipe) ∈ wsL_law := wt_5 (List.mem_of_getElem? (i := 55) rfl) rfl
theorem wm_676 : (Cond.code yX4_wipe cX4_wipe 2 (some .int)) ∈ wsL_law := wt_5 (List.mem_of_getElem? (i := 56) rfl) rfl
theorem wm_677 : (Cond.methodLink RL 146 yX3_text) ∈ wsL_law := wt_2 (List.mem_of_getElem? (i := 220) rfl) rfl
theorem wm_678 : (Cond.instanceMethod yX3_text) ∈ wsL_law := wt_2 (List.mem_of_getElem? (i := 221) rfl) rfl
theorem wm_679 : (Cond.selects RX3 yX3_text yX3_text) ∈ wsL_law := wt_2 (List.mem_of_getElem? (i := 222) rfl) rfl
theorem wm_680 : (Cond.code yX3_text cX3_text 2 (some .int)) ∈ wsL_law := wt_2 (List.mem_of_getElem? (i := 223) rfl) rfl
theorem wm_681 : (Cond.methodLink RX3 220 yX2_readInto) ∈ wsL_law := wt_2 (List.mem_of_getElem? (i := 224) rfl) rfl
theorem wm_682 : (Cond.instanceMethod yX2_readInto) ∈ wsL_law := wt_2 (List.mem_of_getElem? (i := 225) rfl) rfl
theorem wm_683 : (Cond.selects RX2 yX2_readInto yX2_readInto) ∈ wsL_law := wt_2 (List.mem_of_getElem? (i := 226) rfl) rfl
theorem wm_684 : (Cond.code yX2_readInto cX2_readInto 4 (some .int)) ∈ wsL_law := wt_2 (List.mem_of_getElem? (i := 227) rfl) rfl
theorem wm_685 : (Cond.methodLink RX2 37 yX2_splitIntoTokens) ∈ wsL_law := wt_2 (List.mem_of_getElem? (i := 228) rfl) rfl
theorem wm_686 : (Cond.instanceMethod yX2_splitIntoTokens) ∈ wsL_law := wt_2 (List.mem_of_getElem? (i := 229) rfl) rfl
theorem wm_687 : (Cond.selects RX2 yX2_splitIntoTokens yX2_splitIntoTokens) ∈ wsL_law := wt_2 (List.mem_of_getElem? (i := 230) rfl) rfl
theorem wm_688 : (Cond.code yX2_splitIntoTokens cX2_splitIntoTokens 2 none) ∈ wsL_law := wt_2 (List.mem_of_getElem? (i := 231) rfl) rfl
theorem wm_689 : (Cond.methodLink RX2 93 yX2_isTogether) ∈ wsL_law := wt_2 (List.mem_of_getElem? (i := 232) rfl) rfl
theorem wm_690 : (Cond.instanceMethod yX2_isTogether) ∈ wsL_law := wt_2 (List.mem_of_getElem? (i := 233) rfl) rfl
theorem wm_691 : (Cond.selects RX2 yX2_isTogether yX2_isTogether) ∈ wsL_law := wt_2 (List.mem_of_getElem? (i := 234) rfl) rfl
theorem wm_692 : (Cond.code yX2_isTogether cX2_isTogether 4 (some .boolean)) ∈ wsL_law := wt_2 (List.mem_of_getElem? (i := 235) rfl) rfl
theorem wm_693 : (Cond.methodLink RX2 110 yX2_isLetter) ∈ wsL_law := wt_2 (List.mem_of_getElem? (i := 236) rfl) rfl
theorem wm_694 : (Cond.static yX2_isLetter) ∈ wsL_law := wt_2 (List.mem_of_getElem? (i := 237) rfl) rfl
theorem wm_695 : (Cond.code yX2_isLetter cX2_isLetter 1 (some .boolean)) ∈ wsL_law := wt_2 (List.mem_of_getElem? (i := 238) rfl) rfl
theorem wm_696 : (Cond.methodLink RX2 113 yX2_isDigit) ∈ wsL_law := wt_2 (List.mem_of_getElem? (i := 239) rfl) rfl
theorem wm_697 : (Cond.static yX2_isDigit) ∈ wsL_law := wt_3 (List.mem_of_getElem? (i := 0) rfl) rfl
theorem wm_698 : (Cond.code yX2_isDigit cX2_isDigit 1 (some .boolean)) ∈ wsL_law := wt_3 (List.mem_of_getElem? (i := 1) rfl) rfl
theorem wm_699 : (Cond.methodLink RX2 96 yX2_endOfToken) ∈ wsL_law := wt_3 (List.mem_of_getElem? (i := 2) rfl) rfl
theorem wm_700 : (Cond.instanceMethod yX2_endOfToken) ∈ wsL_law := wt_3 (List.mem_of_getElem? (i := 3) rfl) rfl
theorem wm_701 : (Cond.selects RX2 yX2_endOfToken yX2_endOfToken) ∈ wsL_law := wt_3 (List.mem_of_getElem? (i := 4) rfl) rfl
theorem wm_702 : (Cond.code yX2_endOfToken cX2_endOfToken 3 (some .int)) ∈ wsL_law := wt_3 (List.mem_of_getElem? (i := 5) rfl) rfl
theorem wm_703 : (Cond.methodLink RX2 100 yX2_addToken) ∈ wsL_law := wt_3 (List.mem_of_getElem? (i := 6) rfl) rfl
theorem wm_704 : (Cond.instanceMethod yX2_addToken) ∈ wsL_law := wt_3 (List.mem_of_getElem? (i := 7) rfl) rfl
theorem wm_705 : (Cond.selects RX2 yX2_addToken yX2_addToken) ∈ wsL_law := wt_3 (List.mem_of_getElem? (i := 8) rfl) rfl
theorem wm_706 : (Cond.code yX2_addToken cX2_addToken 3 none) ∈ wsL_law := wt_3 (List.mem_of_getElem? (i := 9) rfl) rfl
theorem wm_707 : (Cond.methodLink RX2 104 yX2_sortOf) ∈ wsL_law := wt_3 (List.mem_of_getElem? (i := 10) rfl) rfl
theorem wm_708 : (Cond.instanceMethod yX2_sortOf) ∈ wsL_law := wt_3 (List.mem_of_getElem? (i := 11) rfl) rfl
theorem wm_709 : (Cond.selects RX2 yX2_sortOf yX2_sortOf) ∈ wsL_law := wt_3 (List.mem_of_getElem? (i := 12) rfl) rfl
theorem wm_710 : (Cond.code yX2_sortOf cX2_sortOf 4 (some .int)) ∈ wsL_law := wt_3 (List.mem_of_getElem? (i := 13) rfl) rfl
theorem wm_711 : (Cond.methodLink RX2 116 yX2_textOf) ∈ wsL_law := wt_3 (List.mem_of_getElem? (i := 14) rfl) rfl
theorem wm_712 : (Cond.static yX2_textOf) ∈ wsL_law := wt_3 (List.mem_of_getElem? (i := 15) rfl) rfl
theorem wm_713 : (Cond.code yX2_textOf cX2_textOf 1 (some (.object "java/lang/String"))) ∈ wsL_law := wt_3 (List.mem_of_getElem? (i := 16) rfl) rfl
theorem wm_714 : (Cond.methodLink RX2 120 yX2_isText) ∈ wsL_law := wt_3 (List.mem_of_getElem? (i := 31) rfl) rfl
theorem wm_715 : (Cond.instanceMethod yX2_isText) ∈ wsL_law := wt_3 (List.mem_of_getElem? (i := 32) rfl) rfl
theorem wm_716 : (Cond.selects RX2 yX2_isText yX2_isText) ∈ wsL_law := wt_3 (List.mem_of_getElem? (i := 33) rfl) rfl
theorem wm_717 : (Cond.code yX2_isText cX2_isText 5 (some .boolean)) ∈ wsL_law := wt_3 (List.mem_of_getElem? (i := 34) rfl) rfl
theorem wm_718 : (Cond.methodLink RX2 129 yJ0_length_8abf5) ∈ wsL_law := wt_3 (List.mem_of_getElem? (i := 35) rfl) rfl
theorem wm_719 : (Cond.instanceMethod yJ0_length_8abf5) ∈ wsL_law := wt_3 (List.mem_of_getElem? (i := 36) rfl) rfl
theorem wm_720 : (Cond.selects RJ0 yJ0_length_8abf5 yJ0_length_8abf5) ∈ wsL_law := wt_3 (List.mem_of_getElem? (i := 37) rfl) rfl
theorem wm_721 : (Cond.initialized RJ0) ∈ wsL_law := wt_1 (List.mem_of_getElem? (i := 9) rfl) rfl
theorem wm_722 : (Cond.code yJ0_length_8abf5 cJ0_length_8abf5 1 (some .int)) ∈ wsL_law := wt_3 (List.mem_of_getElem? (i := 38) rfl) rfl
theorem wm_723 : (Cond.fieldLink RJ0 9 "java/lang/String" "value" "[B") ∈ wsL_law := wt_5 (List.mem_of_getElem? (i := 177) rfl) rfl
theorem wm_724 : (Cond.methodLink RJ0 335 yJ0_coder_7d493) ∈ wsL_law := wt_3 (List.mem_of_getElem? (i := 39) rfl) rfl
theorem wm_725 : (Cond.instanceMethod yJ0_coder_7d493) ∈ wsL_law := wt_3 (List.mem_of_getElem? (i := 40) rfl) rfl
theorem wm_726 : (Cond.selects RJ0 yJ0_coder_7d493 yJ0_coder_7d493) ∈ wsL_law := wt_3 (List.mem_of_getElem? (i := 41) rfl) rfl
theorem wm_727 : (Cond.code yJ0_coder_7d493 cJ0_coder_7d493 1 (some .byte)) ∈ wsL_law := wt_3 (List.mem_of_getElem? (i := 42) rfl) rfl
theorem wm_728 : (Cond.fieldLink RJ0 38 "java/lang/String" "COMPACT_STRINGS" "Z") ∈ wsL_law := wt_3 (List.mem_of_getElem? (i := 43) rfl) rfl
theorem wm_729 : (Cond.fieldLink RJ0 15 "java/lang/String" "coder" "B") ∈ wsL_law := wt_5 (List.mem_of_getElem? (i := 178) rfl) rfl
theorem wm_730 : (Cond.methodLink RX2 135 yJ0_charAt_5068e) ∈ wsL_law := wt_3 (List.mem_of_getElem? (i := 45) rfl) rfl
theorem wm_731 : (Cond.instanceMethod yJ0_charAt_5068e) ∈ wsL_law := wt_3 (List.mem_of_getElem? (i := 46) rfl) rfl
theorem wm_732 : (Cond.selects RJ0 yJ0_charAt_5068e yJ0_charAt_5068e) ∈ wsL_law := wt_3 (List.mem_of_getElem? (i := 47) rfl) rfl
theorem wm_733 : (Cond.code yJ0_charAt_5068e cJ0_charAt_5068e 2 (some .char)) ∈ wsL_law := wt_3 (List.mem_of_getElem? (i := 48) rfl) rfl
theorem wm_734 : (Cond.methodLink RJ0 492 yJ0_isLatin1_aae02) ∈ wsL_law := wt_3 (List.mem_of_getElem? (i := 49) rfl) rfl
theorem wm_735 : (Cond.instanceMethod yJ0_isLatin1_aae02) ∈ wsL_law := wt_3 (List.mem_of_getElem? (i := 50) rfl) rfl
theorem wm_736 : (Cond.selects RJ0 yJ0_isLatin1_aae02 yJ0_isLatin1_aae02) ∈ wsL_law := wt_3 (List.mem_of_getElem? (i := 51) rfl) rfl
theorem wm_737 : (Cond.code yJ0_isLatin1_aae02 cJ0_isLatin1_aae02 1 (some .boolean)) ∈ wsL_law := wt_3 (List.mem_of_getElem? (i := 52) rfl) rfl
theorem wm_738 : (Cond.methodLink RJ0 495 yJ1_charAt_3b067) ∈ wsL_law := wt_3 (List.mem_of_getElem? (i := 53) rfl) rfl
theorem wm_739 : (Cond.static yJ1_charAt_3b067) ∈ wsL_law := wt_3 (List.mem_of_getElem? (i := 54) rfl) rfl
theorem wm_740 : (Cond.initialized RJ1) ∈ wsL_law := wt_1 (List.mem_of_getElem? (i := 10) rfl) rfl
theorem wm_741 : (Cond.code yJ1_charAt_3b067 cJ1_charAt_3b067 2 (some .char)) ∈ wsL_law := wt_3 (List.mem_of_getElem? (i := 55) rfl) rfl
theorem wm_742 : (Cond.methodLink RJ1 9 yJ0_checkIndex_df160) ∈ wsL_law := wt_3 (List.mem_of_getElem? (i := 56) rfl) rfl
theorem wm_743 : (Cond.static yJ0_checkIndex_df160) ∈ wsL_law := wt_3 (List.mem_of_getElem? (i := 57) rfl) rfl
theorem wm_744 : (Cond.code yJ0_checkIndex_df160 cJ0_checkIndex_df160 2 none) ∈ wsL_law := wt_3 (List.mem_of_getElem? (i := 58) rfl) rfl
theorem wm_745 : (Cond.fieldLink RJ0 1053 "jdk/internal/util/Preconditions" "SIOOBE_FORMATTER" "Ljava/util/function/BiFunction;") ∈ wsL_law := wt_3 (List.mem_of_getElem? (i := 59) rfl) rfl
theorem wm_746 : (Cond.methodLink RJ0 1059 yJ3_checkIndex_8e157) ∈ wsL_law := wt_3 (List.mem_of_getElem? (i := 61) rfl) rfl
theorem wm_747 : (Cond.static yJ3_checkIndex_8e157) ∈ wsL_law := wt_3 (List.mem_of_getElem? (i := 62) rfl) rfl
theorem wm_748 : (Cond.initialized RJ3) ∈ wsL_law := wt_1 (List.mem_of_getElem? (i := 11) rfl) rfl
theorem wm_749 : (Cond.code yJ3_checkIndex_8e157 cJ3_checkIndex_8e157 3 (some .int)) ∈ wsL_law := wt_3 (List.mem_of_getElem? (i := 63) rfl) rfl
theorem wm_750 : (Cond.methodLink RJ0 498 yJ2_charAt_3b067) ∈ wsL_law := wt_3 (List.mem_of_getElem? (i := 64) rfl) rfl
theorem wm_751 : (Cond.static yJ2_charAt_3b067) ∈ wsL_law := wt_3 (List.mem_of_getElem? (i := 65) rfl) rfl
theorem wm_752 : (Cond.initialized RJ2) ∈ wsL_law := wt_1 (List.mem_of_getElem? (i := 12) rfl) rfl
theorem wm_753 : (Cond.code yJ2_charAt_3b067 cJ2_charAt_3b067 2 (some .char)) ∈ wsL_law := wt_3 (List.mem_of_getElem? (i := 66) rfl) rfl
theorem wm_754 : (Cond.methodLink RJ2 67 yJ2_checkIndex_2214a) ∈ wsL_law := wt_3 (List.mem_of_getElem? (i := 67) rfl) rfl
theorem wm_755 : (Cond.static yJ2_checkIndex_2214a) ∈ wsL_law := wt_3 (List.mem_of_getElem? (i := 68) rfl) rfl
theorem wm_756 : (Cond.code yJ2_checkIndex_2214a cJ2_checkIndex_2214a 2 none) ∈ wsL_law := wt_3 (List.mem_of_getElem? (i := 69) rfl) rfl
theorem wm_757 : (Cond.methodLink RJ2 48 yJ2_length_9d52b) ∈ wsL_law := wt_3 (List.mem_of_getElem? (i := 70) rfl) rfl
theorem wm_758 : (Cond.static yJ2_length_9d52b) ∈ wsL_law := wt_3 (List.mem_of_getElem? (i := 71) rfl) rfl
theorem wm_759 : (Cond.code yJ2_length_9d52b cJ2_length_9d52b 1 (some .int)) ∈ wsL_law := wt_3 (List.mem_of_getElem? (i := 72) rfl) rfl
theorem wm_760 : (Cond.methodLink RJ2 414 yJ0_checkIndex_df160) ∈ wsL_law := wt_3 (List.mem_of_getElem? (i := 73) rfl) rfl
theorem wm_761 : (Cond.methodLink RJ2 71 yJ2_getChar_3b067) ∈ wsL_law := wt_3 (List.mem_of_getElem? (i := 74) rfl) rfl
theorem wm_762 : (Cond.static yJ2_getChar_3b067) ∈ wsL_law := wt_3 (List.mem_of_getElem? (i := 75) rfl) rfl
theorem wm_763 : (Cond.code yJ2_getChar_3b067 cJ2_getChar_3b067 2 (some .char)) ∈ wsL_law := wt_3 (List.mem_of_getElem? (i := 76) rfl) rfl
theorem wm_764 : (Cond.fieldLink RJ2 44 "java/lang/StringUTF16" "$assertionsDisabled" "Z") ∈ wsL_law := wt_3 (List.mem_of_getElem? (i := 77) rfl) rfl
theorem wm_765 : (Cond.fieldLink RJ2 59 "java/lang/StringUTF16" "HI_BYTE_SHIFT" "I") ∈ wsL_law := wt_3 (List.mem_of_getElem? (i := 79) rfl) rfl
theorem wm_766 : (Cond.fieldLink RJ2 63 "java/lang/StringUTF16" "LO_BYTE_SHIFT" "I") ∈ wsL_law := wt_3 (List.mem_of_getElem? (i := 81) rfl) rfl
theorem wm_767 : (Cond.methodLink RX2 107 yX2_numberOf) ∈ wsL_law := wt_3 (List.mem_of_getElem? (i := 83) rfl) rfl
theorem wm_768 : (Cond.instanceMethod yX2_numberOf) ∈ wsL_law := wt_3 (List.mem_of_getElem? (i := 84) rfl) rfl
theorem wm_769 : (Cond.selects RX2 yX2_numberOf yX2_numberOf) ∈ wsL_law := wt_3 (List.mem_of_getElem? (i := 85) rfl) rfl
theorem wm_770 : (Cond.code yX2_numberOf cX2_numberOf 5 (some .int)) ∈ wsL_law := wt_3 (List.mem_of_getElem? (i := 86) rfl) rfl
theorem wm_771 : (Cond.methodLink RX2 124 Lib.Math.min.name) ∈ wsL_law := wt_3 (List.mem_of_getElem? (i := 87) rfl) rfl
theorem wm_772 : (Cond.methodLink RX2 40 yX2_readItem) ∈ wsL_law := wt_3 (List.mem_of_getElem? (i := 88) rfl) rfl
theorem wm_773 : (Cond.instanceMethod yX2_readItem) ∈ wsL_law := wt_3 (List.mem_of_getElem? (i := 89) rfl) rfl
theorem wm_774 : (Cond.selects RX2 yX2_readItem yX2_readItem) ∈ wsL_law := wt_3 (List.mem_of_getElem? (i := 90) rfl) rfl
theorem wm_775 : (Cond.code yX2_readItem cX2_readItem 3 (some .boolean)) ∈ wsL_law := wt_3 (List.mem_of_getElem? (i := 91) rfl) rfl
theorem wm_776 : (Cond.methodLink RX2 44 yX2_passIf) ∈ wsL_law := wt_3 (List.mem_of_getElem? (i := 92) rfl) rfl
theorem wm_777 : (Cond.instanceMethod yX2_passIf) ∈ wsL_law := wt_3 (List.mem_of_getElem? (i := 93) rfl) rfl
theorem wm_778 : (Cond.selects RX2 yX2_passIf yX2_passIf) ∈ wsL_law := wt_3 (List.mem_of_getElem? (i := 94) rfl) rfl
theorem wm_779 : (Cond.code yX2_passIf cX2_passIf 2 (some .boolean)) ∈ wsL_law := wt_3 (List.mem_of_getElem? (i := 95) rfl) rfl
theorem wm_780 : (Cond.methodLink RX2 48 yX2_readBed) ∈ wsL_law := wt_3 (List.mem_of_getElem? (i := 96) rfl) rfl
theorem wm_781 : (Cond.instanceMethod yX2_readBed) ∈ wsL_law := wt_3 (List.mem_of_getElem? (i := 97) rfl) rfl
theorem wm_782 : (Cond.selects RX2 yX2_readBed yX2_readBed) ∈ wsL_law := wt_3 (List.mem_of_getElem? (i := 98) rfl) rfl
theorem wm_783 : (Cond.code yX2_readBed cX2_readBed 3 (some .boolean)) ∈ wsL_law := wt_3 (List.mem_of_getElem? (i := 99) rfl) rfl
theorem wm_784 : (Cond.fieldLink RX2 84 "OysterSecrets$Estuary" "nacre" "[I") ∈ wsL_law := wt_1 (List.mem_of_getElem? (i := 29) rfl) rfl
theorem wm_785 : (Cond.fieldLink RX2 87 "OysterSecrets$Estuary" "cold" "[I") ∈ wsL_law := wt_1 (List.mem_of_getElem? (i := 32) rfl) rfl
theorem wm_786 : (Cond.methodLink RX2 81 yX2_readNumber) ∈ wsL_law := wt_3 (List.mem_of_getElem? (i := 100) rfl) rfl
theorem wm_787 : (Cond.instanceMethod yX2_readNumber) ∈ wsL_law := wt_3 (List.mem_of_getElem? (i := 101) rfl) rfl
theorem wm_788 : (Cond.selects RX2 yX2_readNumber yX2_readNumber) ∈ wsL_law := wt_3 (List.mem_of_getElem? (i := 102) rfl) rfl
theorem wm_789 : (Cond.code yX2_readNumber cX2_readNumber 2 (some .boolean)) ∈ wsL_law := wt_3 (List.mem_of_getElem? (i := 103) rfl) rfl
theorem wm_790 : (Cond.methodLink RX2 67 yX2_readAfter) ∈ wsL_law := wt_3 (List.mem_of_getElem? (i := 104) rfl) rfl
theorem wm_791 : (Cond.instanceMethod yX2_readAfter) ∈ wsL_law := wt_3 (List.mem_of_getElem? (i := 105) rfl) rfl
theorem wm_792 : (Cond.selects RX2 yX2_readAfter yX2_readAfter) ∈ wsL_law := wt_3 (List.mem_of_getElem? (i := 106) rfl) rfl
theorem wm_793 : (Cond.code yX2_readAfter cX2_readAfter 4 (some .boolean)) ∈ wsL_law := wt_3 (List.mem_of_getElem? (i := 107) rfl) rfl
theorem wm_794 : (Cond.methodLink RX2 51 yX2_readComes) ∈ wsL_law := wt_3 (List.mem_of_getElem? (i := 108) rfl) rfl
theorem wm_795 : (Cond.instanceMethod yX2_readComes) ∈ wsL_law := wt_3 (List.mem_of_getElem? (i := 109) rfl) rfl
theorem wm_796 : (Cond.selects RX2 yX2_readComes yX2_readComes) ∈ wsL_law := wt_3 (List.mem_of_getElem? (i := 110) rfl) rfl
theorem wm_797 : (Cond.code yX2_readComes cX2_readComes 2 (some .boolean)) ∈ wsL_law := wt_3 (List.mem_of_getElem? (i := 111) rfl) rfl
theorem wm_798 : (Cond.fieldLink RX2 90 "OysterSecrets$Estuary" "coming" "I") ∈ wsL_law := wt_1 (List.mem_of_getElem? (i := 52) rfl) rfl
theorem wm_799 : (Cond.methodLink RX2 57 yX0_isFull) ∈ wsL_law := wt_3 (List.mem_of_getElem? (i := 113) rfl) rfl
theorem wm_800 : (Cond.methodLink RX2 63 yX2_readOyster) ∈ wsL_law := wt_3 (List.mem_of_getElem? (i := 114) rfl) rfl
theorem wm_801 : (Cond.instanceMethod yX2_readOyster) ∈ wsL_law := wt_3 (List.mem_of_getElem? (i := 115) rfl) rfl
theorem wm_802 : (Cond.selects RX2 yX2_readOyster yX2_readOyster) ∈ wsL_law := wt_3 (List.mem_of_getElem? (i := 116) rfl) rfl
theorem wm_803 : (Cond.code yX2_readOyster cX2_readOyster 4 (some .boolean)) ∈ wsL_law := wt_3 (List.mem_of_getElem? (i := 117) rfl) rfl
theorem wm_804 : (Cond.fieldLink RX2 75 "OysterSecrets$Estuary" "weight" "[I") ∈ wsL_law := wt_1 (List.mem_of_getElem? (i := 38) rfl) rfl
theorem wm_805 : (Cond.fieldLink RX2 78 "OysterSecrets$Estuary" "layers" "[I") ∈ wsL_law := wt_1 (List.mem_of_getElem? (i := 41) rfl) rfl
theorem wm_806 : (Cond.methodLink RX2 71 yX0_addOyster) ∈ wsL_law := wt_3 (List.mem_of_getElem? (i := 118) rfl) rfl
theorem wm_807 : (Cond.methodLink RL 149 yX4_text) ∈ wsL_law := wt_5 (List.mem_of_getElem? (i := 57) rfl) rfl
theorem wm_808 : (Cond.instanceMethod yX4_text) ∈ wsL_law := wt_5 (List.mem_of_getElem? (i := 58) rfl) rfl
theorem wm_809 : (Cond.selects RX4 yX4_text yX4_text) ∈ wsL_law := wt_5 (List.mem_of_getElem? (i := 59) rfl) rfl
theorem wm_810 : (Cond.code yX4_text cX4_text 3 (some .int)) ∈ wsL_law := wt_5 (List.mem_of_getElem? (i := 60) rfl) rfl
theorem wm_811 : (Cond.fieldLink RX4 196 "OysterSecretsModel" "to" "I") ∈ wsL_law := wt_3 (List.mem_of_getElem? (i := 213) rfl) rfl
theorem wm_812 : (Cond.fieldLink RX4 211 "OysterSecretsModel" "token" "I") ∈ wsL_law := wt_3 (List.mem_of_getElem? (i := 211) rfl) rfl
theorem wm_813 : (Cond.fieldLink RX4 217 "OysterSecretsModel" "faultAt" "I") ∈ wsL_law := wt_3 (List.mem_of_getElem? (i := 215) rfl) rfl
theorem wm_814 : (Cond.methodLink RX4 242 yX4_nextToken) ∈ wsL_law := wt_5 (List.mem_of_getElem? (i := 61) rfl) rfl
theorem wm_815 : (Cond.instanceMethod yX4_nextToken) ∈ wsL_law := wt_5 (List.mem_of_getElem? (i := 63) rfl) rfl
theorem wm_816 : (Cond.selects RX4 yX4_nextToken yX4_nextToken) ∈ wsL_law := wsL_sel (List.mem_of_getElem? (i := 34) rfl) rfl
theorem wm_817 : (Cond.code yX4_nextToken cX4_nextToken 2 none) ∈ wsL_law := wt_5 (List.mem_of_getElem? (i := 64) rfl) rfl
theorem wm_818 : (Cond.fieldLink RX4 199 "OysterSecretsModel" "from" "I") ∈ wsL_law := wt_3 (List.mem_of_getElem? (i := 212) rfl) rfl
theorem wm_819 : (Cond.fieldLink RX4 214 "OysterSecretsModel" "value" "I") ∈ wsL_law := wt_3 (List.mem_of_getElem? (i := 214) rfl) rfl
theorem wm_820 : (Cond.methodLink RX4 202 yX4_byteAt) ∈ wsL_law := wt_5 (List.mem_of_getElem? (i := 65) rfl) rfl
theorem wm_821 : (Cond.instanceMethod yX4_byteAt) ∈ wsL_law := wt_5 (List.mem_of_getElem? (i := 67) rfl) rfl
theorem wm_822 : (Cond.selects RX4 yX4_byteAt yX4_byteAt) ∈ wsL_law := wsL_sel (List.mem_of_getElem? (i := 35) rfl) rfl
theorem wm_823 : (Cond.code yX4_byteAt cX4_byteAt 2 (some .int)) ∈ wsL_law := wt_5 (List.mem_of_getElem? (i := 68) rfl) rfl
theorem wm_824 : (Cond.methodLink RX4 205 yX4_isLetter) ∈ wsL_law := wt_5 (List.mem_of_getElem? (i := 69) rfl) rfl
theorem wm_825 : (Cond.static yX4_isLetter) ∈ wsL_law := wt_5 (List.mem_of_getElem? (i := 70) rfl) rfl
theorem wm_826 : (Cond.code yX4_isLetter cX4_isLetter 1 (some .boolean)) ∈ wsL_law := wt_5 (List.mem_of_getElem? (i := 71) rfl) rfl
theorem wm_827 : (Cond.methodLink RX4 208 yX4_isDigit) ∈ wsL_law := wt_5 (List.mem_of_getElem? (i := 72) rfl) rfl
theorem wm_828 : (Cond.static yX4_isDigit) ∈ wsL_law := wt_5 (List.mem_of_getElem? (i := 73) rfl) rfl
theorem wm_829 : (Cond.code yX4_isDigit cX4_isDigit 1 (some .boolean)) ∈ wsL_law := wt_5 (List.mem_of_getElem? (i := 74) rfl) rfl
theorem wm_830 : (Cond.methodLink RX4 261 yX4_itemHere) ∈ wsL_law := wt_5 (List.mem_of_getElem? (i := 75) rfl) rfl
theorem wm_831 : (Cond.instanceMethod yX4_itemHere) ∈ wsL_law := wt_5 (List.mem_of_getElem? (i := 77) rfl) rfl
theorem wm_832 : (Cond.selects RX4 yX4_itemHere yX4_itemHere) ∈ wsL_law := wsL_sel (List.mem_of_getElem? (i := 36) rfl) rfl
theorem wm_833 : (Cond.code yX4_itemHere cX4_itemHere 2 (some .boolean)) ∈ wsL_law := wt_5 (List.mem_of_getElem? (i := 78) rfl) rfl
theorem wm_834 : (Cond.methodLink RX4 252 yX4_kindHere) ∈ wsL_law := wt_5 (List.mem_of_getElem? (i := 79) rfl) rfl
theorem wm_835 : (Cond.instanceMethod yX4_kindHere) ∈ wsL_law := wt_5 (List.mem_of_getElem? (i := 81) rfl) rfl
theorem wm_836 : (Cond.selects RX4 yX4_kindHere yX4_kindHere) ∈ wsL_law := wsL_sel (List.mem_of_getElem? (i := 37) rfl) rfl
theorem wm_837 : (Cond.code yX4_kindHere cX4_kindHere 1 (some .int)) ∈ wsL_law := wt_5 (List.mem_of_getElem? (i := 82) rfl) rfl
theorem wm_838 : (Cond.methodLink RX4 231 yX4_isSix) ∈ wsL_law := wt_5 (List.mem_of_getElem? (i := 83) rfl) rfl
theorem wm_839 : (Cond.instanceMethod yX4_isSix) ∈ wsL_law := wt_5 (List.mem_of_getElem? (i := 85) rfl) rfl
theorem wm_840 : (Cond.selects RX4 yX4_isSix yX4_isSix) ∈ wsL_law := wsL_sel (List.mem_of_getElem? (i := 38) rfl) rfl
theorem wm_841 : (Cond.code yX4_isSix cX4_isSix 7 (some .boolean)) ∈ wsL_law := wt_5 (List.mem_of_getElem? (i := 86) rfl) rfl
theorem wm_842 : (Cond.methodLink RX4 220 yX4_isWord) ∈ wsL_law := wt_5 (List.mem_of_getElem? (i := 87) rfl) rfl
theorem wm_843 : (Cond.instanceMethod yX4_isWord) ∈ wsL_law := wt_5 (List.mem_of_getElem? (i := 89) rfl) rfl
theorem wm_844 : (Cond.selects RX4 yX4_isWord yX4_isWord) ∈ wsL_law := wsL_sel (List.mem_of_getElem? (i := 39) rfl) rfl
theorem wm_845 : (Cond.code yX4_isWord cX4_isWord 2 (some .boolean)) ∈ wsL_law := wt_5 (List.mem_of_getElem? (i := 90) rfl) rfl
theorem wm_846 : (Cond.methodLink RX4 223 yX4_has3) ∈ wsL_law := wt_5 (List.mem_of_getElem? (i := 91) rfl) rfl
theorem wm_847 : (Cond.instanceMethod yX4_has3) ∈ wsL_law := wt_5 (List.mem_of_getElem? (i := 93) rfl) rfl
theorem wm_848 : (Cond.selects RX4 yX4_has3 yX4_has3) ∈ wsL_law := wsL_sel (List.mem_of_getElem? (i := 40) rfl) rfl
theorem wm_849 : (Cond.code yX4_has3 cX4_has3 5 (some .boolean)) ∈ wsL_law := wt_5 (List.mem_of_getElem? (i := 94) rfl) rfl
theorem wm_850 : (Cond.methodLink RX4 235 yX4_isFive) ∈ wsL_law := wt_5 (List.mem_of_getElem? (i := 95) rfl) rfl
theorem wm_851 : (Cond.instanceMethod yX4_isFive) ∈ wsL_law := wt_5 (List.mem_of_getElem? (i := 97) rfl) rfl
theorem wm_852 : (Cond.selects RX4 yX4_isFive yX4_isFive) ∈ wsL_law := wsL_sel (List.mem_of_getElem? (i := 41) rfl) rfl
theorem wm_853 : (Cond.code yX4_isFive cX4_isFive 6 (some .boolean)) ∈ wsL_law := wt_5 (List.mem_of_getElem? (i := 98) rfl) rfl
theorem wm_854 : (Cond.methodLink RX4 239 yX4_isFour) ∈ wsL_law := wt_5 (List.mem_of_getElem? (i := 99) rfl) rfl
theorem wm_855 : (Cond.instanceMethod yX4_isFour) ∈ wsL_law := wt_5 (List.mem_of_getElem? (i := 101) rfl) rfl
theorem wm_856 : (Cond.selects RX4 yX4_isFour yX4_isFour) ∈ wsL_law := wsL_sel (List.mem_of_getElem? (i := 42) rfl) rfl
theorem wm_857 : (Cond.code yX4_isFour cX4_isFour 5 (some .boolean)) ∈ wsL_law := wt_5 (List.mem_of_getElem? (i := 102) rfl) rfl
theorem wm_858 : (Cond.methodLink RX4 255 yX4_oysterHere) ∈ wsL_law := wt_5 (List.mem_of_getElem? (i := 103) rfl) rfl
theorem wm_859 : (Cond.instanceMethod yX4_oysterHere) ∈ wsL_law := wt_5 (List.mem_of_getElem? (i := 105) rfl) rfl
theorem wm_860 : (Cond.selects RX4 yX4_oysterHere yX4_oysterHere) ∈ wsL_law := wsL_sel (List.mem_of_getElem? (i := 43) rfl) rfl
theorem wm_861 : (Cond.code yX4_oysterHere cX4_oysterHere 3 (some .boolean)) ∈ wsL_law := wt_5 (List.mem_of_getElem? (i := 106) rfl) rfl
theorem wm_862 : (Cond.methodLink RX4 227 yX4_fails) ∈ wsL_law := wt_5 (List.mem_of_getElem? (i := 107) rfl) rfl
theorem wm_863 : (Cond.instanceMethod yX4_fails) ∈ wsL_law := wt_5 (List.mem_of_getElem? (i := 109) rfl) rfl
theorem wm_864 : (Cond.selects RX4 yX4_fails yX4_fails) ∈ wsL_law := wsL_sel (List.mem_of_getElem? (i := 44) rfl) rfl
theorem wm_865 : (Cond.code yX4_fails cX4_fails 1 (some .boolean)) ∈ wsL_law := wt_5 (List.mem_of_getElem? (i := 110) rfl) rfl
theorem wm_866 : (Cond.methodLink RX4 248 yX4_perhaps) ∈ wsL_law := wt_5 (List.mem_of_getElem? (i := 111) rfl) rfl
theorem wm_867 : (Cond.instanceMethod yX4_perhaps) ∈ wsL_law := wt_5 (List.mem_of_getElem? (i := 113) rfl) rfl
theorem wm_868 : (Cond.selects RX4 yX4_perhaps yX4_perhaps) ∈ wsL_law := wsL_sel (List.mem_of_getElem? (i := 45) rfl) rfl
theorem wm_869 : (Cond.code yX4_perhaps cX4_perhaps 4 (some .boolean)) ∈ wsL_law := wt_5 (List.mem_of_getElem? (i := 114) rfl) rfl
theorem wm_870 : (Cond.methodLink RX4 245 yX4_isNumber) ∈ wsL_law := wt_5 (List.mem_of_getElem? (i := 115) rfl) rfl
theorem wm_871 : (Cond.instanceMethod yX4_isNumber) ∈ wsL_law := wt_5 (List.mem_of_getElem? (i := 117) rfl) rfl
theorem wm_872 : (Cond.selects RX4 yX4_isNumber yX4_isNumber) ∈ wsL_law := wsL_sel (List.mem_of_getElem? (i := 46) rfl) rfl
theorem wm_873 : (Cond.code yX4_isNumber cX4_isNumber 3 (some .boolean)) ∈ wsL_law := wt_5 (List.mem_of_getElem? (i := 118) rfl) rfl
theorem wm_874 : (Cond.methodLink RX4 258 yX4_bedHere) ∈ wsL_law := wt_5 (List.mem_of_getElem? (i := 119) rfl) rfl
theorem wm_875 : (Cond.instanceMethod yX4_bedHere) ∈ wsL_law := wt_5 (List.mem_of_getElem? (i := 121) rfl) rfl
theorem wm_876 : (Cond.selects RX4 yX4_bedHere yX4_bedHere) ∈ wsL_law := wsL_sel (List.mem_of_getElem? (i := 47) rfl) rfl
theorem wm_877 : (Cond.code yX4_bedHere cX4_bedHere 2 (some .boolean)) ∈ wsL_law := wt_5 (List.mem_of_getElem? (i := 122) rfl) rfl
theorem wm_878 : (Cond.methodLink RL 150 yX3_hold) ∈ wsL_law := wt_3 (List.mem_of_getElem? (i := 120) rfl) rfl
theorem wm_879 : (Cond.instanceMethod yX3_hold) ∈ wsL_law := wt_3 (List.mem_of_getElem? (i := 121) rfl) rfl
theorem wm_880 : (Cond.selects RX3 yX3_hold yX3_hold) ∈ wsL_law := wt_3 (List.mem_of_getElem? (i := 122) rfl) rfl
theorem wm_881 : (Cond.code yX3_hold cX3_hold 3 (some .int)) ∈ wsL_law := wt_3 (List.mem_of_getElem? (i := 123) rfl) rfl
theorem wm_882 : (Cond.fieldLink RX3 224 "OysterSecrets$Estuary" "spots" "[I") ∈ wsL_law := wt_1 (List.mem_of_getElem? (i := 47) rfl) rfl
theorem wm_883 : (Cond.methodLink RL 153 yX4_hold) ∈ wsL_law := wt_5 (List.mem_of_getElem? (i := 123) rfl) rfl
theorem wm_884 : (Cond.instanceMethod yX4_hold) ∈ wsL_law := wt_5 (List.mem_of_getElem? (i := 124) rfl) rfl
theorem wm_885 : (Cond.selects RX4 yX4_hold yX4_hold) ∈ wsL_law := wt_5 (List.mem_of_getElem? (i := 125) rfl) rfl
theorem wm_886 : (Cond.code yX4_hold cX4_hold 3 (some .int)) ∈ wsL_law := wt_5 (List.mem_of_getElem? (i := 126) rfl) rfl
theorem wm_887 : (Cond.methodLink RL 154 yX3_as) ∈ wsL_law := wt_3 (List.mem_of_getElem? (i := 124) rfl) rfl
theorem wm_888 : (Cond.instanceMethod yX3_as) ∈ wsL_law := wt_3 (List.mem_of_getElem? (i := 125) rfl) rfl
theorem wm_889 : (Cond.selects RX3 yX3_as yX3_as) ∈ wsL_law := wt_3 (List.mem_of_getElem? (i := 126) rfl) rfl
theorem wm_890 : (Cond.code yX3_as cX3_as 4 (some .int)) ∈ wsL_law := wt_3 (List.mem_of_getElem? (i := 127) rfl) rfl
theorem wm_891 : (Cond.methodLink RX3 227 yX3_isOfKind) ∈ wsL_law := wt_3 (List.mem_of_getElem? (i := 128) rfl) rfl
theorem wm_892 : (Cond.static yX3_isOfKind) ∈ wsL_law := wt_3 (List.mem_of_getElem? (i := 129) rfl) rfl
theorem wm_893 : (Cond.code yX3_isOfKind cX3_isOfKind 4 (some .boolean)) ∈ wsL_law := wt_3 (List.mem_of_getElem? (i := 130) rfl) rfl
theorem wm_894 : (Cond.fieldLink RX3 256 "OysterSecrets" "KIND_ABOVE" "[I") ∈ wsL_law := wt_3 (List.mem_of_getElem? (i := 131) rfl) rfl
theorem wm_895 : (Cond.methodLink RL 157 yX4_as) ∈ wsL_law := wt_5 (List.mem_of_getElem? (i := 127) rfl) rfl
theorem wm_896 : (Cond.instanceMethod yX4_as) ∈ wsL_law := wt_5 (List.mem_of_getElem? (i := 128) rfl) rfl
theorem wm_897 : (Cond.selects RX4 yX4_as yX4_as) ∈ wsL_law := wt_5 (List.mem_of_getElem? (i := 129) rfl) rfl
theorem wm_898 : (Cond.code yX4_as cX4_as 4 (some .int)) ∈ wsL_law := wt_5 (List.mem_of_getElem? (i := 130) rfl) rfl
theorem wm_899 : (Cond.constant RX4 268 (-1000003)) ∈ wsL_law := wt_5 (List.mem_of_getElem? (i := 134) rfl) rfl
theorem wm_900 : (Cond.methodLink RX4 265 yX4_isUnder) ∈ wsL_law := wt_5 (List.mem_of_getElem? (i := 131) rfl) rfl
theorem wm_901 : (Cond.static yX4_isUnder) ∈ wsL_law := wt_5 (List.mem_of_getElem? (i := 132) rfl) rfl
theorem wm_902 : (Cond.code yX4_isUnder cX4_isUnder 2 (some .boolean)) ∈ wsL_law := wt_5 (List.mem_of_getElem? (i := 133) rfl) rfl
theorem wm_903 : (Cond.methodLink RL 158 yX3_sheet) ∈ wsL_law := wt_3 (List.mem_of_getElem? (i := 133) rfl) rfl
theorem wm_904 : (Cond.instanceMethod yX3_sheet) ∈ wsL_law := wt_3 (List.mem_of_getElem? (i := 134) rfl) rfl
theorem wm_905 : (Cond.selects RX3 yX3_sheet yX3_sheet) ∈ wsL_law := wt_3 (List.mem_of_getElem? (i := 135) rfl) rfl
theorem wm_906 : (Cond.code yX3_sheet cX3_sheet 5 (some .int)) ∈ wsL_law := wt_3 (List.mem_of_getElem? (i := 136) rfl) rfl
theorem wm_907 : (Cond.methodLink RX3 230 yX1_become) ∈ wsL_law := wt_3 (List.mem_of_getElem? (i := 137) rfl) rfl
theorem wm_908 : (Cond.instanceMethod yX1_become) ∈ wsL_law := wt_3 (List.mem_of_getElem? (i := 138) rfl) rfl
theorem wm_909 : (Cond.selects RX1 yX1_become yX1_become) ∈ wsL_law := wt_3 (List.mem_of_getElem? (i := 139) rfl) rfl
theorem wm_910 : (Cond.code yX1_become cX1_become 4 none) ∈ wsL_law := wt_3 (List.mem_of_getElem? (i := 140) rfl) rfl
theorem wm_911 : (Cond.methodLink RL 161 yX4_sheet) ∈ wsL_law := wt_5 (List.mem_of_getElem? (i := 135) rfl) rfl
theorem wm_912 : (Cond.instanceMethod yX4_sheet) ∈ wsL_law := wt_5 (List.mem_of_getElem? (i := 136) rfl) rfl
theorem wm_913 : (Cond.selects RX4 yX4_sheet yX4_sheet) ∈ wsL_law := wt_5 (List.mem_of_getElem? (i := 137) rfl) rfl
theorem wm_914 : (Cond.code yX4_sheet cX4_sheet 5 (some .int)) ∈ wsL_law := wt_5 (List.mem_of_getElem? (i := 138) rfl) rfl
theorem wm_915 : (Cond.constant RX4 272 (-1000007)) ∈ wsL_law := wt_5 (List.mem_of_getElem? (i := 139) rfl) rfl
theorem wm_916 : (Cond.methodLink RL 162 yX3_write) ∈ wsL_law := wt_3 (List.mem_of_getElem? (i := 141) rfl) rfl
theorem wm_917 : (Cond.instanceMethod yX3_write) ∈ wsL_law := wt_3 (List.mem_of_getElem? (i := 142) rfl) rfl
theorem wm_918 : (Cond.selects RX3 yX3_write yX3_write) ∈ wsL_law := wt_3 (List.mem_of_getElem? (i := 143) rfl) rfl
theorem wm_919 : (Cond.code yX3_write cX3_write 4 (some .int)) ∈ wsL_law := wt_3 (List.mem_of_getElem? (i := 144) rfl) rfl
theorem wm_920 : (Cond.methodLink RX3 234 yX1_put) ∈ wsL_law := wt_3 (List.mem_of_getElem? (i := 145) rfl) rfl
theorem wm_921 : (Cond.instanceMethod yX1_put) ∈ wsL_law := wt_3 (List.mem_of_getElem? (i := 146) rfl) rfl
theorem wm_922 : (Cond.selects RX1 yX1_put yX1_put) ∈ wsL_law := wt_3 (List.mem_of_getElem? (i := 147) rfl) rfl
theorem wm_923 : (Cond.code yX1_put cX1_put 3 none) ∈ wsL_law := wt_3 (List.mem_of_getElem? (i := 148) rfl) rfl
theorem wm_924 : (Cond.methodLink RL 165 yX4_write) ∈ wsL_law := wt_5 (List.mem_of_getElem? (i := 140) rfl) rfl
theorem wm_925 : (Cond.instanceMethod yX4_write) ∈ wsL_law := wt_5 (List.mem_of_getElem? (i := 141) rfl) rfl
theorem wm_926 : (Cond.selects RX4 yX4_write yX4_write) ∈ wsL_law := wt_5 (List.mem_of_getElem? (i := 142) rfl) rfl
theorem wm_927 : (Cond.code yX4_write cX4_write 4 (some .int)) ∈ wsL_law := wt_5 (List.mem_of_getElem? (i := 143) rfl) rfl
theorem wm_928 : (Cond.methodLink RL 166 yX3_copy) ∈ wsL_law := wt_3 (List.mem_of_getElem? (i := 149) rfl) rfl
theorem wm_929 : (Cond.instanceMethod yX3_copy) ∈ wsL_law := wt_3 (List.mem_of_getElem? (i := 150) rfl) rfl
theorem wm_930 : (Cond.selects RX3 yX3_copy yX3_copy) ∈ wsL_law := wt_3 (List.mem_of_getElem? (i := 151) rfl) rfl
theorem wm_931 : (Cond.code yX3_copy cX3_copy 8 (some .int)) ∈ wsL_law := wt_3 (List.mem_of_getElem? (i := 152) rfl) rfl
theorem wm_932 : (Cond.fieldLink RX3 237 "OysterSecrets$Sheet" "bits" "I") ∈ wsL_law := wt_1 (List.mem_of_getElem? (i := 131) rfl) rfl
theorem wm_933 : (Cond.methodLink RX3 243 arraycopyName) ∈ wsL_law := wt_3 (List.mem_of_getElem? (i := 157) rfl) rfl
theorem wm_934 : (Cond.methodLink RX3 240 yX1_hasNumbers) ∈ wsL_law := wt_3 (List.mem_of_getElem? (i := 153) rfl) rfl
theorem wm_935 : (Cond.instanceMethod yX1_hasNumbers) ∈ wsL_law := wt_3 (List.mem_of_getElem? (i := 154) rfl) rfl
theorem wm_936 : (Cond.selects RX1 yX1_hasNumbers yX1_hasNumbers) ∈ wsL_law := wt_3 (List.mem_of_getElem? (i := 155) rfl) rfl
theorem wm_937 : (Cond.code yX1_hasNumbers cX1_hasNumbers 3 (some .boolean)) ∈ wsL_law := wt_3 (List.mem_of_getElem? (i := 156) rfl) rfl
theorem wm_938 : (Cond.methodLink RL 170 yX4_copy) ∈ wsL_law := wt_5 (List.mem_of_getElem? (i := 144) rfl) rfl
theorem wm_939 : (Cond.instanceMethod yX4_copy) ∈ wsL_law := wt_5 (List.mem_of_getElem? (i := 145) rfl) rfl
theorem wm_940 : (Cond.selects RX4 yX4_copy yX4_copy) ∈ wsL_law := wt_5 (List.mem_of_getElem? (i := 146) rfl) rfl
theorem wm_941 : (Cond.code yX4_copy cX4_copy 10 (some .int)) ∈ wsL_law := wt_5 (List.mem_of_getElem? (i := 147) rfl) rfl
theorem wm_942 : (Cond.methodLink RL 171 yX3_load) ∈ wsL_law := wt_3 (List.mem_of_getElem? (i := 158) rfl) rfl
theorem wm_943 : (Cond.instanceMethod yX3_load) ∈ wsL_law := wt_3 (List.mem_of_getElem? (i := 159) rfl) rfl
theorem wm_944 : (Cond.selects RX3 yX3_load yX3_load) ∈ wsL_law := wt_3 (List.mem_of_getElem? (i := 160) rfl) rfl
theorem wm_945 : (Cond.code yX3_load cX3_load 4 (some .int)) ∈ wsL_law := wt_3 (List.mem_of_getElem? (i := 161) rfl) rfl
theorem wm_946 : (Cond.methodLink RX3 249 Lib.Math.min.name) ∈ wsL_law := wt_3 (List.mem_of_getElem? (i := 162) rfl) rfl
theorem wm_947 : (Cond.methodLink RL 174 yX4_load) ∈ wsL_law := wt_5 (List.mem_of_getElem? (i := 148) rfl) rfl
theorem wm_948 : (Cond.instanceMethod yX4_load) ∈ wsL_law := wt_5 (List.mem_of_getElem? (i := 149) rfl) rfl
theorem wm_949 : (Cond.selects RX4 yX4_load yX4_load) ∈ wsL_law := wt_5 (List.mem_of_getElem? (i := 150) rfl) rfl
theorem wm_950 : (Cond.code yX4_load cX4_load 3 (some .int)) ∈ wsL_law := wt_5 (List.mem_of_getElem? (i := 151) rfl) rfl
theorem wm_951 : (Cond.methodLink RL 175 yX3_judge) ∈ wsL_law := wt_3 (List.mem_of_getElem? (i := 163) rfl) rfl
theorem wm_952 : (Cond.instanceMethod yX3_judge) ∈ wsL_law := wt_3 (List.mem_of_getElem? (i := 164) rfl) rfl
theorem wm_953 : (Cond.selects RX3 yX3_judge yX3_judge) ∈ wsL_law := wt_3 (List.mem_of_getElem? (i := 165) rfl) rfl
theorem wm_954 : (Cond.code yX3_judge cX3_judge 3 (some .int)) ∈ wsL_law := wt_3 (List.mem_of_getElem? (i := 166) rfl) rfl
theorem wm_955 : (Cond.methodLink RL 178 yX4_judge) ∈ wsL_law := wt_5 (List.mem_of_getElem? (i := 152) rfl) rfl
theorem wm_956 : (Cond.instanceMethod yX4_judge) ∈ wsL_law := wt_5 (List.mem_of_getElem? (i := 153) rfl) rfl
theorem wm_957 : (Cond.selects RX4 yX4_judge yX4_judge) ∈ wsL_law := wt_5 (List.mem_of_getElem? (i := 154) rfl) rfl
theorem wm_958 : (Cond.code yX4_judge cX4_judge 3 (some .int)) ∈ wsL_law := wt_5 (List.mem_of_getElem? (i := 155) rfl) rfl
theorem wm_959 : (Cond.methodLink RL 179 yX3_image) ∈ wsL_law := wt_3 (List.mem_of_getElem? (i := 167) rfl) rfl
theorem wm_960 : (Cond.instanceMethod yX3_image) ∈ wsL_law := wt_3 (List.mem_of_getElem? (i := 168) rfl) rfl
theorem wm_961 : (Cond.selects RX3 yX3_image yX3_image) ∈ wsL_law := wt_3 (List.mem_of_getElem? (i := 169) rfl) rfl
theorem wm_962 : (Cond.code yX3_image cX3_image 1 (some .int)) ∈ wsL_law := wt_3 (List.mem_of_getElem? (i := 170) rfl) rfl
theorem wm_963 : (Cond.methodLink RL 182 yX4_image) ∈ wsL_law := wt_5 (List.mem_of_getElem? (i := 156) rfl) rfl
theorem wm_964 : (Cond.instanceMethod yX4_image) ∈ wsL_law := wt_5 (List.mem_of_getElem? (i := 157) rfl) rfl
theorem wm_965 : (Cond.selects RX4 yX4_image yX4_image) ∈ wsL_law := wt_5 (List.mem_of_getElem? (i := 158) rfl) rfl
theorem wm_966 : (Cond.code yX4_image cX4_image 1 (some .int)) ∈ wsL_law := wt_5 (List.mem_of_getElem? (i := 159) rfl) rfl
theorem wm_967 : (Cond.fieldLink RX4 273 "OysterSecretsModel" "isKept" "Z") ∈ wsL_law := wt_3 (List.mem_of_getElem? (i := 201) rfl) rfl
theorem wm_968 : (Cond.methodLink RL 183 yX3_undo) ∈ wsL_law := wt_3 (List.mem_of_getElem? (i := 171) rfl) rfl
theorem wm_969 : (Cond.instanceMethod yX3_undo) ∈ wsL_law := wt_3 (List.mem_of_getElem? (i := 172) rfl) rfl
theorem wm_970 : (Cond.selects RX3 yX3_undo yX3_undo) ∈ wsL_law := wt_3 (List.mem_of_getElem? (i := 173) rfl) rfl
theorem wm_971 : (Cond.code yX3_undo cX3_undo 1 (some .int)) ∈ wsL_law := wt_3 (List.mem_of_getElem? (i := 174) rfl) rfl
theorem wm_972 : (Cond.methodLink RL 186 yX4_undo) ∈ wsL_law := wt_5 (List.mem_of_getElem? (i := 160) rfl) rfl
theorem wm_973 : (Cond.instanceMethod yX4_undo) ∈ wsL_law := wt_5 (List.mem_of_getElem? (i := 161) rfl) rfl
theorem wm_974 : (Cond.selects RX4 yX4_undo yX4_undo) ∈ wsL_law := wt_5 (List.mem_of_getElem? (i := 162) rfl) rfl
theorem wm_975 : (Cond.code yX4_undo cX4_undo 1 (some .int)) ∈ wsL_law := wt_5 (List.mem_of_getElem? (i := 163) rfl) rfl
theorem wm_976 : (Cond.methodLink RL 187 yX3_tear) ∈ wsL_law := wt_3 (List.mem_of_getElem? (i := 175) rfl) rfl
theorem wm_977 : (Cond.instanceMethod yX3_tear) ∈ wsL_law := wt_3 (List.mem_of_getElem? (i := 176) rfl) rfl
theorem wm_978 : (Cond.selects RX3 yX3_tear yX3_tear) ∈ wsL_law := wt_3 (List.mem_of_getElem? (i := 177) rfl) rfl
theorem wm_979 : (Cond.code yX3_tear cX3_tear 2 (some .int)) ∈ wsL_law := wt_3 (List.mem_of_getElem? (i := 178) rfl) rfl
theorem wm_980 : (Cond.methodLink RL 190 yX4_tear) ∈ wsL_law := wt_5 (List.mem_of_getElem? (i := 164) rfl) rfl
theorem wm_981 : (Cond.instanceMethod yX4_tear) ∈ wsL_law := wt_5 (List.mem_of_getElem? (i := 165) rfl) rfl
theorem wm_982 : (Cond.selects RX4 yX4_tear yX4_tear) ∈ wsL_law := wt_5 (List.mem_of_getElem? (i := 166) rfl) rfl
theorem wm_983 : (Cond.code yX4_tear cX4_tear 2 (some .int)) ∈ wsL_law := wt_5 (List.mem_of_getElem? (i := 167) rfl) rfl
theorem wm_984 : (Cond.methodLink RL 191 yX3_count) ∈ wsL_law := wt_3 (List.mem_of_getElem? (i := 179) rfl) rfl
theorem wm_985 : (Cond.instanceMethod yX3_count) ∈ wsL_law := wt_3 (List.mem_of_getElem? (i := 180) rfl) rfl
theorem wm_986 : (Cond.selects RX3 yX3_count yX3_count) ∈ wsL_law := wt_3 (List.mem_of_getElem? (i := 181) rfl) rfl
theorem wm_987 : (Cond.code yX3_count cX3_count 2 (some .int)) ∈ wsL_law := wt_3 (List.mem_of_getElem? (i := 182) rfl) rfl
theorem wm_988 : (Cond.methodLink RX3 252 yX0_spotsHolding) ∈ wsL_law := wt_3 (List.mem_of_getElem? (i := 183) rfl) rfl
theorem wm_989 : (Cond.instanceMethod yX0_spotsHolding) ∈ wsL_law := wt_3 (List.mem_of_getElem? (i := 184) rfl) rfl
theorem wm_990 : (Cond.selects RX0 yX0_spotsHolding yX0_spotsHolding) ∈ wsL_law := wt_3 (List.mem_of_getElem? (i := 185) rfl) rfl
theorem wm_991 : (Cond.code yX0_spotsHolding cX0_spotsHolding 3 (some .int)) ∈ wsL_law := wt_3 (List.mem_of_getElem? (i := 186) rfl) rfl
theorem wm_992 : (Cond.methodLink RL 194 yX4_count) ∈ wsL_law := wt_5 (List.mem_of_getElem? (i := 168) rfl) rfl
theorem wm_993 : (Cond.instanceMethod yX4_count) ∈ wsL_law := wt_5 (List.mem_of_getElem? (i := 169) rfl) rfl
theorem wm_994 : (Cond.selects RX4 yX4_count yX4_count) ∈ wsL_law := wt_5 (List.mem_of_getElem? (i := 170) rfl) rfl
theorem wm_995 : (Cond.code yX4_count cX4_count 4 (some .int)) ∈ wsL_law := wt_5 (List.mem_of_getElem? (i := 171) rfl) rfl
theorem wm_996 : (Cond.methodLink RL 195 yX3_status) ∈ wsL_law := wt_3 (List.mem_of_getElem? (i := 187) rfl) rfl
theorem wm_997 : (Cond.instanceMethod yX3_status) ∈ wsL_law := wt_3 (List.mem_of_getElem? (i := 188) rfl) rfl
theorem wm_998 : (Cond.selects RX3 yX3_status yX3_status) ∈ wsL_law := wt_3 (List.mem_of_getElem? (i := 189) rfl) rfl
theorem wm_999 : (Cond.code yX3_status cX3_status 4 (some .int)) ∈ wsL_law := wt_3 (List.mem_of_getElem? (i := 190) rfl) rfl
theorem wm_1000 : (Cond.methodLink RL 198 yX4_status) ∈ wsL_law := wt_5 (List.mem_of_getElem? (i := 172) rfl) rfl
theorem wm_1001 : (Cond.instanceMethod yX4_status) ∈ wsL_law := wt_5 (List.mem_of_getElem? (i := 173) rfl) rfl
theorem wm_1002 : (Cond.selects RX4 yX4_status yX4_status) ∈ wsL_law := wt_5 (List.mem_of_getElem? (i := 174) rfl) rfl
theorem wm_1003 : (Cond.code yX4_status cX4_status 2 (some .int)) ∈ wsL_law := wt_5 (List.mem_of_getElem? (i := 175) rfl) rfl
theorem wm_1004 : (Cond.constantLong RX4 277 (-1)) ∈ wsL_law := wt_5 (List.mem_of_getElem? (i := 176) rfl) rfl
theorem inlX0 : ∀ w ∈ wsX00, w ∈ wsL_law := by
  show ∀ w ∈ ([.laysFinal RX0 "OysterSecrets$Estuary" "nacre" "[I", .laysFinal RX0 "OysterSecrets$Estuary" "cold" "[I", .laysFinal RX0 "OysterSecrets$Estuary" "kind" "[I", .laysFinal RX0 "OysterSecrets$Estuary" "home" "[I", .laysFinal RX0 "OysterSecrets$Estuary" "weight" "[I", .laysFinal RX0 "OysterSecrets$Estuary" "layers" "[I", .laysFinal RX0 "OysterSecrets$Estuary" "age" "[I", .laysFinal RX0 "OysterSecrets$Estuary" "shown" "[I", .laysFinal RX0 "OysterSecrets$Estuary" "spots" "[I", .lays RX0 "OysterSecrets$Estuary" "oysters" "I", .lays RX0 "OysterSecrets$Estuary" "coming" "I", .lays RX0 "OysterSecrets$Estuary" "year" "I", .lays RX0 "OysterSecrets$Estuary" "z" "I", .lays RX0 "OysterSecrets$Estuary" "takenUp" "I"] : List Cond), w ∈ wsL_law
  exact List.forall_mem_cons.mpr ⟨wt_1 (List.mem_of_getElem? (i := 59) rfl) rfl, List.forall_mem_cons.mpr ⟨wt_1 (List.mem_of_getElem? (i := 61) rfl) rfl, List.forall_mem_cons.mpr ⟨wt_1 (List.mem_of_getElem? (i := 63) rfl) rfl, List.forall_mem_cons.mpr ⟨wt_1 (List.mem_of_getElem? (i := 65) rfl) rfl, List.forall_mem_cons.mpr ⟨wt_1 (List.mem_of_getElem? (i := 67) rfl) rfl, List.forall_mem_cons.mpr ⟨wt_1 (List.mem_of_getElem? (i := 69) rfl) rfl, List.forall_mem_cons.mpr ⟨wt_1 (List.mem_of_getElem? (i := 71) rfl) rfl, List.forall_mem_cons.mpr ⟨wt_1 (List.mem_of_getElem? (i := 73) rfl) rfl, List.forall_mem_cons.mpr ⟨wt_1 (List.mem_of_getElem? (i := 75) rfl) rfl, List.forall_mem_cons.mpr ⟨wt_1 (List.mem_of_getElem? (i := 77) rfl) rfl, List.forall_mem_cons.mpr ⟨wt_1 (List.mem_of_getElem? (i := 79) rfl) rfl, List.forall_mem_cons.mpr ⟨wt_1 (List.mem_of_getElem? (i := 81) rfl) rfl, List.forall_mem_cons.mpr ⟨wt_1 (List.mem_of_getElem? (i := 83) rfl) rfl, List.forall_mem_cons.mpr ⟨wt_1 (List.mem_of_getElem? (i := 85) rfl) rfl, fun _ h => absurd h List.not_mem_nil⟩⟩⟩⟩⟩⟩⟩⟩⟩⟩⟩⟩⟩⟩
theorem inlX1 : ∀ w ∈ wsX10, w ∈ wsL_law := by
  show ∀ w ∈ ([.laysFinal RX1 "OysterSecrets$Sheet" "numbers" "[I", .lays RX1 "OysterSecrets$Sheet" "bits" "I", .lays RX1 "OysterSecrets$Sheet" "size" "I"] : List Cond), w ∈ wsL_law
  exact List.forall_mem_cons.mpr ⟨wt_1 (List.mem_of_getElem? (i := 134) rfl) rfl, List.forall_mem_cons.mpr ⟨wt_1 (List.mem_of_getElem? (i := 136) rfl) rfl, List.forall_mem_cons.mpr ⟨wt_1 (List.mem_of_getElem? (i := 138) rfl) rfl, fun _ h => absurd h List.not_mem_nil⟩⟩⟩
theorem inlX2 : ∀ w ∈ wsX20, w ∈ wsL_law := by
  show ∀ w ∈ ([.laysFinal RX2 "OysterSecrets$Tape" "bytes" "[I", .laysFinal RX2 "OysterSecrets$Tape" "sorts" "[I", .laysFinal RX2 "OysterSecrets$Tape" "starts" "[I", .laysFinal RX2 "OysterSecrets$Tape" "numbers" "[I", .lays RX2 "OysterSecrets$Tape" "size" "I", .lays RX2 "OysterSecrets$Tape" "tokens" "I", .lays RX2 "OysterSecrets$Tape" "at" "I", .lays RX2 "OysterSecrets$Tape" "value" "I"] : List Cond), w ∈ wsL_law
  exact List.forall_mem_cons.mpr ⟨wt_1 (List.mem_of_getElem? (i := 104) rfl) rfl, List.forall_mem_cons.mpr ⟨wt_1 (List.mem_of_getElem? (i := 106) rfl) rfl, List.forall_mem_cons.mpr ⟨wt_1 (List.mem_of_getElem? (i := 108) rfl) rfl, List.forall_mem_cons.mpr ⟨wt_1 (List.mem_of_getElem? (i := 110) rfl) rfl, List.forall_mem_cons.mpr ⟨wt_1 (List.mem_of_getElem? (i := 112) rfl) rfl, List.forall_mem_cons.mpr ⟨wt_1 (List.mem_of_getElem? (i := 114) rfl) rfl, List.forall_mem_cons.mpr ⟨wt_1 (List.mem_of_getElem? (i := 116) rfl) rfl, List.forall_mem_cons.mpr ⟨wt_1 (List.mem_of_getElem? (i := 118) rfl) rfl, fun _ h => absurd h List.not_mem_nil⟩⟩⟩⟩⟩⟩⟩⟩
theorem inlX3 : ∀ w ∈ wsX30, w ∈ wsL_law := by
  show ∀ w ∈ ([.laysFinal RX3 "OysterSecrets" "live" "LOysterSecrets$Estuary;", .laysFinal RX3 "OysterSecrets" "trial" "LOysterSecrets$Estuary;", .laysFinal RX3 "OysterSecrets" "kept" "LOysterSecrets$Estuary;", .lays RX3 "OysterSecrets" "hasKept" "Z", .laysFinal RX3 "OysterSecrets" "tape" "LOysterSecrets$Tape;", .laysFinal RX3 "OysterSecrets" "sheets" "[LOysterSecrets$Sheet;", .laysFinal RX3 "OysterSecrets" "findings" "[I", .laysFinal RX3 "OysterSecrets" "sorted" "[I"] : List Cond), w ∈ wsL_law
  exact List.forall_mem_cons.mpr ⟨wt_1 (List.mem_of_getElem? (i := 149) rfl) rfl, List.forall_mem_cons.mpr ⟨wt_1 (List.mem_of_getElem? (i := 151) rfl) rfl, List.forall_mem_cons.mpr ⟨wt_1 (List.mem_of_getElem? (i := 153) rfl) rfl, List.forall_mem_cons.mpr ⟨wt_1 (List.mem_of_getElem? (i := 155) rfl) rfl, List.forall_mem_cons.mpr ⟨wt_1 (List.mem_of_getElem? (i := 157) rfl) rfl, List.forall_mem_cons.mpr ⟨wt_1 (List.mem_of_getElem? (i := 159) rfl) rfl, List.forall_mem_cons.mpr ⟨wt_1 (List.mem_of_getElem? (i := 161) rfl) rfl, List.forall_mem_cons.mpr ⟨wt_1 (List.mem_of_getElem? (i := 163) rfl) rfl, fun _ h => absurd h List.not_mem_nil⟩⟩⟩⟩⟩⟩⟩⟩
theorem inlX4 : ∀ w ∈ wsX40, w ∈ wsL_law := by
  show ∀ w ∈ ([.laysFinal RX4 "OysterSecretsModel" "s" "[I", .laysFinal RX4 "OysterSecretsModel" "kept" "[I", .laysFinal RX4 "OysterSecretsModel" "before" "[I", .laysFinal RX4 "OysterSecretsModel" "aside" "[I", .lays RX4 "OysterSecretsModel" "isKept" "Z", .laysFinal RX4 "OysterSecretsModel" "findings" "[I", .laysFinal RX4 "OysterSecretsModel" "tape" "[I", .lays RX4 "OysterSecretsModel" "taped" "I", .laysFinal RX4 "OysterSecretsModel" "bitsOf" "[I", .laysFinal RX4 "OysterSecretsModel" "sizes" "[I", .laysFinal RX4 "OysterSecretsModel" "numbers" "[I", .laysFinal RX4 "OysterSecretsModel" "line" "[I", .lays RX4 "OysterSecretsModel" "fitting" "I", .lays RX4 "OysterSecretsModel" "leastFit" "I", .lays RX4 "OysterSecretsModel" "token" "I", .lays RX4 "OysterSecretsModel" "from" "I", .lays RX4 "OysterSecretsModel" "to" "I", .lays RX4 "OysterSecretsModel" "value" "I", .lays RX4 "OysterSecretsModel" "faultAt" "I"] : List Cond), w ∈ wsL_law
  exact List.forall_mem_cons.mpr ⟨wt_3 (List.mem_of_getElem? (i := 216) rfl) rfl, List.forall_mem_cons.mpr ⟨wt_3 (List.mem_of_getElem? (i := 218) rfl) rfl, List.forall_mem_cons.mpr ⟨wt_3 (List.mem_of_getElem? (i := 220) rfl) rfl, List.forall_mem_cons.mpr ⟨wt_3 (List.mem_of_getElem? (i := 222) rfl) rfl, List.forall_mem_cons.mpr ⟨wt_3 (List.mem_of_getElem? (i := 224) rfl) rfl, List.forall_mem_cons.mpr ⟨wt_3 (List.mem_of_getElem? (i := 226) rfl) rfl, List.forall_mem_cons.mpr ⟨wt_3 (List.mem_of_getElem? (i := 228) rfl) rfl, List.forall_mem_cons.mpr ⟨wt_3 (List.mem_of_getElem? (i := 230) rfl) rfl, List.forall_mem_cons.mpr ⟨wt_3 (List.mem_of_getElem? (i := 232) rfl) rfl, List.forall_mem_cons.mpr ⟨wt_3 (List.mem_of_getElem? (i := 234) rfl) rfl, List.forall_mem_cons.mpr ⟨wt_3 (List.mem_of_getElem? (i := 236) rfl) rfl, List.forall_mem_cons.mpr ⟨wt_3 (List.mem_of_getElem? (i := 238) rfl) rfl, List.forall_mem_cons.mpr ⟨wt_4 (List.mem_of_getElem? (i := 0) rfl) rfl, List.forall_mem_cons.mpr ⟨wt_4 (List.mem_of_getElem? (i := 2) rfl) rfl, List.forall_mem_cons.mpr ⟨wt_4 (List.mem_of_getElem? (i := 4) rfl) rfl, List.forall_mem_cons.mpr ⟨wt_4 (List.mem_of_getElem? (i := 6) rfl) rfl, List.forall_mem_cons.mpr ⟨wt_4 (List.mem_of_getElem? (i := 8) rfl) rfl, List.forall_mem_cons.mpr ⟨wt_4 (List.mem_of_getElem? (i := 10) rfl) rfl, List.forall_mem_cons.mpr ⟨wt_4 (List.mem_of_getElem? (i := 12) rfl) rfl, fun _ h => absurd h List.not_mem_nil⟩⟩⟩⟩⟩⟩⟩⟩⟩⟩⟩⟩⟩⟩⟩⟩⟩⟩⟩
