def zT : List Cond := lw_tbl.filter goodWord
theorem zin1 {w : Cond} (h : w ∈ tables_1_1) (g : goodWord w = true) : w ∈ zT := List.mem_filter.mpr ⟨List.mem_append_right _ (List.mem_append_left _ h), g⟩
theorem zin2 {w : Cond} (h : w ∈ tables_1_2) (g : goodWord w = true) : w ∈ zT := List.mem_filter.mpr ⟨List.mem_append_right _ (List.mem_append_right _ (List.mem_append_left _ h)), g⟩
theorem zin3 {w : Cond} (h : w ∈ tables_1_3) (g : goodWord w = true) : w ∈ zT := List.mem_filter.mpr ⟨List.mem_append_right _ (List.mem_append_right _ (List.mem_append_right _ h)), g⟩
theorem zinp1 {w : Cond} (h : w ∈ k2_sels lw_privs_1) (g : goodWord w = true) : w ∈ zT := List.mem_filter.mpr ⟨List.mem_append_left _ (by unfold k2_sels lw_privs; rw [List.map_append]; exact List.mem_append_left _ h), g⟩
theorem zinp2 {w : Cond} (h : w ∈ k2_sels lw_privs_2) (g : goodWord w = true) : w ∈ zT := List.mem_filter.mpr ⟨List.mem_append_left _ (by unfold k2_sels lw_privs; rw [List.map_append]; exact List.mem_append_right _ h), g⟩
theorem zT_good : ∀ w ∈ zT, (w.onTables && w.keeps) = true ∨ ∃ ty, w = .arrayClass ty := fun _ h => good_of_word (List.mem_filter.mp h).2
theorem zT_in : ∀ w ∈ zT, w ∈ lw_tbl := fun _ h => (List.mem_filter.mp h).1
theorem zT_all (c0 : Cond) {w0 : Cond} (h : w0 ∈ zT) : GoodIn (c0 :: zT) (w0 :: zT) := fun w hw => by
  rcases List.mem_cons.mp hw with e | e
  · rw [e]; exact ⟨List.mem_cons_of_mem _ h, zT_good _ h⟩
  · exact ⟨List.mem_cons_of_mem _ e, zT_good _ e⟩
theorem zw_1_0 : Cond.initialized RL ∈ zT := zin1 (List.mem_of_getElem? (i := 0) rfl) rfl
theorem zw_1_1 : Cond.initialized RX3 ∈ zT := zin1 (List.mem_of_getElem? (i := 1) rfl) rfl
theorem zw_1_2 : Cond.initialized RX0 ∈ zT := zin1 (List.mem_of_getElem? (i := 2) rfl) rfl
theorem zw_1_3 : Cond.initialized RX2 ∈ zT := zin1 (List.mem_of_getElem? (i := 3) rfl) rfl
theorem zw_1_4 : Cond.initialized RX1 ∈ zT := zin1 (List.mem_of_getElem? (i := 4) rfl) rfl
theorem zw_1_5 : Cond.initialized RX4 ∈ zT := zin1 (List.mem_of_getElem? (i := 5) rfl) rfl
theorem zw_1_6 : Cond.initialized RJ9 ∈ zT := zin1 (List.mem_of_getElem? (i := 6) rfl) rfl
theorem zw_1_7 : Cond.initialized RJ10 ∈ zT := zin1 (List.mem_of_getElem? (i := 7) rfl) rfl
theorem zw_1_8 : Cond.classLink RL 7 RX3 ∈ zT := zin1 (List.mem_of_getElem? (i := 8) rfl) rfl
theorem zw_1_9 : Cond.instantiable RX3 7 ∈ zT := zin1 (List.mem_of_getElem? (i := 9) rfl) rfl
theorem zw_1_10 : Cond.methodLink RL 9 yX3_init ∈ zT := zin1 (List.mem_of_getElem? (i := 10) rfl) rfl
theorem zw_1_11 : Cond.instanceMethod yX3_init ∈ zT := zin1 (List.mem_of_getElem? (i := 11) rfl) rfl
theorem zw_1_12 : Cond.code yX3_init cX3_init 1 none ∈ zT := zin1 (List.mem_of_getElem? (i := 12) rfl) rfl
theorem zw_1_13 : Cond.methodLink RX3 3 objectInit ∈ zT := zin1 (List.mem_of_getElem? (i := 13) rfl) rfl
theorem zw_1_14 : Cond.instanceMethod objectInit ∈ zT := zin1 (List.mem_of_getElem? (i := 14) rfl) rfl
theorem zw_1_15 : Cond.code objectInit object_method_1_code 1 none ∈ zT := zin1 (List.mem_of_getElem? (i := 15) rfl) rfl
theorem zw_1_16 : Cond.classLink RX3 9 RX0 ∈ zT := zin1 (List.mem_of_getElem? (i := 16) rfl) rfl
theorem zw_1_17 : Cond.instantiable RX0 5 ∈ zT := zin1 (List.mem_of_getElem? (i := 17) rfl) rfl
theorem zw_1_19 : Cond.instanceMethod yX0_init ∈ zT := zin1 (List.mem_of_getElem? (i := 19) rfl) rfl
theorem zw_1_20 : Cond.code yX0_init cX0_init 1 none ∈ zT := zin1 (List.mem_of_getElem? (i := 20) rfl) rfl
theorem zw_1_21 : Cond.methodLink RX0 3 objectInit ∈ zT := zin1 (List.mem_of_getElem? (i := 21) rfl) rfl
theorem zw_1_23 : Cond.fieldLink RX0 38 "VeinCourt$Book" "clock" "I" ∈ zT := zin1 (List.mem_of_getElem? (i := 23) rfl) rfl
theorem zw_1_24 : Cond.fieldLink RX0 18 "VeinCourt$Book" "count" "I" ∈ zT := zin1 (List.mem_of_getElem? (i := 24) rfl) rfl
theorem zw_1_28 : Cond.fieldLink RX0 45 "VeinCourt$Book" "stakes" "I" ∈ zT := zin1 (List.mem_of_getElem? (i := 28) rfl) rfl
theorem zw_1_29 : Cond.fieldLink RX0 9 "VeinCourt$Book" "cells" "[I" ∈ zT := zin1 (List.mem_of_getElem? (i := 29) rfl) rfl
theorem zw_1_30 : Cond.fieldLink RX0 15 "VeinCourt$Book" "order" "[I" ∈ zT := zin1 (List.mem_of_getElem? (i := 30) rfl) rfl
theorem zw_1_32 : Cond.lays "VeinCourt$Book" "VeinCourt$Book" "clock" "I" ∈ zT := zin1 (List.mem_of_getElem? (i := 32) rfl) rfl
theorem zw_1_34 : Cond.lays "VeinCourt$Book" "VeinCourt$Book" "count" "I" ∈ zT := zin1 (List.mem_of_getElem? (i := 34) rfl) rfl
theorem zw_1_36 : Cond.lays "VeinCourt$Book" "VeinCourt$Book" "stakes" "I" ∈ zT := zin1 (List.mem_of_getElem? (i := 36) rfl) rfl
theorem zw_1_38 : Cond.laysFinal "VeinCourt$Book" "VeinCourt$Book" "cells" "[I" ∈ zT := zin1 (List.mem_of_getElem? (i := 38) rfl) rfl
theorem zw_1_40 : Cond.laysFinal "VeinCourt$Book" "VeinCourt$Book" "order" "[I" ∈ zT := zin1 (List.mem_of_getElem? (i := 40) rfl) rfl
theorem zw_1_43 : Cond.arrayClass Jvm.ClassFile.FieldType.int ∈ zT := zin1 (List.mem_of_getElem? (i := 43) rfl) rfl
theorem zw_1_44 : Cond.classLink RX3 30 RX2 ∈ zT := zin1 (List.mem_of_getElem? (i := 44) rfl) rfl
theorem zw_1_45 : Cond.instantiable RX2 3 ∈ zT := zin1 (List.mem_of_getElem? (i := 45) rfl) rfl
theorem zw_1_46 : Cond.methodLink RX3 32 yX2_init ∈ zT := zin1 (List.mem_of_getElem? (i := 46) rfl) rfl
theorem zw_1_47 : Cond.instanceMethod yX2_init ∈ zT := zin1 (List.mem_of_getElem? (i := 47) rfl) rfl
theorem zw_1_48 : Cond.code yX2_init cX2_init 2 none ∈ zT := zin1 (List.mem_of_getElem? (i := 48) rfl) rfl
theorem zw_1_49 : Cond.methodLink RX2 3 objectInit ∈ zT := zin1 (List.mem_of_getElem? (i := 49) rfl) rfl
theorem zw_1_50 : Cond.classLink RX2 9 RX1 ∈ zT := zin1 (List.mem_of_getElem? (i := 50) rfl) rfl
theorem zw_1_52 : Cond.instantiable RX1 12 ∈ zT := zin1 (List.mem_of_getElem? (i := 52) rfl) rfl
theorem zw_1_54 : Cond.instanceMethod yX1_init ∈ zT := zin1 (List.mem_of_getElem? (i := 54) rfl) rfl
theorem zw_1_55 : Cond.code yX1_init cX1_init 1 none ∈ zT := zin1 (List.mem_of_getElem? (i := 55) rfl) rfl
theorem zw_1_56 : Cond.methodLink RX1 3 objectInit ∈ zT := zin1 (List.mem_of_getElem? (i := 56) rfl) rfl
theorem zw_1_57 : Cond.fieldLink RX1 15 "VeinCourt$Claim" "stands" "Z" ∈ zT := zin1 (List.mem_of_getElem? (i := 57) rfl) rfl
theorem zw_1_59 : Cond.fieldLink RX1 19 "VeinCourt$Claim" "number" "I" ∈ zT := zin1 (List.mem_of_getElem? (i := 59) rfl) rfl
theorem zw_1_62 : Cond.fieldLink RX1 29 "VeinCourt$Claim" "vein" "I" ∈ zT := zin1 (List.mem_of_getElem? (i := 62) rfl) rfl
theorem zw_1_64 : Cond.fieldLink RX1 50 "VeinCourt$Claim" "first" "I" ∈ zT := zin1 (List.mem_of_getElem? (i := 64) rfl) rfl
theorem zw_1_67 : Cond.fieldLink RX1 53 "VeinCourt$Claim" "last" "I" ∈ zT := zin1 (List.mem_of_getElem? (i := 67) rfl) rfl
theorem zw_1_71 : Cond.fieldLink RX1 66 "VeinCourt$Claim" "holder" "I" ∈ zT := zin1 (List.mem_of_getElem? (i := 71) rfl) rfl
theorem zw_1_73 : Cond.fieldLink RX1 60 "VeinCourt$Claim" "worked" "I" ∈ zT := zin1 (List.mem_of_getElem? (i := 73) rfl) rfl
theorem zw_1_75 : Cond.fieldLink RX1 63 "VeinCourt$Claim" "nicks" "I" ∈ zT := zin1 (List.mem_of_getElem? (i := 75) rfl) rfl
theorem zw_1_77 : Cond.fieldLink RX1 73 "VeinCourt$Claim" "nicker" "I" ∈ zT := zin1 (List.mem_of_getElem? (i := 77) rfl) rfl
theorem zw_1_78 : Cond.fieldLink RX1 76 "VeinCourt$Claim" "firstNick" "I" ∈ zT := zin1 (List.mem_of_getElem? (i := 78) rfl) rfl
theorem zw_1_79 : Cond.fieldLink RX1 79 "VeinCourt$Claim" "lastNick" "I" ∈ zT := zin1 (List.mem_of_getElem? (i := 79) rfl) rfl
theorem zw_1_80 : Cond.fieldLink RX1 9 "VeinCourt$Claim" "shares" "[I" ∈ zT := zin1 (List.mem_of_getElem? (i := 80) rfl) rfl
theorem zw_1_83 : Cond.lays "VeinCourt$Claim" "VeinCourt$Claim" "stands" "Z" ∈ zT := zin1 (List.mem_of_getElem? (i := 83) rfl) rfl
theorem zw_1_85 : Cond.lays "VeinCourt$Claim" "VeinCourt$Claim" "number" "I" ∈ zT := zin1 (List.mem_of_getElem? (i := 85) rfl) rfl
theorem zw_1_87 : Cond.lays "VeinCourt$Claim" "VeinCourt$Claim" "vein" "I" ∈ zT := zin1 (List.mem_of_getElem? (i := 87) rfl) rfl
theorem zw_1_89 : Cond.lays "VeinCourt$Claim" "VeinCourt$Claim" "first" "I" ∈ zT := zin1 (List.mem_of_getElem? (i := 89) rfl) rfl
theorem zw_1_91 : Cond.lays "VeinCourt$Claim" "VeinCourt$Claim" "last" "I" ∈ zT := zin1 (List.mem_of_getElem? (i := 91) rfl) rfl
theorem zw_1_93 : Cond.lays "VeinCourt$Claim" "VeinCourt$Claim" "holder" "I" ∈ zT := zin1 (List.mem_of_getElem? (i := 93) rfl) rfl
theorem zw_1_95 : Cond.lays "VeinCourt$Claim" "VeinCourt$Claim" "worked" "I" ∈ zT := zin1 (List.mem_of_getElem? (i := 95) rfl) rfl
theorem zw_1_97 : Cond.lays "VeinCourt$Claim" "VeinCourt$Claim" "nicks" "I" ∈ zT := zin1 (List.mem_of_getElem? (i := 97) rfl) rfl
theorem zw_1_99 : Cond.lays "VeinCourt$Claim" "VeinCourt$Claim" "nicker" "I" ∈ zT := zin1 (List.mem_of_getElem? (i := 99) rfl) rfl
theorem zw_1_101 : Cond.lays "VeinCourt$Claim" "VeinCourt$Claim" "firstNick" "I" ∈ zT := zin1 (List.mem_of_getElem? (i := 101) rfl) rfl
theorem zw_1_103 : Cond.lays "VeinCourt$Claim" "VeinCourt$Claim" "lastNick" "I" ∈ zT := zin1 (List.mem_of_getElem? (i := 103) rfl) rfl
theorem zw_1_105 : Cond.laysFinal "VeinCourt$Claim" "VeinCourt$Claim" "shares" "[I" ∈ zT := zin1 (List.mem_of_getElem? (i := 105) rfl) rfl
theorem zw_1_108 : Cond.fieldLink RX2 46 "VeinCourt$Standing" "count" "I" ∈ zT := zin1 (List.mem_of_getElem? (i := 108) rfl) rfl
theorem zw_1_109 : Cond.fieldLink RX2 11 "VeinCourt$Standing" "claims" "[LVeinCourt$Claim;" ∈ zT := zin1 (List.mem_of_getElem? (i := 109) rfl) rfl
theorem zw_1_110 : Cond.fieldLink RX2 17 "VeinCourt$Standing" "ore" "[I" ∈ zT := zin1 (List.mem_of_getElem? (i := 110) rfl) rfl
theorem zw_1_112 : Cond.lays "VeinCourt$Standing" "VeinCourt$Standing" "count" "I" ∈ zT := zin1 (List.mem_of_getElem? (i := 112) rfl) rfl
theorem zw_1_114 : Cond.laysFinal "VeinCourt$Standing" "VeinCourt$Standing" "claims" "[LVeinCourt$Claim;" ∈ zT := zin1 (List.mem_of_getElem? (i := 114) rfl) rfl
theorem zw_1_116 : Cond.laysFinal "VeinCourt$Standing" "VeinCourt$Standing" "ore" "[I" ∈ zT := zin1 (List.mem_of_getElem? (i := 116) rfl) rfl
theorem zw_1_119 : Cond.fieldLink RX3 12 "VeinCourt" "book" "LVeinCourt$Book;" ∈ zT := zin1 (List.mem_of_getElem? (i := 119) rfl) rfl
theorem zw_1_120 : Cond.fieldLink RX3 16 "VeinCourt" "keptBook" "LVeinCourt$Book;" ∈ zT := zin1 (List.mem_of_getElem? (i := 120) rfl) rfl
theorem zw_1_121 : Cond.fieldLink RX3 19 "VeinCourt" "anythingKept" "Z" ∈ zT := zin1 (List.mem_of_getElem? (i := 121) rfl) rfl
theorem zw_1_122 : Cond.fieldLink RX3 23 "VeinCourt" "reach" "I" ∈ zT := zin1 (List.mem_of_getElem? (i := 122) rfl) rfl
theorem zw_1_123 : Cond.fieldLink RX3 27 "VeinCourt" "idleDays" "I" ∈ zT := zin1 (List.mem_of_getElem? (i := 123) rfl) rfl
theorem zw_1_124 : Cond.fieldLink RX3 33 "VeinCourt" "standing" "LVeinCourt$Standing;" ∈ zT := zin1 (List.mem_of_getElem? (i := 124) rfl) rfl
theorem zw_1_125 : Cond.fieldLink RX3 37 "VeinCourt" "holders" "[I" ∈ zT := zin1 (List.mem_of_getElem? (i := 125) rfl) rfl
theorem zw_1_126 : Cond.laysFinal "VeinCourt" "VeinCourt" "book" "LVeinCourt$Book;" ∈ zT := zin1 (List.mem_of_getElem? (i := 126) rfl) rfl
theorem zw_1_128 : Cond.laysFinal "VeinCourt" "VeinCourt" "keptBook" "LVeinCourt$Book;" ∈ zT := zin1 (List.mem_of_getElem? (i := 128) rfl) rfl
theorem zw_1_130 : Cond.lays "VeinCourt" "VeinCourt" "anythingKept" "Z" ∈ zT := zin1 (List.mem_of_getElem? (i := 130) rfl) rfl
theorem zw_1_132 : Cond.lays "VeinCourt" "VeinCourt" "reach" "I" ∈ zT := zin1 (List.mem_of_getElem? (i := 132) rfl) rfl
theorem zw_1_134 : Cond.lays "VeinCourt" "VeinCourt" "idleDays" "I" ∈ zT := zin1 (List.mem_of_getElem? (i := 134) rfl) rfl
theorem zw_1_136 : Cond.laysFinal "VeinCourt" "VeinCourt" "standing" "LVeinCourt$Standing;" ∈ zT := zin1 (List.mem_of_getElem? (i := 136) rfl) rfl
theorem zw_1_138 : Cond.laysFinal "VeinCourt" "VeinCourt" "holders" "[I" ∈ zT := zin1 (List.mem_of_getElem? (i := 138) rfl) rfl
theorem zw_1_141 : Cond.methodLink RL 13 yX3_day ∈ zT := zin1 (List.mem_of_getElem? (i := 141) rfl) rfl
theorem zw_1_142 : Cond.instanceMethod yX3_day ∈ zT := zin1 (List.mem_of_getElem? (i := 142) rfl) rfl
theorem zw_1_143 : Cond.selects RX3 yX3_day yX3_day ∈ zT := zin1 (List.mem_of_getElem? (i := 143) rfl) rfl
theorem zw_1_144 : Cond.code yX3_day cX3_day 2 (some .int) ∈ zT := zin1 (List.mem_of_getElem? (i := 144) rfl) rfl
theorem zw_1_145 : Cond.methodLink RX3 41 yX3_isWithin ∈ zT := zin1 (List.mem_of_getElem? (i := 145) rfl) rfl
theorem zw_1_146 : Cond.static yX3_isWithin ∈ zT := zin1 (List.mem_of_getElem? (i := 146) rfl) rfl
theorem zw_1_147 : Cond.code yX3_isWithin cX3_isWithin 3 (some .boolean) ∈ zT := zin1 (List.mem_of_getElem? (i := 147) rfl) rfl
theorem zw_1_148 : Cond.methodLink RL 18 yX3_rule ∈ zT := zin1 (List.mem_of_getElem? (i := 148) rfl) rfl
theorem zw_1_149 : Cond.instanceMethod yX3_rule ∈ zT := zin1 (List.mem_of_getElem? (i := 149) rfl) rfl
theorem zw_1_150 : Cond.selects RX3 yX3_rule yX3_rule ∈ zT := zin1 (List.mem_of_getElem? (i := 150) rfl) rfl
theorem zw_1_151 : Cond.code yX3_rule cX3_rule 4 (some .int) ∈ zT := zin1 (List.mem_of_getElem? (i := 151) rfl) rfl
theorem zw_1_152 : Cond.methodLink RL 23 yX3_stake ∈ zT := zin1 (List.mem_of_getElem? (i := 152) rfl) rfl
theorem zw_1_153 : Cond.instanceMethod yX3_stake ∈ zT := zin1 (List.mem_of_getElem? (i := 153) rfl) rfl
theorem zw_1_154 : Cond.selects RX3 yX3_stake yX3_stake ∈ zT := zin1 (List.mem_of_getElem? (i := 154) rfl) rfl
theorem zw_1_155 : Cond.code yX3_stake cX3_stake 6 (some .int) ∈ zT := zin1 (List.mem_of_getElem? (i := 155) rfl) rfl
theorem zw_1_156 : Cond.methodLink RX3 48 yX3_isPast ∈ zT := zin1 (List.mem_of_getElem? (i := 156) rfl) rfl
theorem zw_1_158 : Cond.instanceMethod yX3_isPast ∈ zT := zin1 (List.mem_of_getElem? (i := 158) rfl) rfl
theorem zw_1_159 : Cond.code yX3_isPast cX3_isPast 2 (some .boolean) ∈ zT := zin1 (List.mem_of_getElem? (i := 159) rfl) rfl
theorem zw_1_160 : Cond.methodLink RX3 52 yX3_isVein ∈ zT := zin1 (List.mem_of_getElem? (i := 160) rfl) rfl
theorem zw_1_161 : Cond.static yX3_isVein ∈ zT := zin1 (List.mem_of_getElem? (i := 161) rfl) rfl
theorem zw_1_162 : Cond.code yX3_isVein cX3_isVein 1 (some .boolean) ∈ zT := zin1 (List.mem_of_getElem? (i := 162) rfl) rfl
theorem zw_1_163 : Cond.methodLink RX3 55 yX3_isFoot ∈ zT := zin1 (List.mem_of_getElem? (i := 163) rfl) rfl
theorem zw_1_164 : Cond.static yX3_isFoot ∈ zT := zin1 (List.mem_of_getElem? (i := 164) rfl) rfl
theorem zw_1_165 : Cond.code yX3_isFoot cX3_isFoot 1 (some .boolean) ∈ zT := zin1 (List.mem_of_getElem? (i := 165) rfl) rfl
theorem zw_1_166 : Cond.methodLink RX3 58 yX3_isMiner ∈ zT := zin1 (List.mem_of_getElem? (i := 166) rfl) rfl
theorem zw_1_167 : Cond.static yX3_isMiner ∈ zT := zin1 (List.mem_of_getElem? (i := 167) rfl) rfl
theorem zw_1_168 : Cond.code yX3_isMiner cX3_isMiner 1 (some .boolean) ∈ zT := zin1 (List.mem_of_getElem? (i := 168) rfl) rfl
theorem zw_1_169 : Cond.methodLink RX3 61 yX0_isFull ∈ zT := zin1 (List.mem_of_getElem? (i := 169) rfl) rfl
theorem zw_1_170 : Cond.instanceMethod yX0_isFull ∈ zT := zin1 (List.mem_of_getElem? (i := 170) rfl) rfl
theorem zw_1_171 : Cond.selects RX0 yX0_isFull yX0_isFull ∈ zT := zin1 (List.mem_of_getElem? (i := 171) rfl) rfl
theorem zw_1_172 : Cond.code yX0_isFull cX0_isFull 1 (some .boolean) ∈ zT := zin1 (List.mem_of_getElem? (i := 172) rfl) rfl
theorem zw_1_173 : Cond.methodLink RX3 68 yX0_append ∈ zT := zin1 (List.mem_of_getElem? (i := 173) rfl) rfl
theorem zw_1_174 : Cond.instanceMethod yX0_append ∈ zT := zin1 (List.mem_of_getElem? (i := 174) rfl) rfl
theorem zw_1_175 : Cond.selects RX0 yX0_append yX0_append ∈ zT := zin1 (List.mem_of_getElem? (i := 175) rfl) rfl
theorem zw_1_176 : Cond.code yX0_append cX0_append 6 (some .int) ∈ zT := zin1 (List.mem_of_getElem? (i := 176) rfl) rfl
theorem zw_1_177 : Cond.methodLink RX0 30 yX0_put ∈ zT := zin1 (List.mem_of_getElem? (i := 177) rfl) rfl
theorem zw_1_178 : Cond.instanceMethod yX0_put ∈ zT := zin1 (List.mem_of_getElem? (i := 178) rfl) rfl
theorem zw_1_179 : Cond.selects RX0 yX0_put yX0_put ∈ zT := zin1 (List.mem_of_getElem? (i := 179) rfl) rfl
theorem zw_1_180 : Cond.code yX0_put cX0_put 4 none ∈ zT := zin1 (List.mem_of_getElem? (i := 180) rfl) rfl
theorem zw_1_181 : Cond.methodLink RX0 41 yX0_setInOrder ∈ zT := zin1 (List.mem_of_getElem? (i := 181) rfl) rfl
theorem zw_1_183 : Cond.instanceMethod yX0_setInOrder ∈ zT := zin1 (List.mem_of_getElem? (i := 183) rfl) rfl
theorem zw_1_184 : Cond.code yX0_setInOrder cX0_setInOrder 4 none ∈ zT := zin1 (List.mem_of_getElem? (i := 184) rfl) rfl
theorem zw_1_185 : Cond.methodLink RX0 22 yX0_get ∈ zT := zin1 (List.mem_of_getElem? (i := 185) rfl) rfl
theorem zw_1_186 : Cond.instanceMethod yX0_get ∈ zT := zin1 (List.mem_of_getElem? (i := 186) rfl) rfl
theorem zw_1_187 : Cond.selects RX0 yX0_get yX0_get ∈ zT := zin1 (List.mem_of_getElem? (i := 187) rfl) rfl
theorem zw_1_188 : Cond.code yX0_get cX0_get 3 (some .int) ∈ zT := zin1 (List.mem_of_getElem? (i := 188) rfl) rfl
theorem zw_1_189 : Cond.methodLink RX3 72 yX0_put ∈ zT := zin1 (List.mem_of_getElem? (i := 189) rfl) rfl
theorem zw_1_190 : Cond.methodLink RX3 76 yJ9_max_7cf53 ∈ zT := zin1 (List.mem_of_getElem? (i := 190) rfl) rfl
theorem zw_1_191 : Cond.static yJ9_max_7cf53 ∈ zT := zin1 (List.mem_of_getElem? (i := 191) rfl) rfl
theorem zw_1_192 : Cond.code yJ9_max_7cf53 cJ9_max_7cf53 2 (some .int) ∈ zT := zin1 (List.mem_of_getElem? (i := 192) rfl) rfl
theorem zw_1_193 : Cond.methodLink RX3 82 yJ9_min_7cf53 ∈ zT := zin1 (List.mem_of_getElem? (i := 193) rfl) rfl
theorem zw_1_194 : Cond.static yJ9_min_7cf53 ∈ zT := zin1 (List.mem_of_getElem? (i := 194) rfl) rfl
theorem zw_1_195 : Cond.code yJ9_min_7cf53 cJ9_min_7cf53 2 (some .int) ∈ zT := zin1 (List.mem_of_getElem? (i := 195) rfl) rfl
theorem zw_1_196 : Cond.methodLink RX3 85 yX0_putFeet ∈ zT := zin1 (List.mem_of_getElem? (i := 196) rfl) rfl
theorem zw_1_197 : Cond.instanceMethod yX0_putFeet ∈ zT := zin1 (List.mem_of_getElem? (i := 197) rfl) rfl
theorem zw_1_198 : Cond.selects RX0 yX0_putFeet yX0_putFeet ∈ zT := zin1 (List.mem_of_getElem? (i := 198) rfl) rfl
theorem zw_1_199 : Cond.code yX0_putFeet cX0_putFeet 4 none ∈ zT := zin1 (List.mem_of_getElem? (i := 199) rfl) rfl
theorem zw_1_200 : Cond.methodLink RL 28 yX3_work ∈ zT := zin1 (List.mem_of_getElem? (i := 200) rfl) rfl
theorem zw_1_201 : Cond.instanceMethod yX3_work ∈ zT := zin1 (List.mem_of_getElem? (i := 201) rfl) rfl
theorem zw_1_202 : Cond.selects RX3 yX3_work yX3_work ∈ zT := zin1 (List.mem_of_getElem? (i := 202) rfl) rfl
theorem zw_1_203 : Cond.code yX3_work cX3_work 4 (some .int) ∈ zT := zin1 (List.mem_of_getElem? (i := 203) rfl) rfl
theorem zw_1_204 : Cond.methodLink RX3 88 yX3_refusalOfClaim ∈ zT := zin1 (List.mem_of_getElem? (i := 204) rfl) rfl
theorem zw_1_206 : Cond.instanceMethod yX3_refusalOfClaim ∈ zT := zin1 (List.mem_of_getElem? (i := 206) rfl) rfl
theorem zw_1_207 : Cond.code yX3_refusalOfClaim cX3_refusalOfClaim 4 (some .int) ∈ zT := zin1 (List.mem_of_getElem? (i := 207) rfl) rfl
theorem zw_1_208 : Cond.methodLink RX3 95 yX0_has ∈ zT := zin1 (List.mem_of_getElem? (i := 208) rfl) rfl
theorem zw_1_209 : Cond.instanceMethod yX0_has ∈ zT := zin1 (List.mem_of_getElem? (i := 209) rfl) rfl
theorem zw_1_210 : Cond.selects RX0 yX0_has yX0_has ∈ zT := zin1 (List.mem_of_getElem? (i := 210) rfl) rfl
theorem zw_1_211 : Cond.code yX0_has cX0_has 2 (some .boolean) ∈ zT := zin1 (List.mem_of_getElem? (i := 211) rfl) rfl
theorem zw_1_212 : Cond.methodLink RX3 124 yX0_isStake ∈ zT := zin1 (List.mem_of_getElem? (i := 212) rfl) rfl
theorem zw_1_213 : Cond.instanceMethod yX0_isStake ∈ zT := zin1 (List.mem_of_getElem? (i := 213) rfl) rfl
theorem zw_1_214 : Cond.selects RX0 yX0_isStake yX0_isStake ∈ zT := zin1 (List.mem_of_getElem? (i := 214) rfl) rfl
theorem zw_1_215 : Cond.code yX0_isStake cX0_isStake 2 (some .boolean) ∈ zT := zin1 (List.mem_of_getElem? (i := 215) rfl) rfl
theorem zw_1_216 : Cond.methodLink RX3 92 yX0_appendOf ∈ zT := zin1 (List.mem_of_getElem? (i := 216) rfl) rfl
theorem zw_1_217 : Cond.instanceMethod yX0_appendOf ∈ zT := zin1 (List.mem_of_getElem? (i := 217) rfl) rfl
theorem zw_1_218 : Cond.selects RX0 yX0_appendOf yX0_appendOf ∈ zT := zin1 (List.mem_of_getElem? (i := 218) rfl) rfl
theorem zw_1_219 : Cond.code yX0_appendOf cX0_appendOf 5 (some .int) ∈ zT := zin1 (List.mem_of_getElem? (i := 219) rfl) rfl
theorem zw_1_220 : Cond.methodLink RX0 34 yX0_append ∈ zT := zin1 (List.mem_of_getElem? (i := 220) rfl) rfl
theorem zw_1_221 : Cond.methodLink RL 32 yX3_nick ∈ zT := zin1 (List.mem_of_getElem? (i := 221) rfl) rfl
theorem zw_1_222 : Cond.instanceMethod yX3_nick ∈ zT := zin1 (List.mem_of_getElem? (i := 222) rfl) rfl
theorem zw_1_223 : Cond.selects RX3 yX3_nick yX3_nick ∈ zT := zin1 (List.mem_of_getElem? (i := 223) rfl) rfl
theorem zw_1_224 : Cond.code yX3_nick cX3_nick 6 (some .int) ∈ zT := zin1 (List.mem_of_getElem? (i := 224) rfl) rfl
theorem zw_1_225 : Cond.methodLink RL 37 yX3_give ∈ zT := zin1 (List.mem_of_getElem? (i := 225) rfl) rfl
theorem zw_1_226 : Cond.instanceMethod yX3_give ∈ zT := zin1 (List.mem_of_getElem? (i := 226) rfl) rfl
theorem zw_1_227 : Cond.selects RX3 yX3_give yX3_give ∈ zT := zin1 (List.mem_of_getElem? (i := 227) rfl) rfl
theorem zw_1_228 : Cond.code yX3_give cX3_give 4 (some .int) ∈ zT := zin1 (List.mem_of_getElem? (i := 228) rfl) rfl
theorem zw_1_229 : Cond.methodLink RL 41 yX3_view ∈ zT := zin1 (List.mem_of_getElem? (i := 229) rfl) rfl
theorem zw_1_230 : Cond.instanceMethod yX3_view ∈ zT := zin1 (List.mem_of_getElem? (i := 230) rfl) rfl
theorem zw_1_231 : Cond.selects RX3 yX3_view yX3_view ∈ zT := zin1 (List.mem_of_getElem? (i := 231) rfl) rfl
theorem zw_1_232 : Cond.code yX3_view cX3_view 7 (some .int) ∈ zT := zin1 (List.mem_of_getElem? (i := 232) rfl) rfl
theorem zw_1_233 : Cond.methodLink RL 45 yX3_sell ∈ zT := zin1 (List.mem_of_getElem? (i := 233) rfl) rfl
theorem zw_1_234 : Cond.instanceMethod yX3_sell ∈ zT := zin1 (List.mem_of_getElem? (i := 234) rfl) rfl
theorem zw_1_235 : Cond.selects RX3 yX3_sell yX3_sell ∈ zT := zin1 (List.mem_of_getElem? (i := 235) rfl) rfl
theorem zw_1_236 : Cond.code yX3_sell cX3_sell 9 (some .int) ∈ zT := zin1 (List.mem_of_getElem? (i := 236) rfl) rfl
theorem zw_1_237 : Cond.methodLink RL 50 yX3_dig ∈ zT := zin1 (List.mem_of_getElem? (i := 237) rfl) rfl
theorem zw_1_238 : Cond.instanceMethod yX3_dig ∈ zT := zin1 (List.mem_of_getElem? (i := 238) rfl) rfl
theorem zw_1_239 : Cond.selects RX3 yX3_dig yX3_dig ∈ zT := zin1 (List.mem_of_getElem? (i := 239) rfl) rfl
theorem zw_2_0 : Cond.code yX3_dig cX3_dig 6 (some .int) ∈ zT := zin2 (List.mem_of_getElem? (i := 0) rfl) rfl
theorem zw_2_1 : Cond.methodLink RL 54 yX3_withdraw ∈ zT := zin2 (List.mem_of_getElem? (i := 1) rfl) rfl
theorem zw_2_2 : Cond.instanceMethod yX3_withdraw ∈ zT := zin2 (List.mem_of_getElem? (i := 2) rfl) rfl
theorem zw_2_3 : Cond.selects RX3 yX3_withdraw yX3_withdraw ∈ zT := zin2 (List.mem_of_getElem? (i := 3) rfl) rfl
theorem zw_2_4 : Cond.code yX3_withdraw cX3_withdraw 2 (some .int) ∈ zT := zin2 (List.mem_of_getElem? (i := 4) rfl) rfl
theorem zw_2_5 : Cond.methodLink RX3 98 yX0_isWithdrawn ∈ zT := zin2 (List.mem_of_getElem? (i := 5) rfl) rfl
theorem zw_2_6 : Cond.instanceMethod yX0_isWithdrawn ∈ zT := zin2 (List.mem_of_getElem? (i := 6) rfl) rfl
theorem zw_2_7 : Cond.selects RX0 yX0_isWithdrawn yX0_isWithdrawn ∈ zT := zin2 (List.mem_of_getElem? (i := 7) rfl) rfl
theorem zw_2_8 : Cond.code yX0_isWithdrawn cX0_isWithdrawn 2 (some .boolean) ∈ zT := zin2 (List.mem_of_getElem? (i := 8) rfl) rfl
theorem zw_2_9 : Cond.methodLink RL 58 yX3_fact ∈ zT := zin2 (List.mem_of_getElem? (i := 9) rfl) rfl
theorem zw_2_10 : Cond.instanceMethod yX3_fact ∈ zT := zin2 (List.mem_of_getElem? (i := 10) rfl) rfl
theorem zw_2_11 : Cond.selects RX3 yX3_fact yX3_fact ∈ zT := zin2 (List.mem_of_getElem? (i := 11) rfl) rfl
theorem zw_2_12 : Cond.code yX3_fact cX3_fact 3 (some .int) ∈ zT := zin2 (List.mem_of_getElem? (i := 12) rfl) rfl
theorem zw_2_13 : Cond.methodLink RX3 101 yX0_get ∈ zT := zin2 (List.mem_of_getElem? (i := 13) rfl) rfl
theorem zw_2_14 : Cond.methodLink RL 62 yX3_owner ∈ zT := zin2 (List.mem_of_getElem? (i := 14) rfl) rfl
theorem zw_2_15 : Cond.instanceMethod yX3_owner ∈ zT := zin2 (List.mem_of_getElem? (i := 15) rfl) rfl
theorem zw_2_16 : Cond.selects RX3 yX3_owner yX3_owner ∈ zT := zin2 (List.mem_of_getElem? (i := 16) rfl) rfl
theorem zw_2_17 : Cond.code yX3_owner cX3_owner 5 (some .int) ∈ zT := zin2 (List.mem_of_getElem? (i := 17) rfl) rfl
theorem zw_2_18 : Cond.methodLink RX3 104 yX3_areDays ∈ zT := zin2 (List.mem_of_getElem? (i := 18) rfl) rfl
theorem zw_2_19 : Cond.static yX3_areDays ∈ zT := zin2 (List.mem_of_getElem? (i := 19) rfl) rfl
theorem zw_2_20 : Cond.code yX3_areDays cX3_areDays 2 (some .boolean) ∈ zT := zin2 (List.mem_of_getElem? (i := 20) rfl) rfl
theorem zw_2_21 : Cond.methodLink RX3 144 yX3_isDay ∈ zT := zin2 (List.mem_of_getElem? (i := 21) rfl) rfl
theorem zw_2_22 : Cond.static yX3_isDay ∈ zT := zin2 (List.mem_of_getElem? (i := 22) rfl) rfl
theorem zw_2_23 : Cond.code yX3_isDay cX3_isDay 1 (some .boolean) ∈ zT := zin2 (List.mem_of_getElem? (i := 23) rfl) rfl
theorem zw_2_24 : Cond.methodLink RX3 108 yX3_goThrough ∈ zT := zin2 (List.mem_of_getElem? (i := 24) rfl) rfl
theorem zw_2_26 : Cond.instanceMethod yX3_goThrough ∈ zT := zin2 (List.mem_of_getElem? (i := 26) rfl) rfl
theorem zw_2_27 : Cond.code yX3_goThrough cX3_goThrough 3 none ∈ zT := zin2 (List.mem_of_getElem? (i := 27) rfl) rfl
theorem zw_2_28 : Cond.methodLink RX3 161 yX2_goThrough ∈ zT := zin2 (List.mem_of_getElem? (i := 28) rfl) rfl
theorem zw_2_29 : Cond.instanceMethod yX2_goThrough ∈ zT := zin2 (List.mem_of_getElem? (i := 29) rfl) rfl
theorem zw_2_30 : Cond.selects RX2 yX2_goThrough yX2_goThrough ∈ zT := zin2 (List.mem_of_getElem? (i := 30) rfl) rfl
theorem zw_2_31 : Cond.code yX2_goThrough cX2_goThrough 7 none ∈ zT := zin2 (List.mem_of_getElem? (i := 31) rfl) rfl
theorem zw_2_32 : Cond.methodLink RX2 22 yX2_clear ∈ zT := zin2 (List.mem_of_getElem? (i := 32) rfl) rfl
theorem zw_2_34 : Cond.instanceMethod yX2_clear ∈ zT := zin2 (List.mem_of_getElem? (i := 34) rfl) rfl
theorem zw_2_35 : Cond.code yX2_clear cX2_clear 2 none ∈ zT := zin2 (List.mem_of_getElem? (i := 35) rfl) rfl
theorem zw_2_36 : Cond.methodLink RX2 34 yX0_get ∈ zT := zin2 (List.mem_of_getElem? (i := 36) rfl) rfl
theorem zw_2_37 : Cond.methodLink RX2 38 yX0_isKnown ∈ zT := zin2 (List.mem_of_getElem? (i := 37) rfl) rfl
theorem zw_2_38 : Cond.instanceMethod yX0_isKnown ∈ zT := zin2 (List.mem_of_getElem? (i := 38) rfl) rfl
theorem zw_2_39 : Cond.selects RX0 yX0_isKnown yX0_isKnown ∈ zT := zin2 (List.mem_of_getElem? (i := 39) rfl) rfl
theorem zw_2_40 : Cond.code yX0_isKnown cX0_isKnown 4 (some .boolean) ∈ zT := zin2 (List.mem_of_getElem? (i := 40) rfl) rfl
theorem zw_2_41 : Cond.methodLink RX0 26 yX0_isWithdrawn ∈ zT := zin2 (List.mem_of_getElem? (i := 41) rfl) rfl
theorem zw_2_42 : Cond.methodLink RX2 42 yX2_apply ∈ zT := zin2 (List.mem_of_getElem? (i := 42) rfl) rfl
theorem zw_2_44 : Cond.instanceMethod yX2_apply ∈ zT := zin2 (List.mem_of_getElem? (i := 44) rfl) rfl
theorem zw_2_45 : Cond.code yX2_apply cX2_apply 6 none ∈ zT := zin2 (List.mem_of_getElem? (i := 45) rfl) rfl
theorem zw_2_46 : Cond.methodLink RX2 73 yX2_addClaim ∈ zT := zin2 (List.mem_of_getElem? (i := 46) rfl) rfl
theorem zw_2_48 : Cond.instanceMethod yX2_addClaim ∈ zT := zin2 (List.mem_of_getElem? (i := 48) rfl) rfl
theorem zw_2_49 : Cond.code yX2_addClaim cX2_addClaim 3 none ∈ zT := zin2 (List.mem_of_getElem? (i := 49) rfl) rfl
theorem zw_2_50 : Cond.methodLink RX2 88 yX1_begin ∈ zT := zin2 (List.mem_of_getElem? (i := 50) rfl) rfl
theorem zw_2_51 : Cond.instanceMethod yX1_begin ∈ zT := zin2 (List.mem_of_getElem? (i := 51) rfl) rfl
theorem zw_2_52 : Cond.selects RX1 yX1_begin yX1_begin ∈ zT := zin2 (List.mem_of_getElem? (i := 52) rfl) rfl
theorem zw_2_53 : Cond.code yX1_begin cX1_begin 3 none ∈ zT := zin2 (List.mem_of_getElem? (i := 53) rfl) rfl
theorem zw_2_54 : Cond.methodLink RX1 23 yX0_get ∈ zT := zin2 (List.mem_of_getElem? (i := 54) rfl) rfl
theorem zw_2_55 : Cond.methodLink RX1 32 yX1_setFeet ∈ zT := zin2 (List.mem_of_getElem? (i := 55) rfl) rfl
theorem zw_2_57 : Cond.instanceMethod yX1_setFeet ∈ zT := zin2 (List.mem_of_getElem? (i := 57) rfl) rfl
theorem zw_2_58 : Cond.code yX1_setFeet cX1_setFeet 3 none ∈ zT := zin2 (List.mem_of_getElem? (i := 58) rfl) rfl
theorem zw_2_59 : Cond.methodLink RX1 36 yX1_passTo ∈ zT := zin2 (List.mem_of_getElem? (i := 59) rfl) rfl
theorem zw_2_61 : Cond.instanceMethod yX1_passTo ∈ zT := zin2 (List.mem_of_getElem? (i := 61) rfl) rfl
theorem zw_2_62 : Cond.code yX1_passTo cX1_passTo 4 none ∈ zT := zin2 (List.mem_of_getElem? (i := 62) rfl) rfl
theorem zw_2_63 : Cond.methodLink RX1 39 yX1_setWorked ∈ zT := zin2 (List.mem_of_getElem? (i := 63) rfl) rfl
theorem zw_2_65 : Cond.instanceMethod yX1_setWorked ∈ zT := zin2 (List.mem_of_getElem? (i := 65) rfl) rfl
theorem zw_2_66 : Cond.code yX1_setWorked cX1_setWorked 2 none ∈ zT := zin2 (List.mem_of_getElem? (i := 66) rfl) rfl
theorem zw_2_67 : Cond.methodLink RX2 77 yX2_bringOre ∈ zT := zin2 (List.mem_of_getElem? (i := 67) rfl) rfl
theorem zw_2_69 : Cond.instanceMethod yX2_bringOre ∈ zT := zin2 (List.mem_of_getElem? (i := 69) rfl) rfl
theorem zw_2_70 : Cond.code yX2_bringOre cX2_bringOre 6 none ∈ zT := zin2 (List.mem_of_getElem? (i := 70) rfl) rfl
theorem zw_2_71 : Cond.methodLink RX2 57 yX2_eldestOver ∈ zT := zin2 (List.mem_of_getElem? (i := 71) rfl) rfl
theorem zw_2_72 : Cond.instanceMethod yX2_eldestOver ∈ zT := zin2 (List.mem_of_getElem? (i := 72) rfl) rfl
theorem zw_2_73 : Cond.selects RX2 yX2_eldestOver yX2_eldestOver ∈ zT := zin2 (List.mem_of_getElem? (i := 73) rfl) rfl
theorem zw_2_74 : Cond.code yX2_eldestOver cX2_eldestOver 4 (Option.some (Jvm.ClassFile.FieldType.object "VeinCourt$Claim")) ∈ zT := zin2 (List.mem_of_getElem? (i := 74) rfl) rfl
theorem zw_2_75 : Cond.methodLink RX2 54 yX1_isOver ∈ zT := zin2 (List.mem_of_getElem? (i := 75) rfl) rfl
theorem zw_2_76 : Cond.instanceMethod yX1_isOver ∈ zT := zin2 (List.mem_of_getElem? (i := 76) rfl) rfl
theorem zw_2_77 : Cond.selects RX1 yX1_isOver yX1_isOver ∈ zT := zin2 (List.mem_of_getElem? (i := 77) rfl) rfl
theorem zw_2_78 : Cond.code yX1_isOver cX1_isOver 3 (some .boolean) ∈ zT := zin2 (List.mem_of_getElem? (i := 78) rfl) rfl
theorem zw_2_80 : Cond.methodLink RX2 81 yX2_find ∈ zT := zin2 (List.mem_of_getElem? (i := 80) rfl) rfl
theorem zw_2_81 : Cond.instanceMethod yX2_find ∈ zT := zin2 (List.mem_of_getElem? (i := 81) rfl) rfl
theorem zw_2_82 : Cond.selects RX2 yX2_find yX2_find ∈ zT := zin2 (List.mem_of_getElem? (i := 82) rfl) rfl
theorem zw_2_83 : Cond.code yX2_find cX2_find 3 (Option.some (Jvm.ClassFile.FieldType.object "VeinCourt$Claim")) ∈ zT := zin2 (List.mem_of_getElem? (i := 83) rfl) rfl
theorem zw_2_84 : Cond.methodLink RX2 85 yX1_turn ∈ zT := zin2 (List.mem_of_getElem? (i := 84) rfl) rfl
theorem zw_2_85 : Cond.instanceMethod yX1_turn ∈ zT := zin2 (List.mem_of_getElem? (i := 85) rfl) rfl
theorem zw_2_86 : Cond.selects RX1 yX1_turn yX1_turn ∈ zT := zin2 (List.mem_of_getElem? (i := 86) rfl) rfl
theorem zw_2_87 : Cond.code yX1_turn cX1_turn 5 none ∈ zT := zin2 (List.mem_of_getElem? (i := 87) rfl) rfl
theorem zw_2_88 : Cond.methodLink RX1 43 yX1_takeNick ∈ zT := zin2 (List.mem_of_getElem? (i := 88) rfl) rfl
theorem zw_2_90 : Cond.instanceMethod yX1_takeNick ∈ zT := zin2 (List.mem_of_getElem? (i := 90) rfl) rfl
theorem zw_2_91 : Cond.code yX1_takeNick cX1_takeNick 4 none ∈ zT := zin2 (List.mem_of_getElem? (i := 91) rfl) rfl
theorem zw_2_92 : Cond.methodLink RX1 69 yX1_isIdle ∈ zT := zin2 (List.mem_of_getElem? (i := 92) rfl) rfl
theorem zw_2_93 : Cond.instanceMethod yX1_isIdle ∈ zT := zin2 (List.mem_of_getElem? (i := 93) rfl) rfl
theorem zw_2_94 : Cond.selects RX1 yX1_isIdle yX1_isIdle ∈ zT := zin2 (List.mem_of_getElem? (i := 94) rfl) rfl
theorem zw_2_95 : Cond.code yX1_isIdle cX1_isIdle 3 (some .boolean) ∈ zT := zin2 (List.mem_of_getElem? (i := 95) rfl) rfl
theorem zw_2_96 : Cond.methodLink RX1 82 yX1_addNick ∈ zT := zin2 (List.mem_of_getElem? (i := 96) rfl) rfl
theorem zw_2_98 : Cond.instanceMethod yX1_addNick ∈ zT := zin2 (List.mem_of_getElem? (i := 98) rfl) rfl
theorem zw_2_99 : Cond.code yX1_addNick cX1_addNick 3 none ∈ zT := zin2 (List.mem_of_getElem? (i := 99) rfl) rfl
theorem zw_2_100 : Cond.methodLink RX1 47 yX1_moveShares ∈ zT := zin2 (List.mem_of_getElem? (i := 100) rfl) rfl
theorem zw_2_102 : Cond.instanceMethod yX1_moveShares ∈ zT := zin2 (List.mem_of_getElem? (i := 102) rfl) rfl
theorem zw_2_103 : Cond.code yX1_moveShares cX1_moveShares 4 none ∈ zT := zin2 (List.mem_of_getElem? (i := 103) rfl) rfl
theorem zw_2_104 : Cond.methodLink RX3 112 yX2_holderOver ∈ zT := zin2 (List.mem_of_getElem? (i := 104) rfl) rfl
theorem zw_2_105 : Cond.instanceMethod yX2_holderOver ∈ zT := zin2 (List.mem_of_getElem? (i := 105) rfl) rfl
theorem zw_2_106 : Cond.selects RX2 yX2_holderOver yX2_holderOver ∈ zT := zin2 (List.mem_of_getElem? (i := 106) rfl) rfl
theorem zw_2_107 : Cond.code yX2_holderOver cX2_holderOver 4 (some .int) ∈ zT := zin2 (List.mem_of_getElem? (i := 107) rfl) rfl
theorem zw_2_108 : Cond.methodLink RL 66 yX3_claim ∈ zT := zin2 (List.mem_of_getElem? (i := 108) rfl) rfl
theorem zw_2_109 : Cond.instanceMethod yX3_claim ∈ zT := zin2 (List.mem_of_getElem? (i := 109) rfl) rfl
theorem zw_2_110 : Cond.selects RX3 yX3_claim yX3_claim ∈ zT := zin2 (List.mem_of_getElem? (i := 110) rfl) rfl
theorem zw_2_111 : Cond.code yX3_claim cX3_claim 6 (some .int) ∈ zT := zin2 (List.mem_of_getElem? (i := 111) rfl) rfl
theorem zw_2_112 : Cond.methodLink RX3 115 yX2_eldestOver ∈ zT := zin2 (List.mem_of_getElem? (i := 112) rfl) rfl
theorem zw_2_113 : Cond.methodLink RL 70 yX3_of ∈ zT := zin2 (List.mem_of_getElem? (i := 113) rfl) rfl
theorem zw_2_114 : Cond.instanceMethod yX3_of ∈ zT := zin2 (List.mem_of_getElem? (i := 114) rfl) rfl
theorem zw_2_115 : Cond.selects RX3 yX3_of yX3_of ∈ zT := zin2 (List.mem_of_getElem? (i := 115) rfl) rfl
theorem zw_2_116 : Cond.code yX3_of cX3_of 6 (some .int) ∈ zT := zin2 (List.mem_of_getElem? (i := 116) rfl) rfl
theorem zw_2_117 : Cond.methodLink RX3 127 yX2_find ∈ zT := zin2 (List.mem_of_getElem? (i := 117) rfl) rfl
theorem zw_2_118 : Cond.methodLink RX3 131 yX3_tellOf ∈ zT := zin2 (List.mem_of_getElem? (i := 118) rfl) rfl
theorem zw_2_120 : Cond.instanceMethod yX3_tellOf ∈ zT := zin2 (List.mem_of_getElem? (i := 120) rfl) rfl
theorem zw_2_121 : Cond.code yX3_tellOf cX3_tellOf 4 (some .int) ∈ zT := zin2 (List.mem_of_getElem? (i := 121) rfl) rfl
theorem zw_2_122 : Cond.methodLink RX3 176 yX1_isIdle ∈ zT := zin2 (List.mem_of_getElem? (i := 122) rfl) rfl
theorem zw_2_123 : Cond.methodLink RX3 182 yX2_countOwned ∈ zT := zin2 (List.mem_of_getElem? (i := 123) rfl) rfl
theorem zw_2_124 : Cond.instanceMethod yX2_countOwned ∈ zT := zin2 (List.mem_of_getElem? (i := 124) rfl) rfl
theorem zw_2_125 : Cond.selects RX2 yX2_countOwned yX2_countOwned ∈ zT := zin2 (List.mem_of_getElem? (i := 125) rfl) rfl
theorem zw_2_126 : Cond.code yX2_countOwned cX2_countOwned 5 (some .int) ∈ zT := zin2 (List.mem_of_getElem? (i := 126) rfl) rfl
theorem zw_2_127 : Cond.methodLink RL 74 yX3_share ∈ zT := zin2 (List.mem_of_getElem? (i := 127) rfl) rfl
theorem zw_2_128 : Cond.instanceMethod yX3_share ∈ zT := zin2 (List.mem_of_getElem? (i := 128) rfl) rfl
theorem zw_2_129 : Cond.selects RX3 yX3_share yX3_share ∈ zT := zin2 (List.mem_of_getElem? (i := 129) rfl) rfl
theorem zw_2_130 : Cond.code yX3_share cX3_share 6 (some .int) ∈ zT := zin2 (List.mem_of_getElem? (i := 130) rfl) rfl
theorem zw_2_131 : Cond.methodLink RL 78 yX3_feet ∈ zT := zin2 (List.mem_of_getElem? (i := 131) rfl) rfl
theorem zw_2_132 : Cond.instanceMethod yX3_feet ∈ zT := zin2 (List.mem_of_getElem? (i := 132) rfl) rfl
theorem zw_2_133 : Cond.selects RX3 yX3_feet yX3_feet ∈ zT := zin2 (List.mem_of_getElem? (i := 133) rfl) rfl
theorem zw_2_134 : Cond.code yX3_feet cX3_feet 7 (some .int) ∈ zT := zin2 (List.mem_of_getElem? (i := 134) rfl) rfl
theorem zw_2_135 : Cond.methodLink RL 82 yX3_contested ∈ zT := zin2 (List.mem_of_getElem? (i := 135) rfl) rfl
theorem zw_2_136 : Cond.instanceMethod yX3_contested ∈ zT := zin2 (List.mem_of_getElem? (i := 136) rfl) rfl
theorem zw_2_137 : Cond.selects RX3 yX3_contested yX3_contested ∈ zT := zin2 (List.mem_of_getElem? (i := 137) rfl) rfl
theorem zw_2_138 : Cond.code yX3_contested cX3_contested 6 (some .int) ∈ zT := zin2 (List.mem_of_getElem? (i := 138) rfl) rfl
theorem zw_2_139 : Cond.methodLink RX3 138 yX2_countOver ∈ zT := zin2 (List.mem_of_getElem? (i := 139) rfl) rfl
theorem zw_2_140 : Cond.instanceMethod yX2_countOver ∈ zT := zin2 (List.mem_of_getElem? (i := 140) rfl) rfl
theorem zw_2_141 : Cond.selects RX2 yX2_countOver yX2_countOver ∈ zT := zin2 (List.mem_of_getElem? (i := 141) rfl) rfl
theorem zw_2_142 : Cond.code yX2_countOver cX2_countOver 5 (some .int) ∈ zT := zin2 (List.mem_of_getElem? (i := 142) rfl) rfl
theorem zw_2_143 : Cond.methodLink RL 86 yX3_dug ∈ zT := zin2 (List.mem_of_getElem? (i := 143) rfl) rfl
theorem zw_2_144 : Cond.instanceMethod yX3_dug ∈ zT := zin2 (List.mem_of_getElem? (i := 144) rfl) rfl
theorem zw_2_145 : Cond.selects RX3 yX3_dug yX3_dug ∈ zT := zin2 (List.mem_of_getElem? (i := 145) rfl) rfl
theorem zw_2_146 : Cond.code yX3_dug cX3_dug 4 (some .int) ∈ zT := zin2 (List.mem_of_getElem? (i := 146) rfl) rfl
theorem zw_2_147 : Cond.methodLink RL 90 yX3_due ∈ zT := zin2 (List.mem_of_getElem? (i := 147) rfl) rfl
theorem zw_2_148 : Cond.instanceMethod yX3_due ∈ zT := zin2 (List.mem_of_getElem? (i := 148) rfl) rfl
theorem zw_2_149 : Cond.selects RX3 yX3_due yX3_due ∈ zT := zin2 (List.mem_of_getElem? (i := 149) rfl) rfl
theorem zw_2_150 : Cond.code yX3_due cX3_due 4 (some .int) ∈ zT := zin2 (List.mem_of_getElem? (i := 150) rfl) rfl
theorem zw_2_151 : Cond.methodLink RL 94 yX3_changed ∈ zT := zin2 (List.mem_of_getElem? (i := 151) rfl) rfl
theorem zw_2_152 : Cond.instanceMethod yX3_changed ∈ zT := zin2 (List.mem_of_getElem? (i := 152) rfl) rfl
theorem zw_2_153 : Cond.selects RX3 yX3_changed yX3_changed ∈ zT := zin2 (List.mem_of_getElem? (i := 153) rfl) rfl
theorem zw_2_154 : Cond.code yX3_changed cX3_changed 6 (some .int) ∈ zT := zin2 (List.mem_of_getElem? (i := 154) rfl) rfl
theorem zw_2_155 : Cond.methodLink RX3 147 yX3_noteHolders ∈ zT := zin2 (List.mem_of_getElem? (i := 155) rfl) rfl
theorem zw_2_157 : Cond.instanceMethod yX3_noteHolders ∈ zT := zin2 (List.mem_of_getElem? (i := 157) rfl) rfl
theorem zw_2_158 : Cond.code yX3_noteHolders cX3_noteHolders 2 none ∈ zT := zin2 (List.mem_of_getElem? (i := 158) rfl) rfl
theorem zw_2_159 : Cond.methodLink RL 98 yX3_many ∈ zT := zin2 (List.mem_of_getElem? (i := 159) rfl) rfl
theorem zw_2_160 : Cond.instanceMethod yX3_many ∈ zT := zin2 (List.mem_of_getElem? (i := 160) rfl) rfl
theorem zw_2_161 : Cond.selects RX3 yX3_many yX3_many ∈ zT := zin2 (List.mem_of_getElem? (i := 161) rfl) rfl
theorem zw_2_162 : Cond.code yX3_many cX3_many 2 (some .int) ∈ zT := zin2 (List.mem_of_getElem? (i := 162) rfl) rfl
theorem zw_2_163 : Cond.methodLink RX3 153 yX0_countWithdrawn ∈ zT := zin2 (List.mem_of_getElem? (i := 163) rfl) rfl
theorem zw_2_164 : Cond.instanceMethod yX0_countWithdrawn ∈ zT := zin2 (List.mem_of_getElem? (i := 164) rfl) rfl
theorem zw_2_165 : Cond.selects RX0 yX0_countWithdrawn yX0_countWithdrawn ∈ zT := zin2 (List.mem_of_getElem? (i := 165) rfl) rfl
theorem zw_2_166 : Cond.code yX0_countWithdrawn cX0_countWithdrawn 3 (some .int) ∈ zT := zin2 (List.mem_of_getElem? (i := 166) rfl) rfl
theorem zw_2_167 : Cond.methodLink RL 102 yX3_keep ∈ zT := zin2 (List.mem_of_getElem? (i := 167) rfl) rfl
theorem zw_2_168 : Cond.instanceMethod yX3_keep ∈ zT := zin2 (List.mem_of_getElem? (i := 168) rfl) rfl
theorem zw_2_169 : Cond.selects RX3 yX3_keep yX3_keep ∈ zT := zin2 (List.mem_of_getElem? (i := 169) rfl) rfl
theorem zw_2_170 : Cond.code yX3_keep cX3_keep 1 (some .int) ∈ zT := zin2 (List.mem_of_getElem? (i := 170) rfl) rfl
theorem zw_2_171 : Cond.methodLink RX3 157 yX0_copyFrom ∈ zT := zin2 (List.mem_of_getElem? (i := 171) rfl) rfl
theorem zw_2_172 : Cond.instanceMethod yX0_copyFrom ∈ zT := zin2 (List.mem_of_getElem? (i := 172) rfl) rfl
theorem zw_2_173 : Cond.selects RX0 yX0_copyFrom yX0_copyFrom ∈ zT := zin2 (List.mem_of_getElem? (i := 173) rfl) rfl
theorem zw_2_174 : Cond.code yX0_copyFrom cX0_copyFrom 2 none ∈ zT := zin2 (List.mem_of_getElem? (i := 174) rfl) rfl
theorem zw_2_175 : Cond.methodLink RX0 48 arraycopyName ∈ zT := zin2 (List.mem_of_getElem? (i := 175) rfl) rfl
theorem zw_2_176 : Cond.static arraycopyName ∈ zT := zin2 (List.mem_of_getElem? (i := 176) rfl) rfl
theorem zw_2_177 : Cond.native arraycopyName ∈ zT := zin2 (List.mem_of_getElem? (i := 177) rfl) rfl
theorem zw_2_178 : Cond.methodLink RL 107 yX3_back ∈ zT := zin2 (List.mem_of_getElem? (i := 178) rfl) rfl
theorem zw_2_179 : Cond.instanceMethod yX3_back ∈ zT := zin2 (List.mem_of_getElem? (i := 179) rfl) rfl
theorem zw_2_180 : Cond.selects RX3 yX3_back yX3_back ∈ zT := zin2 (List.mem_of_getElem? (i := 180) rfl) rfl
theorem zw_2_181 : Cond.code yX3_back cX3_back 1 (some .int) ∈ zT := zin2 (List.mem_of_getElem? (i := 181) rfl) rfl
theorem zw_2_182 : Cond.classLink RL 10 RX4 ∈ zT := zin2 (List.mem_of_getElem? (i := 182) rfl) rfl
theorem zw_2_183 : Cond.instantiable RX4 31 ∈ zT := zin2 (List.mem_of_getElem? (i := 183) rfl) rfl
theorem zw_2_184 : Cond.methodLink RL 12 yX4_init ∈ zT := zin2 (List.mem_of_getElem? (i := 184) rfl) rfl
theorem zw_2_185 : Cond.instanceMethod yX4_init ∈ zT := zin2 (List.mem_of_getElem? (i := 185) rfl) rfl
theorem zw_2_186 : Cond.code yX4_init cX4_init 1 none ∈ zT := zin2 (List.mem_of_getElem? (i := 186) rfl) rfl
theorem zw_2_187 : Cond.methodLink RX4 1 objectInit ∈ zT := zin2 (List.mem_of_getElem? (i := 187) rfl) rfl
theorem zw_2_188 : Cond.fieldLink RX4 100 "VeinCourtModel" "clock" "I" ∈ zT := zin2 (List.mem_of_getElem? (i := 188) rfl) rfl
theorem zw_2_189 : Cond.fieldLink RX4 7 "VeinCourtModel" "reach" "I" ∈ zT := zin2 (List.mem_of_getElem? (i := 189) rfl) rfl
theorem zw_2_190 : Cond.fieldLink RX4 13 "VeinCourtModel" "idle" "I" ∈ zT := zin2 (List.mem_of_getElem? (i := 190) rfl) rfl
theorem zw_2_191 : Cond.fieldLink RX4 97 "VeinCourtModel" "facts" "I" ∈ zT := zin2 (List.mem_of_getElem? (i := 191) rfl) rfl
theorem zw_2_192 : Cond.fieldLink RX4 113 "VeinCourtModel" "stakes" "I" ∈ zT := zin2 (List.mem_of_getElem? (i := 192) rfl) rfl
theorem zw_2_193 : Cond.fieldLink RX4 16 "VeinCourtModel" "kinds" "[I" ∈ zT := zin2 (List.mem_of_getElem? (i := 193) rfl) rfl
theorem zw_2_194 : Cond.fieldLink RX4 20 "VeinCourtModel" "abouts" "[I" ∈ zT := zin2 (List.mem_of_getElem? (i := 194) rfl) rfl
theorem zw_2_195 : Cond.fieldLink RX4 23 "VeinCourtModel" "tolds" "[I" ∈ zT := zin2 (List.mem_of_getElem? (i := 195) rfl) rfl
theorem zw_2_196 : Cond.fieldLink RX4 26 "VeinCourtModel" "withdrawns" "[I" ∈ zT := zin2 (List.mem_of_getElem? (i := 196) rfl) rfl
theorem zw_2_197 : Cond.fieldLink RX4 29 "VeinCourtModel" "veins" "[I" ∈ zT := zin2 (List.mem_of_getElem? (i := 197) rfl) rfl
theorem zw_2_198 : Cond.fieldLink RX4 32 "VeinCourtModel" "miners" "[I" ∈ zT := zin2 (List.mem_of_getElem? (i := 198) rfl) rfl
theorem zw_2_199 : Cond.fieldLink RX4 35 "VeinCourtModel" "others" "[I" ∈ zT := zin2 (List.mem_of_getElem? (i := 199) rfl) rfl
theorem zw_2_200 : Cond.fieldLink RX4 38 "VeinCourtModel" "firsts" "[I" ∈ zT := zin2 (List.mem_of_getElem? (i := 200) rfl) rfl
theorem zw_2_201 : Cond.fieldLink RX4 41 "VeinCourtModel" "lasts" "[I" ∈ zT := zin2 (List.mem_of_getElem? (i := 201) rfl) rfl
theorem zw_2_202 : Cond.fieldLink RX4 44 "VeinCourtModel" "counts" "[I" ∈ zT := zin2 (List.mem_of_getElem? (i := 202) rfl) rfl
theorem zw_2_203 : Cond.fieldLink RX4 47 "VeinCourtModel" "claims" "[I" ∈ zT := zin2 (List.mem_of_getElem? (i := 203) rfl) rfl
theorem zw_2_204 : Cond.fieldLink RX4 170 "VeinCourtModel" "isKept" "Z" ∈ zT := zin2 (List.mem_of_getElem? (i := 204) rfl) rfl
theorem zw_2_205 : Cond.fieldLink RX4 50 "VeinCourtModel" "keptNumbers" "[I" ∈ zT := zin2 (List.mem_of_getElem? (i := 205) rfl) rfl
theorem zw_2_206 : Cond.fieldLink RX4 53 "VeinCourtModel" "kept" "[I" ∈ zT := zin2 (List.mem_of_getElem? (i := 206) rfl) rfl
theorem zw_2_207 : Cond.fieldLink RX4 56 "VeinCourtModel" "stands" "[Z" ∈ zT := zin2 (List.mem_of_getElem? (i := 207) rfl) rfl
theorem zw_2_208 : Cond.fieldLink RX4 60 "VeinCourtModel" "holder" "[I" ∈ zT := zin2 (List.mem_of_getElem? (i := 208) rfl) rfl
theorem zw_2_209 : Cond.fieldLink RX4 63 "VeinCourtModel" "shares" "[I" ∈ zT := zin2 (List.mem_of_getElem? (i := 209) rfl) rfl
theorem zw_2_210 : Cond.fieldLink RX4 66 "VeinCourtModel" "worked" "[I" ∈ zT := zin2 (List.mem_of_getElem? (i := 210) rfl) rfl
theorem zw_2_211 : Cond.fieldLink RX4 69 "VeinCourtModel" "from" "[I" ∈ zT := zin2 (List.mem_of_getElem? (i := 211) rfl) rfl
theorem zw_2_212 : Cond.fieldLink RX4 72 "VeinCourtModel" "to" "[I" ∈ zT := zin2 (List.mem_of_getElem? (i := 212) rfl) rfl
theorem zw_2_213 : Cond.fieldLink RX4 75 "VeinCourtModel" "nickBy" "[I" ∈ zT := zin2 (List.mem_of_getElem? (i := 213) rfl) rfl
theorem zw_2_214 : Cond.fieldLink RX4 78 "VeinCourtModel" "nicks" "[I" ∈ zT := zin2 (List.mem_of_getElem? (i := 214) rfl) rfl
theorem zw_2_215 : Cond.fieldLink RX4 81 "VeinCourtModel" "firstNick" "[I" ∈ zT := zin2 (List.mem_of_getElem? (i := 215) rfl) rfl
theorem zw_2_216 : Cond.fieldLink RX4 84 "VeinCourtModel" "lastNick" "[I" ∈ zT := zin2 (List.mem_of_getElem? (i := 216) rfl) rfl
theorem zw_2_217 : Cond.fieldLink RX4 87 "VeinCourtModel" "ore" "[I" ∈ zT := zin2 (List.mem_of_getElem? (i := 217) rfl) rfl
theorem zw_2_218 : Cond.fieldLink RX4 90 "VeinCourtModel" "had" "[I" ∈ zT := zin2 (List.mem_of_getElem? (i := 218) rfl) rfl
theorem zw_2_219 : Cond.lays "VeinCourtModel" "VeinCourtModel" "clock" "I" ∈ zT := zin2 (List.mem_of_getElem? (i := 219) rfl) rfl
theorem zw_2_221 : Cond.lays "VeinCourtModel" "VeinCourtModel" "reach" "I" ∈ zT := zin2 (List.mem_of_getElem? (i := 221) rfl) rfl
theorem zw_2_223 : Cond.lays "VeinCourtModel" "VeinCourtModel" "idle" "I" ∈ zT := zin2 (List.mem_of_getElem? (i := 223) rfl) rfl
theorem zw_2_225 : Cond.lays "VeinCourtModel" "VeinCourtModel" "facts" "I" ∈ zT := zin2 (List.mem_of_getElem? (i := 225) rfl) rfl
theorem zw_2_227 : Cond.lays "VeinCourtModel" "VeinCourtModel" "stakes" "I" ∈ zT := zin2 (List.mem_of_getElem? (i := 227) rfl) rfl
theorem zw_2_229 : Cond.laysFinal "VeinCourtModel" "VeinCourtModel" "kinds" "[I" ∈ zT := zin2 (List.mem_of_getElem? (i := 229) rfl) rfl
theorem zw_2_231 : Cond.laysFinal "VeinCourtModel" "VeinCourtModel" "abouts" "[I" ∈ zT := zin2 (List.mem_of_getElem? (i := 231) rfl) rfl
theorem zw_2_233 : Cond.laysFinal "VeinCourtModel" "VeinCourtModel" "tolds" "[I" ∈ zT := zin2 (List.mem_of_getElem? (i := 233) rfl) rfl
theorem zw_2_235 : Cond.laysFinal "VeinCourtModel" "VeinCourtModel" "withdrawns" "[I" ∈ zT := zin2 (List.mem_of_getElem? (i := 235) rfl) rfl
theorem zw_2_237 : Cond.laysFinal "VeinCourtModel" "VeinCourtModel" "veins" "[I" ∈ zT := zin2 (List.mem_of_getElem? (i := 237) rfl) rfl
theorem zw_2_239 : Cond.laysFinal "VeinCourtModel" "VeinCourtModel" "miners" "[I" ∈ zT := zin2 (List.mem_of_getElem? (i := 239) rfl) rfl
theorem zw_3_1 : Cond.laysFinal "VeinCourtModel" "VeinCourtModel" "others" "[I" ∈ zT := zin3 (List.mem_of_getElem? (i := 1) rfl) rfl
theorem zw_3_3 : Cond.laysFinal "VeinCourtModel" "VeinCourtModel" "firsts" "[I" ∈ zT := zin3 (List.mem_of_getElem? (i := 3) rfl) rfl
theorem zw_3_5 : Cond.laysFinal "VeinCourtModel" "VeinCourtModel" "lasts" "[I" ∈ zT := zin3 (List.mem_of_getElem? (i := 5) rfl) rfl
theorem zw_3_7 : Cond.laysFinal "VeinCourtModel" "VeinCourtModel" "counts" "[I" ∈ zT := zin3 (List.mem_of_getElem? (i := 7) rfl) rfl
theorem zw_3_9 : Cond.laysFinal "VeinCourtModel" "VeinCourtModel" "claims" "[I" ∈ zT := zin3 (List.mem_of_getElem? (i := 9) rfl) rfl
theorem zw_3_11 : Cond.lays "VeinCourtModel" "VeinCourtModel" "isKept" "Z" ∈ zT := zin3 (List.mem_of_getElem? (i := 11) rfl) rfl
theorem zw_3_13 : Cond.laysFinal "VeinCourtModel" "VeinCourtModel" "keptNumbers" "[I" ∈ zT := zin3 (List.mem_of_getElem? (i := 13) rfl) rfl
theorem zw_3_15 : Cond.laysFinal "VeinCourtModel" "VeinCourtModel" "kept" "[I" ∈ zT := zin3 (List.mem_of_getElem? (i := 15) rfl) rfl
theorem zw_3_17 : Cond.laysFinal "VeinCourtModel" "VeinCourtModel" "stands" "[Z" ∈ zT := zin3 (List.mem_of_getElem? (i := 17) rfl) rfl
theorem zw_3_19 : Cond.laysFinal "VeinCourtModel" "VeinCourtModel" "holder" "[I" ∈ zT := zin3 (List.mem_of_getElem? (i := 19) rfl) rfl
theorem zw_3_21 : Cond.laysFinal "VeinCourtModel" "VeinCourtModel" "shares" "[I" ∈ zT := zin3 (List.mem_of_getElem? (i := 21) rfl) rfl
theorem zw_3_23 : Cond.laysFinal "VeinCourtModel" "VeinCourtModel" "worked" "[I" ∈ zT := zin3 (List.mem_of_getElem? (i := 23) rfl) rfl
theorem zw_3_25 : Cond.laysFinal "VeinCourtModel" "VeinCourtModel" "from" "[I" ∈ zT := zin3 (List.mem_of_getElem? (i := 25) rfl) rfl
theorem zw_3_27 : Cond.laysFinal "VeinCourtModel" "VeinCourtModel" "to" "[I" ∈ zT := zin3 (List.mem_of_getElem? (i := 27) rfl) rfl
theorem zw_3_29 : Cond.laysFinal "VeinCourtModel" "VeinCourtModel" "nickBy" "[I" ∈ zT := zin3 (List.mem_of_getElem? (i := 29) rfl) rfl
theorem zw_3_31 : Cond.laysFinal "VeinCourtModel" "VeinCourtModel" "nicks" "[I" ∈ zT := zin3 (List.mem_of_getElem? (i := 31) rfl) rfl
theorem zw_3_33 : Cond.laysFinal "VeinCourtModel" "VeinCourtModel" "firstNick" "[I" ∈ zT := zin3 (List.mem_of_getElem? (i := 33) rfl) rfl
theorem zw_3_35 : Cond.laysFinal "VeinCourtModel" "VeinCourtModel" "lastNick" "[I" ∈ zT := zin3 (List.mem_of_getElem? (i := 35) rfl) rfl
theorem zw_3_37 : Cond.laysFinal "VeinCourtModel" "VeinCourtModel" "ore" "[I" ∈ zT := zin3 (List.mem_of_getElem? (i := 37) rfl) rfl
theorem zw_3_39 : Cond.laysFinal "VeinCourtModel" "VeinCourtModel" "had" "[I" ∈ zT := zin3 (List.mem_of_getElem? (i := 39) rfl) rfl
theorem zw_3_42 : Cond.arrayClass Jvm.ClassFile.FieldType.boolean ∈ zT := zin3 (List.mem_of_getElem? (i := 42) rfl) rfl
theorem zw_3_43 : Cond.methodLink RL 17 yX4_day ∈ zT := zin3 (List.mem_of_getElem? (i := 43) rfl) rfl
theorem zw_3_44 : Cond.instanceMethod yX4_day ∈ zT := zin3 (List.mem_of_getElem? (i := 44) rfl) rfl
theorem zw_3_45 : Cond.selects RX4 yX4_day yX4_day ∈ zT := zin3 (List.mem_of_getElem? (i := 45) rfl) rfl
theorem zw_3_46 : Cond.code yX4_day cX4_day 2 (some .int) ∈ zT := zin3 (List.mem_of_getElem? (i := 46) rfl) rfl
theorem zw_3_47 : Cond.methodLink RX4 93 yX4_in ∈ zT := zin3 (List.mem_of_getElem? (i := 47) rfl) rfl
theorem zw_3_48 : Cond.static yX4_in ∈ zT := zin3 (List.mem_of_getElem? (i := 48) rfl) rfl
theorem zw_3_49 : Cond.code yX4_in cX4_in 3 (some .boolean) ∈ zT := zin3 (List.mem_of_getElem? (i := 49) rfl) rfl
theorem zw_3_50 : Cond.methodLink RL 22 yX4_rule ∈ zT := zin3 (List.mem_of_getElem? (i := 50) rfl) rfl
theorem zw_3_51 : Cond.instanceMethod yX4_rule ∈ zT := zin3 (List.mem_of_getElem? (i := 51) rfl) rfl
theorem zw_3_52 : Cond.selects RX4 yX4_rule yX4_rule ∈ zT := zin3 (List.mem_of_getElem? (i := 52) rfl) rfl
theorem zw_3_53 : Cond.code yX4_rule cX4_rule 4 (some .int) ∈ zT := zin3 (List.mem_of_getElem? (i := 53) rfl) rfl
theorem zw_3_54 : Cond.methodLink RL 27 yX4_stake ∈ zT := zin3 (List.mem_of_getElem? (i := 54) rfl) rfl
theorem zw_3_55 : Cond.instanceMethod yX4_stake ∈ zT := zin3 (List.mem_of_getElem? (i := 55) rfl) rfl
theorem zw_3_56 : Cond.selects RX4 yX4_stake yX4_stake ∈ zT := zin3 (List.mem_of_getElem? (i := 56) rfl) rfl
theorem zw_3_57 : Cond.code yX4_stake cX4_stake 6 (some .int) ∈ zT := zin3 (List.mem_of_getElem? (i := 57) rfl) rfl
theorem zw_3_58 : Cond.methodLink RX4 103 yX4_isVein ∈ zT := zin3 (List.mem_of_getElem? (i := 58) rfl) rfl
theorem zw_3_59 : Cond.static yX4_isVein ∈ zT := zin3 (List.mem_of_getElem? (i := 59) rfl) rfl
theorem zw_3_60 : Cond.code yX4_isVein cX4_isVein 1 (some .boolean) ∈ zT := zin3 (List.mem_of_getElem? (i := 60) rfl) rfl
theorem zw_3_61 : Cond.methodLink RX4 107 yX4_isFoot ∈ zT := zin3 (List.mem_of_getElem? (i := 61) rfl) rfl
theorem zw_3_62 : Cond.static yX4_isFoot ∈ zT := zin3 (List.mem_of_getElem? (i := 62) rfl) rfl
theorem zw_3_63 : Cond.code yX4_isFoot cX4_isFoot 1 (some .boolean) ∈ zT := zin3 (List.mem_of_getElem? (i := 63) rfl) rfl
theorem zw_3_64 : Cond.methodLink RX4 110 yX4_isMiner ∈ zT := zin3 (List.mem_of_getElem? (i := 64) rfl) rfl
theorem zw_3_65 : Cond.static yX4_isMiner ∈ zT := zin3 (List.mem_of_getElem? (i := 65) rfl) rfl
theorem zw_3_66 : Cond.code yX4_isMiner cX4_isMiner 1 (some .boolean) ∈ zT := zin3 (List.mem_of_getElem? (i := 66) rfl) rfl
theorem zw_3_67 : Cond.methodLink RX4 116 yX4_tell ∈ zT := zin3 (List.mem_of_getElem? (i := 67) rfl) rfl
theorem zw_3_69 : Cond.instanceMethod yX4_tell ∈ zT := zin3 (List.mem_of_getElem? (i := 69) rfl) rfl
theorem zw_3_70 : Cond.code yX4_tell cX4_tell 5 (some .int) ∈ zT := zin3 (List.mem_of_getElem? (i := 70) rfl) rfl
theorem zw_3_71 : Cond.methodLink RL 31 yX4_work ∈ zT := zin3 (List.mem_of_getElem? (i := 71) rfl) rfl
theorem zw_3_72 : Cond.instanceMethod yX4_work ∈ zT := zin3 (List.mem_of_getElem? (i := 72) rfl) rfl
theorem zw_3_73 : Cond.selects RX4 yX4_work yX4_work ∈ zT := zin3 (List.mem_of_getElem? (i := 73) rfl) rfl
theorem zw_3_74 : Cond.code yX4_work cX4_work 4 (some .int) ∈ zT := zin3 (List.mem_of_getElem? (i := 74) rfl) rfl
theorem zw_3_75 : Cond.methodLink RX4 123 yX4_wrong ∈ zT := zin3 (List.mem_of_getElem? (i := 75) rfl) rfl
theorem zw_3_77 : Cond.instanceMethod yX4_wrong ∈ zT := zin3 (List.mem_of_getElem? (i := 77) rfl) rfl
theorem zw_3_78 : Cond.code yX4_wrong cX4_wrong 4 (some .int) ∈ zT := zin3 (List.mem_of_getElem? (i := 78) rfl) rfl
theorem zw_3_79 : Cond.methodLink RX4 120 yX4_isFact ∈ zT := zin3 (List.mem_of_getElem? (i := 79) rfl) rfl
theorem zw_3_81 : Cond.instanceMethod yX4_isFact ∈ zT := zin3 (List.mem_of_getElem? (i := 81) rfl) rfl
theorem zw_3_82 : Cond.code yX4_isFact cX4_isFact 2 (some .boolean) ∈ zT := zin3 (List.mem_of_getElem? (i := 82) rfl) rfl
theorem zw_3_83 : Cond.methodLink RL 36 yX4_nick ∈ zT := zin3 (List.mem_of_getElem? (i := 83) rfl) rfl
theorem zw_3_84 : Cond.instanceMethod yX4_nick ∈ zT := zin3 (List.mem_of_getElem? (i := 84) rfl) rfl
theorem zw_3_85 : Cond.selects RX4 yX4_nick yX4_nick ∈ zT := zin3 (List.mem_of_getElem? (i := 85) rfl) rfl
theorem zw_3_86 : Cond.code yX4_nick cX4_nick 5 (some .int) ∈ zT := zin3 (List.mem_of_getElem? (i := 86) rfl) rfl
theorem zw_3_87 : Cond.methodLink RL 40 yX4_give ∈ zT := zin3 (List.mem_of_getElem? (i := 87) rfl) rfl
theorem zw_3_88 : Cond.instanceMethod yX4_give ∈ zT := zin3 (List.mem_of_getElem? (i := 88) rfl) rfl
theorem zw_3_89 : Cond.selects RX4 yX4_give yX4_give ∈ zT := zin3 (List.mem_of_getElem? (i := 89) rfl) rfl
theorem zw_3_90 : Cond.code yX4_give cX4_give 4 (some .int) ∈ zT := zin3 (List.mem_of_getElem? (i := 90) rfl) rfl
theorem zw_3_91 : Cond.methodLink RL 44 yX4_view ∈ zT := zin3 (List.mem_of_getElem? (i := 91) rfl) rfl
theorem zw_3_92 : Cond.instanceMethod yX4_view ∈ zT := zin3 (List.mem_of_getElem? (i := 92) rfl) rfl
theorem zw_3_93 : Cond.selects RX4 yX4_view yX4_view ∈ zT := zin3 (List.mem_of_getElem? (i := 93) rfl) rfl
theorem zw_3_94 : Cond.code yX4_view cX4_view 7 (some .int) ∈ zT := zin3 (List.mem_of_getElem? (i := 94) rfl) rfl
theorem zw_3_95 : Cond.methodLink RL 49 yX4_sell ∈ zT := zin3 (List.mem_of_getElem? (i := 95) rfl) rfl
theorem zw_3_96 : Cond.instanceMethod yX4_sell ∈ zT := zin3 (List.mem_of_getElem? (i := 96) rfl) rfl
theorem zw_3_97 : Cond.selects RX4 yX4_sell yX4_sell ∈ zT := zin3 (List.mem_of_getElem? (i := 97) rfl) rfl
theorem zw_3_98 : Cond.code yX4_sell cX4_sell 8 (some .int) ∈ zT := zin3 (List.mem_of_getElem? (i := 98) rfl) rfl
theorem zw_3_99 : Cond.methodLink RL 53 yX4_dig ∈ zT := zin3 (List.mem_of_getElem? (i := 99) rfl) rfl
theorem zw_3_100 : Cond.instanceMethod yX4_dig ∈ zT := zin3 (List.mem_of_getElem? (i := 100) rfl) rfl
theorem zw_3_101 : Cond.selects RX4 yX4_dig yX4_dig ∈ zT := zin3 (List.mem_of_getElem? (i := 101) rfl) rfl
theorem zw_3_102 : Cond.code yX4_dig cX4_dig 6 (some .int) ∈ zT := zin3 (List.mem_of_getElem? (i := 102) rfl) rfl
theorem zw_3_103 : Cond.methodLink RL 57 yX4_withdraw ∈ zT := zin3 (List.mem_of_getElem? (i := 103) rfl) rfl
theorem zw_3_104 : Cond.instanceMethod yX4_withdraw ∈ zT := zin3 (List.mem_of_getElem? (i := 104) rfl) rfl
theorem zw_3_105 : Cond.selects RX4 yX4_withdraw yX4_withdraw ∈ zT := zin3 (List.mem_of_getElem? (i := 105) rfl) rfl
theorem zw_3_106 : Cond.code yX4_withdraw cX4_withdraw 2 (some .int) ∈ zT := zin3 (List.mem_of_getElem? (i := 106) rfl) rfl
theorem zw_3_107 : Cond.methodLink RL 61 yX4_fact ∈ zT := zin3 (List.mem_of_getElem? (i := 107) rfl) rfl
theorem zw_3_108 : Cond.instanceMethod yX4_fact ∈ zT := zin3 (List.mem_of_getElem? (i := 108) rfl) rfl
theorem zw_3_109 : Cond.selects RX4 yX4_fact yX4_fact ∈ zT := zin3 (List.mem_of_getElem? (i := 109) rfl) rfl
theorem zw_3_110 : Cond.code yX4_fact cX4_fact 3 (some .int) ∈ zT := zin3 (List.mem_of_getElem? (i := 110) rfl) rfl
theorem zw_3_111 : Cond.methodLink RL 65 yX4_owner ∈ zT := zin3 (List.mem_of_getElem? (i := 111) rfl) rfl
theorem zw_3_112 : Cond.instanceMethod yX4_owner ∈ zT := zin3 (List.mem_of_getElem? (i := 112) rfl) rfl
theorem zw_3_113 : Cond.selects RX4 yX4_owner yX4_owner ∈ zT := zin3 (List.mem_of_getElem? (i := 113) rfl) rfl
theorem zw_3_114 : Cond.code yX4_owner cX4_owner 6 (some .int) ∈ zT := zin3 (List.mem_of_getElem? (i := 114) rfl) rfl
theorem zw_3_115 : Cond.methodLink RX4 152 yX4_claim ∈ zT := zin3 (List.mem_of_getElem? (i := 115) rfl) rfl
theorem zw_3_116 : Cond.instanceMethod yX4_claim ∈ zT := zin3 (List.mem_of_getElem? (i := 116) rfl) rfl
theorem zw_3_117 : Cond.selects RX4 yX4_claim yX4_claim ∈ zT := zin3 (List.mem_of_getElem? (i := 117) rfl) rfl
theorem zw_3_118 : Cond.code yX4_claim cX4_claim 6 (some .int) ∈ zT := zin3 (List.mem_of_getElem? (i := 118) rfl) rfl
theorem zw_3_119 : Cond.methodLink RX4 155 yX4_isDay ∈ zT := zin3 (List.mem_of_getElem? (i := 119) rfl) rfl
theorem zw_3_120 : Cond.static yX4_isDay ∈ zT := zin3 (List.mem_of_getElem? (i := 120) rfl) rfl
theorem zw_3_121 : Cond.code yX4_isDay cX4_isDay 1 (some .boolean) ∈ zT := zin3 (List.mem_of_getElem? (i := 121) rfl) rfl
theorem zw_3_122 : Cond.methodLink RX4 158 yX4_go ∈ zT := zin3 (List.mem_of_getElem? (i := 122) rfl) rfl
theorem zw_3_124 : Cond.instanceMethod yX4_go ∈ zT := zin3 (List.mem_of_getElem? (i := 124) rfl) rfl
theorem zw_3_125 : Cond.code yX4_go cX4_go 9 none ∈ zT := zin3 (List.mem_of_getElem? (i := 125) rfl) rfl
theorem zw_3_126 : Cond.methodLink RX4 127 yX4_isKnown ∈ zT := zin3 (List.mem_of_getElem? (i := 126) rfl) rfl
theorem zw_3_128 : Cond.instanceMethod yX4_isKnown ∈ zT := zin3 (List.mem_of_getElem? (i := 128) rfl) rfl
theorem zw_3_129 : Cond.code yX4_isKnown cX4_isKnown 3 (some .boolean) ∈ zT := zin3 (List.mem_of_getElem? (i := 129) rfl) rfl
theorem zw_3_130 : Cond.methodLink RX4 131 yX4_comes ∈ zT := zin3 (List.mem_of_getElem? (i := 130) rfl) rfl
theorem zw_3_132 : Cond.instanceMethod yX4_comes ∈ zT := zin3 (List.mem_of_getElem? (i := 132) rfl) rfl
theorem zw_3_133 : Cond.code yX4_comes cX4_comes 4 none ∈ zT := zin3 (List.mem_of_getElem? (i := 133) rfl) rfl
theorem zw_3_134 : Cond.methodLink RX4 135 yX4_holds ∈ zT := zin3 (List.mem_of_getElem? (i := 134) rfl) rfl
theorem zw_3_136 : Cond.instanceMethod yX4_holds ∈ zT := zin3 (List.mem_of_getElem? (i := 136) rfl) rfl
theorem zw_3_137 : Cond.code yX4_holds cX4_holds 5 none ∈ zT := zin3 (List.mem_of_getElem? (i := 137) rfl) rfl
theorem zw_3_138 : Cond.methodLink RX4 139 yX4_digs ∈ zT := zin3 (List.mem_of_getElem? (i := 138) rfl) rfl
theorem zw_3_140 : Cond.instanceMethod yX4_digs ∈ zT := zin3 (List.mem_of_getElem? (i := 140) rfl) rfl
theorem zw_3_141 : Cond.code yX4_digs cX4_digs 4 none ∈ zT := zin3 (List.mem_of_getElem? (i := 141) rfl) rfl
theorem zw_3_142 : Cond.methodLink RX4 148 yX4_ownerOf ∈ zT := zin3 (List.mem_of_getElem? (i := 142) rfl) rfl
theorem zw_3_144 : Cond.instanceMethod yX4_ownerOf ∈ zT := zin3 (List.mem_of_getElem? (i := 144) rfl) rfl
theorem zw_3_145 : Cond.code yX4_ownerOf cX4_ownerOf 6 (some .int) ∈ zT := zin3 (List.mem_of_getElem? (i := 145) rfl) rfl
theorem zw_3_146 : Cond.methodLink RX4 142 yX4_comesTo ∈ zT := zin3 (List.mem_of_getElem? (i := 146) rfl) rfl
theorem zw_3_148 : Cond.instanceMethod yX4_comesTo ∈ zT := zin3 (List.mem_of_getElem? (i := 148) rfl) rfl
theorem zw_3_149 : Cond.code yX4_comesTo cX4_comesTo 4 none ∈ zT := zin3 (List.mem_of_getElem? (i := 149) rfl) rfl
theorem zw_3_150 : Cond.methodLink RX4 145 yX4_nicked ∈ zT := zin3 (List.mem_of_getElem? (i := 150) rfl) rfl
theorem zw_3_152 : Cond.instanceMethod yX4_nicked ∈ zT := zin3 (List.mem_of_getElem? (i := 152) rfl) rfl
theorem zw_3_153 : Cond.code yX4_nicked cX4_nicked 4 none ∈ zT := zin3 (List.mem_of_getElem? (i := 153) rfl) rfl
theorem zw_3_154 : Cond.methodLink RL 69 yX4_claim ∈ zT := zin3 (List.mem_of_getElem? (i := 154) rfl) rfl
theorem zw_3_155 : Cond.methodLink RL 73 yX4_of ∈ zT := zin3 (List.mem_of_getElem? (i := 155) rfl) rfl
theorem zw_3_156 : Cond.instanceMethod yX4_of ∈ zT := zin3 (List.mem_of_getElem? (i := 156) rfl) rfl
theorem zw_3_157 : Cond.selects RX4 yX4_of yX4_of ∈ zT := zin3 (List.mem_of_getElem? (i := 157) rfl) rfl
theorem zw_3_158 : Cond.code yX4_of cX4_of 5 (some .int) ∈ zT := zin3 (List.mem_of_getElem? (i := 158) rfl) rfl
theorem zw_3_159 : Cond.methodLink RX4 162 yX4_owned ∈ zT := zin3 (List.mem_of_getElem? (i := 159) rfl) rfl
theorem zw_3_161 : Cond.instanceMethod yX4_owned ∈ zT := zin3 (List.mem_of_getElem? (i := 161) rfl) rfl
theorem zw_3_162 : Cond.code yX4_owned cX4_owned 4 (some .int) ∈ zT := zin3 (List.mem_of_getElem? (i := 162) rfl) rfl
theorem zw_3_163 : Cond.methodLink RL 77 yX4_share ∈ zT := zin3 (List.mem_of_getElem? (i := 163) rfl) rfl
theorem zw_3_164 : Cond.instanceMethod yX4_share ∈ zT := zin3 (List.mem_of_getElem? (i := 164) rfl) rfl
theorem zw_3_165 : Cond.selects RX4 yX4_share yX4_share ∈ zT := zin3 (List.mem_of_getElem? (i := 165) rfl) rfl
theorem zw_3_166 : Cond.code yX4_share cX4_share 5 (some .int) ∈ zT := zin3 (List.mem_of_getElem? (i := 166) rfl) rfl
theorem zw_3_167 : Cond.methodLink RL 81 yX4_feet ∈ zT := zin3 (List.mem_of_getElem? (i := 167) rfl) rfl
theorem zw_3_168 : Cond.instanceMethod yX4_feet ∈ zT := zin3 (List.mem_of_getElem? (i := 168) rfl) rfl
theorem zw_3_169 : Cond.selects RX4 yX4_feet yX4_feet ∈ zT := zin3 (List.mem_of_getElem? (i := 169) rfl) rfl
theorem zw_3_170 : Cond.code yX4_feet cX4_feet 8 (some .int) ∈ zT := zin3 (List.mem_of_getElem? (i := 170) rfl) rfl
theorem zw_3_171 : Cond.methodLink RL 85 yX4_contested ∈ zT := zin3 (List.mem_of_getElem? (i := 171) rfl) rfl
theorem zw_3_172 : Cond.instanceMethod yX4_contested ∈ zT := zin3 (List.mem_of_getElem? (i := 172) rfl) rfl
theorem zw_3_173 : Cond.selects RX4 yX4_contested yX4_contested ∈ zT := zin3 (List.mem_of_getElem? (i := 173) rfl) rfl
theorem zw_3_174 : Cond.code yX4_contested cX4_contested 8 (some .int) ∈ zT := zin3 (List.mem_of_getElem? (i := 174) rfl) rfl
theorem zw_3_175 : Cond.methodLink RL 89 yX4_dug ∈ zT := zin3 (List.mem_of_getElem? (i := 175) rfl) rfl
theorem zw_3_176 : Cond.instanceMethod yX4_dug ∈ zT := zin3 (List.mem_of_getElem? (i := 176) rfl) rfl
theorem zw_3_177 : Cond.selects RX4 yX4_dug yX4_dug ∈ zT := zin3 (List.mem_of_getElem? (i := 177) rfl) rfl
theorem zw_3_178 : Cond.code yX4_dug cX4_dug 4 (some .int) ∈ zT := zin3 (List.mem_of_getElem? (i := 178) rfl) rfl
theorem zw_3_179 : Cond.methodLink RL 93 yX4_due ∈ zT := zin3 (List.mem_of_getElem? (i := 179) rfl) rfl
theorem zw_3_180 : Cond.instanceMethod yX4_due ∈ zT := zin3 (List.mem_of_getElem? (i := 180) rfl) rfl
theorem zw_3_181 : Cond.selects RX4 yX4_due yX4_due ∈ zT := zin3 (List.mem_of_getElem? (i := 181) rfl) rfl
theorem zw_3_182 : Cond.code yX4_due cX4_due 4 (some .int) ∈ zT := zin3 (List.mem_of_getElem? (i := 182) rfl) rfl
theorem zw_3_183 : Cond.methodLink RL 97 yX4_changed ∈ zT := zin3 (List.mem_of_getElem? (i := 183) rfl) rfl
theorem zw_3_184 : Cond.instanceMethod yX4_changed ∈ zT := zin3 (List.mem_of_getElem? (i := 184) rfl) rfl
theorem zw_3_185 : Cond.selects RX4 yX4_changed yX4_changed ∈ zT := zin3 (List.mem_of_getElem? (i := 185) rfl) rfl
theorem zw_3_186 : Cond.code yX4_changed cX4_changed 7 (some .int) ∈ zT := zin3 (List.mem_of_getElem? (i := 186) rfl) rfl
theorem zw_3_187 : Cond.methodLink RL 101 yX4_many ∈ zT := zin3 (List.mem_of_getElem? (i := 187) rfl) rfl
theorem zw_3_188 : Cond.instanceMethod yX4_many ∈ zT := zin3 (List.mem_of_getElem? (i := 188) rfl) rfl
theorem zw_3_189 : Cond.selects RX4 yX4_many yX4_many ∈ zT := zin3 (List.mem_of_getElem? (i := 189) rfl) rfl
theorem zw_3_190 : Cond.code yX4_many cX4_many 2 (some .int) ∈ zT := zin3 (List.mem_of_getElem? (i := 190) rfl) rfl
theorem zw_3_191 : Cond.methodLink RX4 166 yX4_withdrawn ∈ zT := zin3 (List.mem_of_getElem? (i := 191) rfl) rfl
theorem zw_3_193 : Cond.instanceMethod yX4_withdrawn ∈ zT := zin3 (List.mem_of_getElem? (i := 193) rfl) rfl
theorem zw_3_194 : Cond.code yX4_withdrawn cX4_withdrawn 3 (some .int) ∈ zT := zin3 (List.mem_of_getElem? (i := 194) rfl) rfl
theorem zw_3_195 : Cond.methodLink RL 106 yX4_keep ∈ zT := zin3 (List.mem_of_getElem? (i := 195) rfl) rfl
theorem zw_3_196 : Cond.instanceMethod yX4_keep ∈ zT := zin3 (List.mem_of_getElem? (i := 196) rfl) rfl
theorem zw_3_197 : Cond.selects RX4 yX4_keep yX4_keep ∈ zT := zin3 (List.mem_of_getElem? (i := 197) rfl) rfl
theorem zw_3_198 : Cond.code yX4_keep cX4_keep 1 (some .int) ∈ zT := zin3 (List.mem_of_getElem? (i := 198) rfl) rfl
theorem zw_3_199 : Cond.methodLink RX4 174 yX4_copy ∈ zT := zin3 (List.mem_of_getElem? (i := 199) rfl) rfl
theorem zw_3_200 : Cond.static yX4_copy ∈ zT := zin3 (List.mem_of_getElem? (i := 200) rfl) rfl
theorem zw_3_201 : Cond.code yX4_copy cX4_copy 6 none ∈ zT := zin3 (List.mem_of_getElem? (i := 201) rfl) rfl
theorem zw_3_202 : Cond.methodLink RL 110 yX4_back ∈ zT := zin3 (List.mem_of_getElem? (i := 202) rfl) rfl
theorem zw_3_203 : Cond.instanceMethod yX4_back ∈ zT := zin3 (List.mem_of_getElem? (i := 203) rfl) rfl
theorem zw_3_204 : Cond.selects RX4 yX4_back yX4_back ∈ zT := zin3 (List.mem_of_getElem? (i := 204) rfl) rfl
theorem zw_3_205 : Cond.code yX4_back cX4_back 1 (some .int) ∈ zT := zin3 (List.mem_of_getElem? (i := 205) rfl) rfl
theorem zw_p1_0 : Cond.selects RX3 yX3_isPast yX3_isPast ∈ zT := zinp1 (List.mem_of_getElem? (i := 0) rfl) rfl
theorem zw_p1_1 : Cond.selects RX0 yX0_setInOrder yX0_setInOrder ∈ zT := zinp1 (List.mem_of_getElem? (i := 1) rfl) rfl
theorem zw_p1_2 : Cond.selects RX3 yX3_refusalOfClaim yX3_refusalOfClaim ∈ zT := zinp1 (List.mem_of_getElem? (i := 2) rfl) rfl
theorem zw_p1_3 : Cond.selects RX3 yX3_goThrough yX3_goThrough ∈ zT := zinp1 (List.mem_of_getElem? (i := 3) rfl) rfl
theorem zw_p1_4 : Cond.selects RX2 yX2_clear yX2_clear ∈ zT := zinp1 (List.mem_of_getElem? (i := 4) rfl) rfl
theorem zw_p1_5 : Cond.selects RX2 yX2_apply yX2_apply ∈ zT := zinp1 (List.mem_of_getElem? (i := 5) rfl) rfl
theorem zw_p1_6 : Cond.selects RX2 yX2_addClaim yX2_addClaim ∈ zT := zinp1 (List.mem_of_getElem? (i := 6) rfl) rfl
theorem zw_p1_7 : Cond.selects RX1 yX1_setFeet yX1_setFeet ∈ zT := zinp1 (List.mem_of_getElem? (i := 7) rfl) rfl
theorem zw_p1_8 : Cond.selects RX1 yX1_passTo yX1_passTo ∈ zT := zinp1 (List.mem_of_getElem? (i := 8) rfl) rfl
theorem zw_p1_9 : Cond.selects RX1 yX1_setWorked yX1_setWorked ∈ zT := zinp1 (List.mem_of_getElem? (i := 9) rfl) rfl
theorem zw_p1_10 : Cond.selects RX2 yX2_bringOre yX2_bringOre ∈ zT := zinp1 (List.mem_of_getElem? (i := 10) rfl) rfl
theorem zw_p1_11 : Cond.selects RX1 yX1_takeNick yX1_takeNick ∈ zT := zinp1 (List.mem_of_getElem? (i := 11) rfl) rfl
theorem zw_p1_12 : Cond.selects RX1 yX1_addNick yX1_addNick ∈ zT := zinp1 (List.mem_of_getElem? (i := 12) rfl) rfl
theorem zw_p1_13 : Cond.selects RX1 yX1_moveShares yX1_moveShares ∈ zT := zinp1 (List.mem_of_getElem? (i := 13) rfl) rfl
theorem zw_p1_14 : Cond.selects RX3 yX3_tellOf yX3_tellOf ∈ zT := zinp1 (List.mem_of_getElem? (i := 14) rfl) rfl
theorem zw_p1_15 : Cond.selects RX3 yX3_noteHolders yX3_noteHolders ∈ zT := zinp1 (List.mem_of_getElem? (i := 15) rfl) rfl
theorem zw_p2_0 : Cond.selects RX4 yX4_tell yX4_tell ∈ zT := zinp2 (List.mem_of_getElem? (i := 0) rfl) rfl
theorem zw_p2_1 : Cond.selects RX4 yX4_wrong yX4_wrong ∈ zT := zinp2 (List.mem_of_getElem? (i := 1) rfl) rfl
theorem zw_p2_2 : Cond.selects RX4 yX4_isFact yX4_isFact ∈ zT := zinp2 (List.mem_of_getElem? (i := 2) rfl) rfl
theorem zw_p2_3 : Cond.selects RX4 yX4_go yX4_go ∈ zT := zinp2 (List.mem_of_getElem? (i := 3) rfl) rfl
theorem zw_p2_4 : Cond.selects RX4 yX4_isKnown yX4_isKnown ∈ zT := zinp2 (List.mem_of_getElem? (i := 4) rfl) rfl
theorem zw_p2_5 : Cond.selects RX4 yX4_comes yX4_comes ∈ zT := zinp2 (List.mem_of_getElem? (i := 5) rfl) rfl
theorem zw_p2_6 : Cond.selects RX4 yX4_holds yX4_holds ∈ zT := zinp2 (List.mem_of_getElem? (i := 6) rfl) rfl
theorem zw_p2_7 : Cond.selects RX4 yX4_digs yX4_digs ∈ zT := zinp2 (List.mem_of_getElem? (i := 7) rfl) rfl
theorem zw_p2_8 : Cond.selects RX4 yX4_ownerOf yX4_ownerOf ∈ zT := zinp2 (List.mem_of_getElem? (i := 8) rfl) rfl
theorem zw_p2_9 : Cond.selects RX4 yX4_comesTo yX4_comesTo ∈ zT := zinp2 (List.mem_of_getElem? (i := 9) rfl) rfl
theorem zw_p2_10 : Cond.selects RX4 yX4_nicked yX4_nicked ∈ zT := zinp2 (List.mem_of_getElem? (i := 10) rfl) rfl
theorem zw_p2_11 : Cond.selects RX4 yX4_owned yX4_owned ∈ zT := zinp2 (List.mem_of_getElem? (i := 11) rfl) rfl
theorem zw_p2_12 : Cond.selects RX4 yX4_withdrawn yX4_withdrawn ∈ zT := zinp2 (List.mem_of_getElem? (i := 12) rfl) rfl
theorem zy_X0 : ∀ w ∈ u_ws RX0 TX0 5, w ∈ zT := fun w h => by
  obtain ⟨k, hk, rfl⟩ := List.mem_map.mp h
  have hk := List.mem_range.mp hk
  match k, hk with
  | 0, _ => exact zw_1_32
  | 1, _ => exact zw_1_34
  | 2, _ => exact zw_1_36
  | 3, _ => exact zw_1_38
  | 4, _ => exact zw_1_40
  | k + 5, h => exact absurd h (by omega)
theorem zy_X1 : ∀ w ∈ u_ws RX1 TX1 12, w ∈ zT := fun w h => by
  obtain ⟨k, hk, rfl⟩ := List.mem_map.mp h
  have hk := List.mem_range.mp hk
  match k, hk with
  | 0, _ => exact zw_1_83
  | 1, _ => exact zw_1_85
  | 2, _ => exact zw_1_87
  | 3, _ => exact zw_1_89
  | 4, _ => exact zw_1_91
  | 5, _ => exact zw_1_93
  | 6, _ => exact zw_1_95
  | 7, _ => exact zw_1_97
  | 8, _ => exact zw_1_99
  | 9, _ => exact zw_1_101
  | 10, _ => exact zw_1_103
  | 11, _ => exact zw_1_105
  | k + 12, h => exact absurd h (by omega)
theorem zy_X2 : ∀ w ∈ u_ws RX2 TX2 3, w ∈ zT := fun w h => by
  obtain ⟨k, hk, rfl⟩ := List.mem_map.mp h
  have hk := List.mem_range.mp hk
  match k, hk with
  | 0, _ => exact zw_1_112
  | 1, _ => exact zw_1_114
  | 2, _ => exact zw_1_116
  | k + 3, h => exact absurd h (by omega)
theorem zy_X3 : ∀ w ∈ u_ws RX3 TX3 7, w ∈ zT := fun w h => by
  obtain ⟨k, hk, rfl⟩ := List.mem_map.mp h
  have hk := List.mem_range.mp hk
  match k, hk with
  | 0, _ => exact zw_1_126
  | 1, _ => exact zw_1_128
  | 2, _ => exact zw_1_130
  | 3, _ => exact zw_1_132
  | 4, _ => exact zw_1_134
  | 5, _ => exact zw_1_136
  | 6, _ => exact zw_1_138
  | k + 7, h => exact absurd h (by omega)
theorem zy_X4 : ∀ w ∈ u_ws RX4 TX4 31, w ∈ zT := fun w h => by
  obtain ⟨k, hk, rfl⟩ := List.mem_map.mp h
  have hk := List.mem_range.mp hk
  match k, hk with
  | 0, _ => exact zw_2_219
  | 1, _ => exact zw_2_221
  | 2, _ => exact zw_2_223
  | 3, _ => exact zw_2_225
  | 4, _ => exact zw_2_227
  | 5, _ => exact zw_2_229
  | 6, _ => exact zw_2_231
  | 7, _ => exact zw_2_233
  | 8, _ => exact zw_2_235
  | 9, _ => exact zw_2_237
  | 10, _ => exact zw_2_239
  | 11, _ => exact zw_3_1
  | 12, _ => exact zw_3_3
  | 13, _ => exact zw_3_5
  | 14, _ => exact zw_3_7
  | 15, _ => exact zw_3_9
  | 16, _ => exact zw_3_11
  | 17, _ => exact zw_3_13
  | 18, _ => exact zw_3_15
  | 19, _ => exact zw_3_17
  | 20, _ => exact zw_3_19
  | 21, _ => exact zw_3_21
  | 22, _ => exact zw_3_23
  | 23, _ => exact zw_3_25
  | 24, _ => exact zw_3_27
  | 25, _ => exact zw_3_29
  | 26, _ => exact zw_3_31
  | 27, _ => exact zw_3_33
  | 28, _ => exact zw_3_35
  | 29, _ => exact zw_3_37
  | 30, _ => exact zw_3_39
  | k + 31, h => exact absurd h (by omega)
def zv_nest : List Cond := [Cond.methodLinkNest RX3 11 yX0_init "VeinCourt",
  Cond.fieldLinkNest RX3 45 "VeinCourt$Book" "clock" "I" "VeinCourt",
  Cond.fieldLinkNest RX2 25 "VeinCourt$Book" "count" "I" "VeinCourt",
  Cond.fieldLinkNest RX3 150 "VeinCourt$Book" "count" "I" "VeinCourt",
  Cond.fieldLinkNest RX3 65 "VeinCourt$Book" "stakes" "I" "VeinCourt",
  Cond.fieldLinkNest RX2 31 "VeinCourt$Book" "order" "[I" "VeinCourt",
  Cond.methodLinkNest RX2 21 yX1_init "VeinCourt",
  Cond.fieldLinkNest RX2 47 "VeinCourt$Claim" "stands" "Z" "VeinCourt",
  Cond.fieldLinkNest RX2 51 "VeinCourt$Claim" "number" "I" "VeinCourt",
  Cond.fieldLinkNest RX3 119 "VeinCourt$Claim" "number" "I" "VeinCourt",
  Cond.fieldLinkNest RX2 70 "VeinCourt$Claim" "vein" "I" "VeinCourt",
  Cond.fieldLinkNest RX2 64 "VeinCourt$Claim" "first" "I" "VeinCourt",
  Cond.fieldLinkNest RX3 167 "VeinCourt$Claim" "first" "I" "VeinCourt",
  Cond.fieldLinkNest RX2 67 "VeinCourt$Claim" "last" "I" "VeinCourt",
  Cond.fieldLinkNest RX3 170 "VeinCourt$Claim" "last" "I" "VeinCourt",
  Cond.fieldLinkNest RX2 61 "VeinCourt$Claim" "holder" "I" "VeinCourt",
  Cond.fieldLinkNest RX3 164 "VeinCourt$Claim" "holder" "I" "VeinCourt",
  Cond.fieldLinkNest RX3 173 "VeinCourt$Claim" "worked" "I" "VeinCourt",
  Cond.fieldLinkNest RX3 179 "VeinCourt$Claim" "nicks" "I" "VeinCourt",
  Cond.fieldLinkNest RX2 91 "VeinCourt$Claim" "shares" "[I" "VeinCourt",
  Cond.fieldLinkNest RX3 135 "VeinCourt$Claim" "shares" "[I" "VeinCourt",
  Cond.fieldLinkNest RX3 141 "VeinCourt$Standing" "ore" "[I" "VeinCourt",
  Cond.methodLinkNest RX1 56 yX3_isWithin "VeinCourt"]
theorem zn_0 : Cond.methodLinkNest RX3 11 yX0_init "VeinCourt" ∈ zv_nest := List.mem_of_getElem? (i := 0) rfl
theorem zn_1 : Cond.fieldLinkNest RX3 45 "VeinCourt$Book" "clock" "I" "VeinCourt" ∈ zv_nest := List.mem_of_getElem? (i := 1) rfl
theorem zn_2 : Cond.fieldLinkNest RX2 25 "VeinCourt$Book" "count" "I" "VeinCourt" ∈ zv_nest := List.mem_of_getElem? (i := 2) rfl
theorem zn_3 : Cond.fieldLinkNest RX3 150 "VeinCourt$Book" "count" "I" "VeinCourt" ∈ zv_nest := List.mem_of_getElem? (i := 3) rfl
theorem zn_4 : Cond.fieldLinkNest RX3 65 "VeinCourt$Book" "stakes" "I" "VeinCourt" ∈ zv_nest := List.mem_of_getElem? (i := 4) rfl
theorem zn_5 : Cond.fieldLinkNest RX2 31 "VeinCourt$Book" "order" "[I" "VeinCourt" ∈ zv_nest := List.mem_of_getElem? (i := 5) rfl
theorem zn_6 : Cond.methodLinkNest RX2 21 yX1_init "VeinCourt" ∈ zv_nest := List.mem_of_getElem? (i := 6) rfl
theorem zn_7 : Cond.fieldLinkNest RX2 47 "VeinCourt$Claim" "stands" "Z" "VeinCourt" ∈ zv_nest := List.mem_of_getElem? (i := 7) rfl
theorem zn_8 : Cond.fieldLinkNest RX2 51 "VeinCourt$Claim" "number" "I" "VeinCourt" ∈ zv_nest := List.mem_of_getElem? (i := 8) rfl
theorem zn_9 : Cond.fieldLinkNest RX3 119 "VeinCourt$Claim" "number" "I" "VeinCourt" ∈ zv_nest := List.mem_of_getElem? (i := 9) rfl
theorem zn_10 : Cond.fieldLinkNest RX2 70 "VeinCourt$Claim" "vein" "I" "VeinCourt" ∈ zv_nest := List.mem_of_getElem? (i := 10) rfl
theorem zn_11 : Cond.fieldLinkNest RX2 64 "VeinCourt$Claim" "first" "I" "VeinCourt" ∈ zv_nest := List.mem_of_getElem? (i := 11) rfl
theorem zn_12 : Cond.fieldLinkNest RX3 167 "VeinCourt$Claim" "first" "I" "VeinCourt" ∈ zv_nest := List.mem_of_getElem? (i := 12) rfl
theorem zn_13 : Cond.fieldLinkNest RX2 67 "VeinCourt$Claim" "last" "I" "VeinCourt" ∈ zv_nest := List.mem_of_getElem? (i := 13) rfl
theorem zn_14 : Cond.fieldLinkNest RX3 170 "VeinCourt$Claim" "last" "I" "VeinCourt" ∈ zv_nest := List.mem_of_getElem? (i := 14) rfl
theorem zn_15 : Cond.fieldLinkNest RX2 61 "VeinCourt$Claim" "holder" "I" "VeinCourt" ∈ zv_nest := List.mem_of_getElem? (i := 15) rfl
theorem zn_16 : Cond.fieldLinkNest RX3 164 "VeinCourt$Claim" "holder" "I" "VeinCourt" ∈ zv_nest := List.mem_of_getElem? (i := 16) rfl
theorem zn_17 : Cond.fieldLinkNest RX3 173 "VeinCourt$Claim" "worked" "I" "VeinCourt" ∈ zv_nest := List.mem_of_getElem? (i := 17) rfl
theorem zn_18 : Cond.fieldLinkNest RX3 179 "VeinCourt$Claim" "nicks" "I" "VeinCourt" ∈ zv_nest := List.mem_of_getElem? (i := 18) rfl
theorem zn_19 : Cond.fieldLinkNest RX2 91 "VeinCourt$Claim" "shares" "[I" "VeinCourt" ∈ zv_nest := List.mem_of_getElem? (i := 19) rfl
theorem zn_20 : Cond.fieldLinkNest RX3 135 "VeinCourt$Claim" "shares" "[I" "VeinCourt" ∈ zv_nest := List.mem_of_getElem? (i := 20) rfl
theorem zn_21 : Cond.fieldLinkNest RX3 141 "VeinCourt$Standing" "ore" "[I" "VeinCourt" ∈ zv_nest := List.mem_of_getElem? (i := 21) rfl
theorem zn_22 : Cond.methodLinkNest RX1 56 yX3_isWithin "VeinCourt" ∈ zv_nest := List.mem_of_getElem? (i := 22) rfl
