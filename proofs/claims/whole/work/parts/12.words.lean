/-! the tables' words, by their places -/
theorem k1_0 : (Cond.initialized R_L) ∈ wsA := wa_mem (List.mem_append_right _ (List.mem_append_left _ (List.mem_of_getElem? (i := 0) rfl))) rfl
theorem k1_1 : (Cond.initialized R_D) ∈ wsA := wa_mem (List.mem_append_right _ (List.mem_append_left _ (List.mem_of_getElem? (i := 1) rfl))) rfl
theorem k1_2 : (Cond.initialized "java/lang/Math") ∈ wsA := wa_mem (List.mem_append_right _ (List.mem_append_left _ (List.mem_of_getElem? (i := 2) rfl))) rfl
theorem k1_3 : (Cond.initialized R_R) ∈ wsA := wa_mem (List.mem_append_right _ (List.mem_append_left _ (List.mem_of_getElem? (i := 3) rfl))) rfl
theorem k1_4 : (Cond.initialized R_M) ∈ wsA := wa_mem (List.mem_append_right _ (List.mem_append_left _ (List.mem_of_getElem? (i := 4) rfl))) rfl
theorem k1_5 : (Cond.initialized "java/lang/Throwable") ∈ wsA := wa_mem (List.mem_append_right _ (List.mem_append_left _ (List.mem_of_getElem? (i := 5) rfl))) rfl
theorem k1_6 : (Cond.initialized "java/lang/Exception") ∈ wsA := wa_mem (List.mem_append_right _ (List.mem_append_left _ (List.mem_of_getElem? (i := 6) rfl))) rfl
theorem k1_7 : (Cond.initialized "java/lang/RuntimeException") ∈ wsA := wa_mem (List.mem_append_right _ (List.mem_append_left _ (List.mem_of_getElem? (i := 7) rfl))) rfl
theorem k1_8 : (Cond.initialized "java/lang/IndexOutOfBoundsException") ∈ wsA := wa_mem (List.mem_append_right _ (List.mem_append_left _ (List.mem_of_getElem? (i := 8) rfl))) rfl
theorem k1_9 : (Cond.initialized "java/lang/IllegalArgumentException") ∈ wsA := wa_mem (List.mem_append_right _ (List.mem_append_left _ (List.mem_of_getElem? (i := 9) rfl))) rfl
theorem k1_10 : (Cond.initialized "java/lang/IllegalStateException") ∈ wsA := wa_mem (List.mem_append_right _ (List.mem_append_left _ (List.mem_of_getElem? (i := 10) rfl))) rfl
theorem k1_11 : (Cond.initialized "java/lang/System") ∈ wsA := wa_mem (List.mem_append_right _ (List.mem_append_left _ (List.mem_of_getElem? (i := 11) rfl))) rfl
theorem k1_12 : (Cond.initialized "java/util/NoSuchElementException") ∈ wsA := wa_mem (List.mem_append_right _ (List.mem_append_left _ (List.mem_of_getElem? (i := 12) rfl))) rfl
theorem k1_13 : (Cond.initialized "java/lang/UnsupportedOperationException") ∈ wsA := wa_mem (List.mem_append_right _ (List.mem_append_left _ (List.mem_of_getElem? (i := 13) rfl))) rfl
theorem k1_14 : (Cond.classLink R_L 8 R_D) ∈ wsA := wa_mem (List.mem_append_right _ (List.mem_append_left _ (List.mem_of_getElem? (i := 14) rfl))) rfl
theorem k1_15 : (Cond.instantiable R_D 1) ∈ wsA := wa_mem (List.mem_append_right _ (List.mem_append_left _ (List.mem_of_getElem? (i := 15) rfl))) rfl
theorem k1_16 : (Cond.methodLink R_L 97 y_D_init) ∈ wsA := wa_mem (List.mem_append_right _ (List.mem_append_left _ (List.mem_of_getElem? (i := 16) rfl))) rfl
theorem k1_17 : (Cond.instanceMethod y_D_init) ∈ wsA := wa_mem (List.mem_append_right _ (List.mem_append_left _ (List.mem_of_getElem? (i := 17) rfl))) rfl
theorem k1_18 : (Cond.code y_D_init b_D_init 4 none) ∈ wsA := wa_mem (List.mem_append_right _ (List.mem_append_left _ (List.mem_of_getElem? (i := 18) rfl))) rfl
theorem k1_19 : (Cond.methodLink R_D 1 objectInit) ∈ wsA := wa_mem (List.mem_append_right _ (List.mem_append_left _ (List.mem_of_getElem? (i := 19) rfl))) rfl
theorem k1_20 : (Cond.instanceMethod objectInit) ∈ wsA := wa_mem (List.mem_append_right _ (List.mem_append_left _ (List.mem_of_getElem? (i := 20) rfl))) rfl
theorem k1_21 : (Cond.code objectInit object_method_1_code 1 none) ∈ wsA := wa_mem (List.mem_append_right _ (List.mem_append_left _ (List.mem_of_getElem? (i := 21) rfl))) rfl
theorem k1_22 : (Cond.constant R_D 9 65536) ∈ wsA := wa_mem (List.mem_append_right _ (List.mem_append_left _ (List.mem_of_getElem? (i := 22) rfl))) rfl
theorem k1_23 : (Cond.methodLink R_D 10 Lib.Math.min.name) ∈ wsA := wa_mem (List.mem_append_right _ (List.mem_append_left _ (List.mem_of_getElem? (i := 23) rfl))) rfl
theorem k1_24 : (Cond.static Lib.Math.min.name) ∈ wsA := wa_mem (List.mem_append_right _ (List.mem_append_left _ (List.mem_of_getElem? (i := 24) rfl))) rfl
theorem k1_25 : (Cond.code Lib.Math.min.name prog_9_method_69_code 2 (some .int)) ∈ wsA := wa_mem (List.mem_append_right _ (List.mem_append_left _ (List.mem_of_getElem? (i := 25) rfl))) rfl
theorem k1_26 : (Cond.methodLink R_D 16 Lib.Math.max.name) ∈ wsA := wa_mem (List.mem_append_right _ (List.mem_append_left _ (List.mem_of_getElem? (i := 26) rfl))) rfl
theorem k1_27 : (Cond.static Lib.Math.max.name) ∈ wsA := wa_mem (List.mem_append_right _ (List.mem_append_left _ (List.mem_of_getElem? (i := 27) rfl))) rfl
theorem k1_28 : (Cond.code Lib.Math.max.name prog_9_method_65_code 2 (some .int)) ∈ wsA := wa_mem (List.mem_append_right _ (List.mem_append_left _ (List.mem_of_getElem? (i := 28) rfl))) rfl
theorem k1_29 : (Cond.classLink R_D 19 R_R) ∈ wsA := wa_mem (List.mem_append_right _ (List.mem_append_left _ (List.mem_of_getElem? (i := 29) rfl))) rfl
theorem k1_31 : (Cond.instantiable R_R 3) ∈ wsA := wa_mem (List.mem_append_right _ (List.mem_append_left _ (List.mem_of_getElem? (i := 31) rfl))) rfl
theorem k1_32 : (Cond.methodLink R_D 25 y_R_init) ∈ wsA := wa_mem (List.mem_append_right _ (List.mem_append_left _ (List.mem_of_getElem? (i := 32) rfl))) rfl
theorem k1_33 : (Cond.instanceMethod y_R_init) ∈ wsA := wa_mem (List.mem_append_right _ (List.mem_append_left _ (List.mem_of_getElem? (i := 33) rfl))) rfl
theorem k1_34 : (Cond.code y_R_init b_R_init 2 none) ∈ wsA := wa_mem (List.mem_append_right _ (List.mem_append_left _ (List.mem_of_getElem? (i := 34) rfl))) rfl
theorem k1_35 : (Cond.methodLink R_R 1 objectInit) ∈ wsA := wa_mem (List.mem_append_right _ (List.mem_append_left _ (List.mem_of_getElem? (i := 35) rfl))) rfl
theorem k1_36 : (Cond.fieldLink R_R 7 R_R "bytes" "[B") ∈ wsA := wa_mem (List.mem_append_right _ (List.mem_append_left _ (List.mem_of_getElem? (i := 36) rfl))) rfl
theorem k1_37 : (Cond.fieldLink R_D 95 R_R "bytes" "[B") ∈ wsA := wa_mem (List.mem_append_right _ (List.mem_append_left _ (List.mem_of_getElem? (i := 37) rfl))) rfl
theorem k1_38 : (Cond.fieldLink R_D 43 R_R "size" "I") ∈ wsA := wa_mem (List.mem_append_right _ (List.mem_append_left _ (List.mem_of_getElem? (i := 38) rfl))) rfl
theorem k1_39 : (Cond.fieldLink R_R 13 R_R "size" "I") ∈ wsA := wa_mem (List.mem_append_right _ (List.mem_append_left _ (List.mem_of_getElem? (i := 39) rfl))) rfl
theorem k1_40 : (Cond.fieldLink R_D 87 R_R "place" "I") ∈ wsA := wa_mem (List.mem_append_right _ (List.mem_append_left _ (List.mem_of_getElem? (i := 40) rfl))) rfl
theorem k1_48 : (Cond.arrayClass .byte) ∈ wsA := wa_mem (List.mem_append_right _ (List.mem_append_left _ (List.mem_of_getElem? (i := 48) rfl))) rfl
theorem k1_49 : (Cond.fieldLink R_D 21 R_D "rows" "[LPacketDesk$Row;") ∈ wsA := wa_mem (List.mem_append_right _ (List.mem_append_left _ (List.mem_of_getElem? (i := 49) rfl))) rfl
theorem k1_53 : (Cond.methodLink R_L 91 y_L_cell) ∈ wsA := wa_mem (List.mem_append_right _ (List.mem_append_left _ (List.mem_of_getElem? (i := 53) rfl))) rfl
theorem k1_54 : (Cond.static y_L_cell) ∈ wsA := wa_mem (List.mem_append_right _ (List.mem_append_left _ (List.mem_of_getElem? (i := 54) rfl))) rfl
theorem k1_55 : (Cond.code y_L_cell b_L_cell 2 (some .int)) ∈ wsA := wa_mem (List.mem_append_right _ (List.mem_append_left _ (List.mem_of_getElem? (i := 55) rfl))) rfl
theorem k1_56 : (Cond.methodLink R_L 105 y_L_fixed) ∈ wsA := wa_mem (List.mem_append_right _ (List.mem_append_left _ (List.mem_of_getElem? (i := 56) rfl))) rfl
theorem k1_57 : (Cond.static y_L_fixed) ∈ wsA := wa_mem (List.mem_append_right _ (List.mem_append_left _ (List.mem_of_getElem? (i := 57) rfl))) rfl
theorem k1_58 : (Cond.codeWith y_L_fixed b_L_fixed 7 (some .int) [(0, 13, 16, 13), (0, 13, 20, 15), (0, 13, 24, 17)]) ∈ wsA := wa_mem (List.mem_append_right _ (List.mem_append_left _ (List.mem_of_getElem? (i := 58) rfl))) rfl
theorem k1_59 : (Cond.classLink R_L 13 "java/lang/IndexOutOfBoundsException") ∈ wsA := wa_mem (List.mem_append_right _ (List.mem_append_left _ (List.mem_of_getElem? (i := 59) rfl))) rfl
theorem k1_60 : (Cond.classLink R_L 15 "java/lang/IllegalArgumentException") ∈ wsA := wa_mem (List.mem_append_right _ (List.mem_append_left _ (List.mem_of_getElem? (i := 60) rfl))) rfl
theorem k1_61 : (Cond.classLink R_L 17 "java/lang/IllegalStateException") ∈ wsA := wa_mem (List.mem_append_right _ (List.mem_append_left _ (List.mem_of_getElem? (i := 61) rfl))) rfl
theorem k1_62 : (Cond.methodLink R_L 7 y_D_fixed) ∈ wsA := wa_mem (List.mem_append_right _ (List.mem_append_left _ (List.mem_of_getElem? (i := 62) rfl))) rfl
theorem k1_63 : (Cond.instanceMethod y_D_fixed) ∈ wsA := wa_mem (List.mem_append_right _ (List.mem_append_left _ (List.mem_of_getElem? (i := 63) rfl))) rfl
theorem k1_64 : (Cond.selects R_D y_D_fixed y_D_fixed) ∈ wsA := wa_mem (List.mem_append_right _ (List.mem_append_left _ (List.mem_of_getElem? (i := 64) rfl))) rfl
theorem k1_65 : (Cond.code y_D_fixed b_D_fixed 6 (some .int)) ∈ wsA := wa_mem (List.mem_append_right _ (List.mem_append_left _ (List.mem_of_getElem? (i := 65) rfl))) rfl
theorem k1_66 : (Cond.methodLink R_D 28 y_D_rowOf) ∈ wsA := wa_mem (List.mem_append_right _ (List.mem_append_left _ (List.mem_of_getElem? (i := 66) rfl))) rfl
theorem k1_68 : (Cond.instanceMethod y_D_rowOf) ∈ wsA := wa_mem (List.mem_append_right _ (List.mem_append_left _ (List.mem_of_getElem? (i := 68) rfl))) rfl
theorem k1_69 : (Cond.code y_D_rowOf b_D_rowOf 2 (some (.object "PacketDesk$Row"))) ∈ wsA := wa_mem (List.mem_append_right _ (List.mem_append_left _ (List.mem_of_getElem? (i := 69) rfl))) rfl
theorem k1_70 : (Cond.classLink R_D 149 "java/lang/IndexOutOfBoundsException") ∈ wsA := wa_mem (List.mem_append_right _ (List.mem_append_left _ (List.mem_of_getElem? (i := 70) rfl))) rfl
theorem k1_71 : (Cond.instantiable "java/lang/IndexOutOfBoundsException" 6) ∈ wsA := wa_mem (List.mem_append_right _ (List.mem_append_left _ (List.mem_of_getElem? (i := 71) rfl))) rfl
theorem k1_91 : (Cond.fieldLink "java/lang/Throwable" 198 "java/lang/Throwable" "backtrace" "Ljava/lang/Object;") ∈ wsA := wa_mem (List.mem_append_right _ (List.mem_append_left _ (List.mem_of_getElem? (i := 91) rfl))) rfl
theorem k1_95 : (Cond.methodLink "java/lang/Throwable" 1 objectInit) ∈ wsA := wa_mem (List.mem_append_right _ (List.mem_append_left _ (List.mem_of_getElem? (i := 95) rfl))) rfl
theorem k1_96 : (Cond.fieldLink "java/lang/Throwable" 13 "java/lang/Throwable" "UNASSIGNED_STACK" "[Ljava/lang/StackTraceElement;") ∈ wsA := wa_mem (List.mem_append_right _ (List.mem_append_left _ (List.mem_of_getElem? (i := 96) rfl))) rfl
theorem k1_98 : (Cond.fieldLink "java/lang/Throwable" 20 "java/lang/Throwable" "SUPPRESSED_SENTINEL" "Ljava/util/List;") ∈ wsA := wa_mem (List.mem_append_right _ (List.mem_append_left _ (List.mem_of_getElem? (i := 98) rfl))) rfl
theorem k1_111 : (Cond.instantiable "java/lang/Throwable" 6) ∈ wsA := wa_mem (List.mem_append_right _ (List.mem_append_left _ (List.mem_of_getElem? (i := 111) rfl))) rfl
theorem k1_127 : (Cond.fieldLink "java/lang/Throwable" 31 "java/lang/Throwable" "detailMessage" "Ljava/lang/String;") ∈ wsA := wa_mem (List.mem_append_right _ (List.mem_append_left _ (List.mem_of_getElem? (i := 127) rfl))) rfl
theorem k1_128 : (Cond.fieldLink "java/lang/Throwable" 7 "java/lang/Throwable" "cause" "Ljava/lang/Throwable;") ∈ wsA := wa_mem (List.mem_append_right _ (List.mem_append_left _ (List.mem_of_getElem? (i := 128) rfl))) rfl
theorem k1_129 : (Cond.fieldLink "java/lang/Throwable" 17 "java/lang/Throwable" "stackTrace" "[Ljava/lang/StackTraceElement;") ∈ wsA := wa_mem (List.mem_append_right _ (List.mem_append_left _ (List.mem_of_getElem? (i := 129) rfl))) rfl
theorem k1_130 : (Cond.fieldLink "java/lang/Throwable" 24 "java/lang/Throwable" "suppressedExceptions" "Ljava/util/List;") ∈ wsA := wa_mem (List.mem_append_right _ (List.mem_append_left _ (List.mem_of_getElem? (i := 130) rfl))) rfl
theorem k1_139 : (Cond.methodLink R_D 32 y_D_needFixedWidth) ∈ wsA := wa_mem (List.mem_append_right _ (List.mem_append_left _ (List.mem_of_getElem? (i := 139) rfl))) rfl
theorem k1_140 : (Cond.static y_D_needFixedWidth) ∈ wsA := wa_mem (List.mem_append_right _ (List.mem_append_left _ (List.mem_of_getElem? (i := 140) rfl))) rfl
theorem k1_141 : (Cond.code y_D_needFixedWidth b_D_needFixedWidth 1 none) ∈ wsA := wa_mem (List.mem_append_right _ (List.mem_append_left _ (List.mem_of_getElem? (i := 141) rfl))) rfl
theorem k1_142 : (Cond.classLink R_D 55 "java/lang/IllegalArgumentException") ∈ wsA := wa_mem (List.mem_append_right _ (List.mem_append_left _ (List.mem_of_getElem? (i := 142) rfl))) rfl
theorem k1_143 : (Cond.instantiable "java/lang/IllegalArgumentException" 6) ∈ wsA := wa_mem (List.mem_append_right _ (List.mem_append_left _ (List.mem_of_getElem? (i := 143) rfl))) rfl
theorem k1_158 : (Cond.methodLink R_D 35 y_D_needRoom) ∈ wsA := wa_mem (List.mem_append_right _ (List.mem_append_left _ (List.mem_of_getElem? (i := 158) rfl))) rfl
theorem k1_159 : (Cond.static y_D_needRoom) ∈ wsA := wa_mem (List.mem_append_right _ (List.mem_append_left _ (List.mem_of_getElem? (i := 159) rfl))) rfl
theorem k1_160 : (Cond.code y_D_needRoom b_D_needRoom 2 none) ∈ wsA := wa_mem (List.mem_append_right _ (List.mem_append_left _ (List.mem_of_getElem? (i := 160) rfl))) rfl
theorem k1_161 : (Cond.classLink R_D 158 "java/lang/IllegalStateException") ∈ wsA := wa_mem (List.mem_append_right _ (List.mem_append_left _ (List.mem_of_getElem? (i := 161) rfl))) rfl
theorem k1_162 : (Cond.instantiable "java/lang/IllegalStateException" 6) ∈ wsA := wa_mem (List.mem_append_right _ (List.mem_append_left _ (List.mem_of_getElem? (i := 162) rfl))) rfl
theorem k1_177 : (Cond.methodLink R_D 39 y_D_addFixed) ∈ wsA := wa_mem (List.mem_append_right _ (List.mem_append_left _ (List.mem_of_getElem? (i := 177) rfl))) rfl
theorem k1_178 : (Cond.static y_D_addFixed) ∈ wsA := wa_mem (List.mem_append_right _ (List.mem_append_left _ (List.mem_of_getElem? (i := 178) rfl))) rfl
theorem k1_179 : (Cond.code y_D_addFixed b_D_addFixed 5 none) ∈ wsA := wa_mem (List.mem_append_right _ (List.mem_append_left _ (List.mem_of_getElem? (i := 179) rfl))) rfl
theorem k1_180 : (Cond.methodLink R_D 165 y_R_add) ∈ wsA := wa_mem (List.mem_append_right _ (List.mem_append_left _ (List.mem_of_getElem? (i := 180) rfl))) rfl
theorem k1_181 : (Cond.instanceMethod y_R_add) ∈ wsA := wa_mem (List.mem_append_right _ (List.mem_append_left _ (List.mem_of_getElem? (i := 181) rfl))) rfl
theorem k1_182 : (Cond.selects R_R y_R_add y_R_add) ∈ wsA := wa_mem (List.mem_append_right _ (List.mem_append_left _ (List.mem_of_getElem? (i := 182) rfl))) rfl
theorem k1_183 : (Cond.code y_R_add b_R_add 2 none) ∈ wsA := wa_mem (List.mem_append_right _ (List.mem_append_left _ (List.mem_of_getElem? (i := 183) rfl))) rfl
theorem k1_184 : (Cond.methodLink R_L 113 y_L_sevens) ∈ wsA := wa_mem (List.mem_append_right _ (List.mem_append_left _ (List.mem_of_getElem? (i := 184) rfl))) rfl
theorem k1_185 : (Cond.static y_L_sevens) ∈ wsA := wa_mem (List.mem_append_right _ (List.mem_append_left _ (List.mem_of_getElem? (i := 185) rfl))) rfl
theorem k1_186 : (Cond.codeWith y_L_sevens b_L_sevens 6 (some .int) [(0, 11, 14, 13), (0, 11, 18, 17)]) ∈ wsA := wa_mem (List.mem_append_right _ (List.mem_append_left _ (List.mem_of_getElem? (i := 186) rfl))) rfl
theorem k1_187 : (Cond.methodLink R_L 19 y_D_sevens) ∈ wsA := wa_mem (List.mem_append_right _ (List.mem_append_left _ (List.mem_of_getElem? (i := 187) rfl))) rfl
theorem k1_188 : (Cond.instanceMethod y_D_sevens) ∈ wsA := wa_mem (List.mem_append_right _ (List.mem_append_left _ (List.mem_of_getElem? (i := 188) rfl))) rfl
theorem k1_189 : (Cond.selects R_D y_D_sevens y_D_sevens) ∈ wsA := wa_mem (List.mem_append_right _ (List.mem_append_left _ (List.mem_of_getElem? (i := 189) rfl))) rfl
theorem k1_190 : (Cond.code y_D_sevens b_D_sevens 4 (some .int)) ∈ wsA := wa_mem (List.mem_append_right _ (List.mem_append_left _ (List.mem_of_getElem? (i := 190) rfl))) rfl
theorem k1_191 : (Cond.methodLink R_D 47 y_D_writeSevens) ∈ wsA := wa_mem (List.mem_append_right _ (List.mem_append_left _ (List.mem_of_getElem? (i := 191) rfl))) rfl
theorem k1_192 : (Cond.static y_D_writeSevens) ∈ wsA := wa_mem (List.mem_append_right _ (List.mem_append_left _ (List.mem_of_getElem? (i := 192) rfl))) rfl
theorem k1_193 : (Cond.code y_D_writeSevens b_D_writeSevens 4 (some .int)) ∈ wsA := wa_mem (List.mem_append_right _ (List.mem_append_left _ (List.mem_of_getElem? (i := 193) rfl))) rfl
theorem k1_194 : (Cond.methodLink R_D 73 y_D_sevensWidth) ∈ wsA := wa_mem (List.mem_append_right _ (List.mem_append_left _ (List.mem_of_getElem? (i := 194) rfl))) rfl
theorem k1_195 : (Cond.static y_D_sevensWidth) ∈ wsA := wa_mem (List.mem_append_right _ (List.mem_append_left _ (List.mem_of_getElem? (i := 195) rfl))) rfl
theorem k1_196 : (Cond.code y_D_sevensWidth b_D_sevensWidth 3 (some .int)) ∈ wsA := wa_mem (List.mem_append_right _ (List.mem_append_left _ (List.mem_of_getElem? (i := 196) rfl))) rfl
theorem k1_197 : (Cond.methodLink R_D 77 y_D_addSevens) ∈ wsA := wa_mem (List.mem_append_right _ (List.mem_append_left _ (List.mem_of_getElem? (i := 197) rfl))) rfl
theorem k1_198 : (Cond.static y_D_addSevens) ∈ wsA := wa_mem (List.mem_append_right _ (List.mem_append_left _ (List.mem_of_getElem? (i := 198) rfl))) rfl
theorem k1_199 : (Cond.code y_D_addSevens b_D_addSevens 5 none) ∈ wsA := wa_mem (List.mem_append_right _ (List.mem_append_left _ (List.mem_of_getElem? (i := 199) rfl))) rfl
theorem k1_200 : (Cond.methodLink R_L 117 y_L_signed) ∈ wsA := wa_mem (List.mem_append_right _ (List.mem_append_left _ (List.mem_of_getElem? (i := 200) rfl))) rfl
theorem k1_201 : (Cond.static y_L_signed) ∈ wsA := wa_mem (List.mem_append_right _ (List.mem_append_left _ (List.mem_of_getElem? (i := 201) rfl))) rfl
theorem k1_202 : (Cond.codeWith y_L_signed b_L_signed 6 (some .int) [(0, 11, 14, 13), (0, 11, 18, 17)]) ∈ wsA := wa_mem (List.mem_append_right _ (List.mem_append_left _ (List.mem_of_getElem? (i := 202) rfl))) rfl
theorem k1_203 : (Cond.methodLink R_L 23 y_D_signed) ∈ wsA := wa_mem (List.mem_append_right _ (List.mem_append_left _ (List.mem_of_getElem? (i := 203) rfl))) rfl
theorem k1_204 : (Cond.instanceMethod y_D_signed) ∈ wsA := wa_mem (List.mem_append_right _ (List.mem_append_left _ (List.mem_of_getElem? (i := 204) rfl))) rfl
theorem k1_205 : (Cond.selects R_D y_D_signed y_D_signed) ∈ wsA := wa_mem (List.mem_append_right _ (List.mem_append_left _ (List.mem_of_getElem? (i := 205) rfl))) rfl
theorem k1_206 : (Cond.code y_D_signed b_D_signed 4 (some .int)) ∈ wsA := wa_mem (List.mem_append_right _ (List.mem_append_left _ (List.mem_of_getElem? (i := 206) rfl))) rfl
theorem k1_207 : (Cond.methodLink R_L 120 y_L_letter) ∈ wsA := wa_mem (List.mem_append_right _ (List.mem_append_left _ (List.mem_of_getElem? (i := 207) rfl))) rfl
theorem k1_208 : (Cond.static y_L_letter) ∈ wsA := wa_mem (List.mem_append_right _ (List.mem_append_left _ (List.mem_of_getElem? (i := 208) rfl))) rfl
theorem k1_209 : (Cond.codeWith y_L_letter b_L_letter 5 (some .int) [(0, 10, 13, 13), (0, 10, 17, 15), (0, 10, 21, 17)]) ∈ wsA := wa_mem (List.mem_append_right _ (List.mem_append_left _ (List.mem_of_getElem? (i := 209) rfl))) rfl
theorem k1_210 : (Cond.methodLink R_L 26 y_D_letter) ∈ wsA := wa_mem (List.mem_append_right _ (List.mem_append_left _ (List.mem_of_getElem? (i := 210) rfl))) rfl
theorem k1_211 : (Cond.instanceMethod y_D_letter) ∈ wsA := wa_mem (List.mem_append_right _ (List.mem_append_left _ (List.mem_of_getElem? (i := 211) rfl))) rfl
theorem k1_212 : (Cond.selects R_D y_D_letter y_D_letter) ∈ wsA := wa_mem (List.mem_append_right _ (List.mem_append_left _ (List.mem_of_getElem? (i := 212) rfl))) rfl
theorem k1_213 : (Cond.code y_D_letter b_D_letter 5 (some .int)) ∈ wsA := wa_mem (List.mem_append_right _ (List.mem_append_left _ (List.mem_of_getElem? (i := 213) rfl))) rfl
theorem k1_214 : (Cond.methodLink R_D 51 y_D_letterWidth) ∈ wsA := wa_mem (List.mem_append_right _ (List.mem_append_left _ (List.mem_of_getElem? (i := 214) rfl))) rfl
theorem k1_215 : (Cond.static y_D_letterWidth) ∈ wsA := wa_mem (List.mem_append_right _ (List.mem_append_left _ (List.mem_of_getElem? (i := 215) rfl))) rfl
theorem k1_216 : (Cond.code y_D_letterWidth b_D_letterWidth 1 (some .int)) ∈ wsA := wa_mem (List.mem_append_right _ (List.mem_append_left _ (List.mem_of_getElem? (i := 216) rfl))) rfl
theorem k1_217 : (Cond.constant R_D 185 1114111) ∈ wsA := wa_mem (List.mem_append_right _ (List.mem_append_left _ (List.mem_of_getElem? (i := 217) rfl))) rfl
theorem k1_218 : (Cond.constant R_D 186 55296) ∈ wsA := wa_mem (List.mem_append_right _ (List.mem_append_left _ (List.mem_of_getElem? (i := 218) rfl))) rfl
theorem k1_219 : (Cond.constant R_D 187 57343) ∈ wsA := wa_mem (List.mem_append_right _ (List.mem_append_left _ (List.mem_of_getElem? (i := 219) rfl))) rfl
theorem k1_221 : (Cond.methodLink R_D 62 y_D_addLetter) ∈ wsA := wa_mem (List.mem_append_right _ (List.mem_append_left _ (List.mem_of_getElem? (i := 221) rfl))) rfl
theorem k1_222 : (Cond.static y_D_addLetter) ∈ wsA := wa_mem (List.mem_append_right _ (List.mem_append_left _ (List.mem_of_getElem? (i := 222) rfl))) rfl
theorem k1_223 : (Cond.code y_D_addLetter b_D_addLetter 5 none) ∈ wsA := wa_mem (List.mem_append_right _ (List.mem_append_left _ (List.mem_of_getElem? (i := 223) rfl))) rfl
theorem k1_224 : (Cond.methodLink R_D 188 y_D_firstMark) ∈ wsA := wa_mem (List.mem_append_right _ (List.mem_append_left _ (List.mem_of_getElem? (i := 224) rfl))) rfl
theorem k1_225 : (Cond.static y_D_firstMark) ∈ wsA := wa_mem (List.mem_append_right _ (List.mem_append_left _ (List.mem_of_getElem? (i := 225) rfl))) rfl
theorem k1_226 : (Cond.code y_D_firstMark b_D_firstMark 1 (some .int)) ∈ wsA := wa_mem (List.mem_append_right _ (List.mem_append_left _ (List.mem_of_getElem? (i := 226) rfl))) rfl
theorem k1_227 : (Cond.methodLink R_L 124 y_L_copy) ∈ wsA := wa_mem (List.mem_append_right _ (List.mem_append_left _ (List.mem_of_getElem? (i := 227) rfl))) rfl
theorem k1_228 : (Cond.static y_L_copy) ∈ wsA := wa_mem (List.mem_append_right _ (List.mem_append_left _ (List.mem_of_getElem? (i := 228) rfl))) rfl
theorem k1_229 : (Cond.codeWith y_L_copy b_L_copy 7 (some .int) [(0, 14, 17, 13), (0, 14, 21, 15), (0, 14, 25, 17)]) ∈ wsA := wa_mem (List.mem_append_right _ (List.mem_append_left _ (List.mem_of_getElem? (i := 229) rfl))) rfl
theorem k1_230 : (Cond.methodLink R_L 30 y_D_copy) ∈ wsA := wa_mem (List.mem_append_right _ (List.mem_append_left _ (List.mem_of_getElem? (i := 230) rfl))) rfl
theorem k1_231 : (Cond.instanceMethod y_D_copy) ∈ wsA := wa_mem (List.mem_append_right _ (List.mem_append_left _ (List.mem_of_getElem? (i := 231) rfl))) rfl
theorem k1_232 : (Cond.selects R_D y_D_copy y_D_copy) ∈ wsA := wa_mem (List.mem_append_right _ (List.mem_append_left _ (List.mem_of_getElem? (i := 232) rfl))) rfl
theorem k1_233 : (Cond.code y_D_copy b_D_copy 7 (some .int)) ∈ wsA := wa_mem (List.mem_append_right _ (List.mem_append_left _ (List.mem_of_getElem? (i := 233) rfl))) rfl
theorem k1_234 : (Cond.methodLink R_D 66 y_D_needRange) ∈ wsA := wa_mem (List.mem_append_right _ (List.mem_append_left _ (List.mem_of_getElem? (i := 234) rfl))) rfl
theorem k1_235 : (Cond.static y_D_needRange) ∈ wsA := wa_mem (List.mem_append_right _ (List.mem_append_left _ (List.mem_of_getElem? (i := 235) rfl))) rfl
theorem k1_236 : (Cond.code y_D_needRange b_D_needRange 3 none) ∈ wsA := wa_mem (List.mem_append_right _ (List.mem_append_left _ (List.mem_of_getElem? (i := 236) rfl))) rfl
theorem k1_238 : (Cond.methodLink R_D 69 y_D_addBytes) ∈ wsA := wa_mem (List.mem_append_right _ (List.mem_append_left _ (List.mem_of_getElem? (i := 238) rfl))) rfl
theorem k1_239 : (Cond.static y_D_addBytes) ∈ wsA := wa_mem (List.mem_append_right _ (List.mem_append_left _ (List.mem_of_getElem? (i := 239) rfl))) rfl
theorem k2_0 : (Cond.code y_D_addBytes b_D_addBytes 4 none) ∈ wsA := wa_mem (List.mem_append_right _ (List.mem_append_right _ (List.mem_append_left _ (List.mem_of_getElem? (i := 0) rfl)))) rfl
theorem k2_1 : (Cond.methodLink R_D 195 arraycopyName) ∈ wsA := wa_mem (List.mem_append_right _ (List.mem_append_right _ (List.mem_append_left _ (List.mem_of_getElem? (i := 1) rfl)))) rfl
theorem k2_2 : (Cond.static arraycopyName) ∈ wsA := wa_mem (List.mem_append_right _ (List.mem_append_right _ (List.mem_append_left _ (List.mem_of_getElem? (i := 2) rfl)))) rfl
theorem k2_3 : (Cond.native arraycopyName) ∈ wsA := wa_mem (List.mem_append_right _ (List.mem_append_right _ (List.mem_append_left _ (List.mem_of_getElem? (i := 3) rfl)))) rfl
theorem k2_4 : (Cond.methodLink R_L 128 y_L_block) ∈ wsA := wa_mem (List.mem_append_right _ (List.mem_append_right _ (List.mem_append_left _ (List.mem_of_getElem? (i := 4) rfl)))) rfl
theorem k2_5 : (Cond.static y_L_block) ∈ wsA := wa_mem (List.mem_append_right _ (List.mem_append_right _ (List.mem_append_left _ (List.mem_of_getElem? (i := 5) rfl)))) rfl
theorem k2_6 : (Cond.codeWith y_L_block b_L_block 5 (some .int) [(0, 10, 13, 13), (0, 10, 17, 17)]) ∈ wsA := wa_mem (List.mem_append_right _ (List.mem_append_right _ (List.mem_append_left _ (List.mem_of_getElem? (i := 6) rfl)))) rfl
theorem k2_7 : (Cond.methodLink R_L 34 y_D_block) ∈ wsA := wa_mem (List.mem_append_right _ (List.mem_append_right _ (List.mem_append_left _ (List.mem_of_getElem? (i := 7) rfl)))) rfl
theorem k2_8 : (Cond.instanceMethod y_D_block) ∈ wsA := wa_mem (List.mem_append_right _ (List.mem_append_right _ (List.mem_append_left _ (List.mem_of_getElem? (i := 8) rfl)))) rfl
theorem k2_9 : (Cond.selects R_D y_D_block y_D_block) ∈ wsA := wa_mem (List.mem_append_right _ (List.mem_append_right _ (List.mem_append_left _ (List.mem_of_getElem? (i := 9) rfl)))) rfl
theorem k2_10 : (Cond.code y_D_block b_D_block 7 (some .int)) ∈ wsA := wa_mem (List.mem_append_right _ (List.mem_append_right _ (List.mem_append_left _ (List.mem_of_getElem? (i := 10) rfl)))) rfl
theorem k2_11 : (Cond.methodLink R_L 131 y_L_frame) ∈ wsA := wa_mem (List.mem_append_right _ (List.mem_append_right _ (List.mem_append_left _ (List.mem_of_getElem? (i := 11) rfl)))) rfl
theorem k2_12 : (Cond.static y_L_frame) ∈ wsA := wa_mem (List.mem_append_right _ (List.mem_append_right _ (List.mem_append_left _ (List.mem_of_getElem? (i := 12) rfl)))) rfl
theorem k2_13 : (Cond.codeWith y_L_frame b_L_frame 5 (some .int) [(0, 10, 13, 13), (0, 10, 17, 17)]) ∈ wsA := wa_mem (List.mem_append_right _ (List.mem_append_right _ (List.mem_append_left _ (List.mem_of_getElem? (i := 13) rfl)))) rfl
theorem k2_14 : (Cond.methodLink R_L 37 y_D_frame) ∈ wsA := wa_mem (List.mem_append_right _ (List.mem_append_right _ (List.mem_append_left _ (List.mem_of_getElem? (i := 14) rfl)))) rfl
theorem k2_15 : (Cond.instanceMethod y_D_frame) ∈ wsA := wa_mem (List.mem_append_right _ (List.mem_append_right _ (List.mem_append_left _ (List.mem_of_getElem? (i := 15) rfl)))) rfl
theorem k2_16 : (Cond.selects R_D y_D_frame y_D_frame) ∈ wsA := wa_mem (List.mem_append_right _ (List.mem_append_right _ (List.mem_append_left _ (List.mem_of_getElem? (i := 16) rfl)))) rfl
theorem k2_17 : (Cond.code y_D_frame b_D_frame 7 (some .int)) ∈ wsA := wa_mem (List.mem_append_right _ (List.mem_append_right _ (List.mem_append_left _ (List.mem_of_getElem? (i := 17) rfl)))) rfl
theorem k2_18 : (Cond.methodLink R_D 81 y_D_sumOf) ∈ wsA := wa_mem (List.mem_append_right _ (List.mem_append_right _ (List.mem_append_left _ (List.mem_of_getElem? (i := 18) rfl)))) rfl
theorem k2_19 : (Cond.static y_D_sumOf) ∈ wsA := wa_mem (List.mem_append_right _ (List.mem_append_right _ (List.mem_append_left _ (List.mem_of_getElem? (i := 19) rfl)))) rfl
theorem k2_20 : (Cond.code y_D_sumOf b_D_sumOf 6 (some .int)) ∈ wsA := wa_mem (List.mem_append_right _ (List.mem_append_right _ (List.mem_append_left _ (List.mem_of_getElem? (i := 20) rfl)))) rfl
theorem k2_21 : (Cond.methodLink R_D 92 y_R_get) ∈ wsA := wa_mem (List.mem_append_right _ (List.mem_append_right _ (List.mem_append_left _ (List.mem_of_getElem? (i := 21) rfl)))) rfl
theorem k2_22 : (Cond.instanceMethod y_R_get) ∈ wsA := wa_mem (List.mem_append_right _ (List.mem_append_right _ (List.mem_append_left _ (List.mem_of_getElem? (i := 22) rfl)))) rfl
theorem k2_23 : (Cond.selects R_R y_R_get y_R_get) ∈ wsA := wa_mem (List.mem_append_right _ (List.mem_append_right _ (List.mem_append_left _ (List.mem_of_getElem? (i := 23) rfl)))) rfl
theorem k2_24 : (Cond.code y_R_get b_R_get 2 (some .int)) ∈ wsA := wa_mem (List.mem_append_right _ (List.mem_append_right _ (List.mem_append_left _ (List.mem_of_getElem? (i := 24) rfl)))) rfl
theorem k2_25 : (Cond.constant R_D 194 (-306674912)) ∈ wsA := wa_mem (List.mem_append_right _ (List.mem_append_right _ (List.mem_append_left _ (List.mem_of_getElem? (i := 25) rfl)))) rfl
theorem k2_26 : (Cond.methodLink R_L 134 y_L_cut) ∈ wsA := wa_mem (List.mem_append_right _ (List.mem_append_right _ (List.mem_append_left _ (List.mem_of_getElem? (i := 26) rfl)))) rfl
theorem k2_27 : (Cond.static y_L_cut) ∈ wsA := wa_mem (List.mem_append_right _ (List.mem_append_right _ (List.mem_append_left _ (List.mem_of_getElem? (i := 27) rfl)))) rfl
theorem k2_28 : (Cond.codeWith y_L_cut b_L_cut 5 (some .int) [(0, 10, 13, 13), (0, 10, 17, 15)]) ∈ wsA := wa_mem (List.mem_append_right _ (List.mem_append_right _ (List.mem_append_left _ (List.mem_of_getElem? (i := 28) rfl)))) rfl
theorem k2_29 : (Cond.methodLink R_L 40 y_D_cut) ∈ wsA := wa_mem (List.mem_append_right _ (List.mem_append_right _ (List.mem_append_left _ (List.mem_of_getElem? (i := 29) rfl)))) rfl
theorem k2_30 : (Cond.instanceMethod y_D_cut) ∈ wsA := wa_mem (List.mem_append_right _ (List.mem_append_right _ (List.mem_append_left _ (List.mem_of_getElem? (i := 30) rfl)))) rfl
theorem k2_31 : (Cond.selects R_D y_D_cut y_D_cut) ∈ wsA := wa_mem (List.mem_append_right _ (List.mem_append_right _ (List.mem_append_left _ (List.mem_of_getElem? (i := 31) rfl)))) rfl
theorem k2_32 : (Cond.code y_D_cut b_D_cut 5 (some .int)) ∈ wsA := wa_mem (List.mem_append_right _ (List.mem_append_right _ (List.mem_append_left _ (List.mem_of_getElem? (i := 32) rfl)))) rfl
theorem k2_33 : (Cond.methodLink R_L 137 y_L_turn) ∈ wsA := wa_mem (List.mem_append_right _ (List.mem_append_right _ (List.mem_append_left _ (List.mem_of_getElem? (i := 33) rfl)))) rfl
theorem k2_34 : (Cond.static y_L_turn) ∈ wsA := wa_mem (List.mem_append_right _ (List.mem_append_right _ (List.mem_append_left _ (List.mem_of_getElem? (i := 34) rfl)))) rfl
theorem k2_35 : (Cond.codeWith y_L_turn b_L_turn 5 (some .int) [(0, 10, 13, 13), (0, 10, 17, 15)]) ∈ wsA := wa_mem (List.mem_append_right _ (List.mem_append_right _ (List.mem_append_left _ (List.mem_of_getElem? (i := 35) rfl)))) rfl
theorem k2_36 : (Cond.methodLink R_L 43 y_D_turn) ∈ wsA := wa_mem (List.mem_append_right _ (List.mem_append_right _ (List.mem_append_left _ (List.mem_of_getElem? (i := 36) rfl)))) rfl
theorem k2_37 : (Cond.instanceMethod y_D_turn) ∈ wsA := wa_mem (List.mem_append_right _ (List.mem_append_right _ (List.mem_append_left _ (List.mem_of_getElem? (i := 37) rfl)))) rfl
theorem k2_38 : (Cond.selects R_D y_D_turn y_D_turn) ∈ wsA := wa_mem (List.mem_append_right _ (List.mem_append_right _ (List.mem_append_left _ (List.mem_of_getElem? (i := 38) rfl)))) rfl
theorem k2_39 : (Cond.code y_D_turn b_D_turn 5 (some .int)) ∈ wsA := wa_mem (List.mem_append_right _ (List.mem_append_right _ (List.mem_append_left _ (List.mem_of_getElem? (i := 39) rfl)))) rfl
theorem k2_41 : (Cond.methodLink R_L 140 y_L_place) ∈ wsA := wa_mem (List.mem_append_right _ (List.mem_append_right _ (List.mem_append_left _ (List.mem_of_getElem? (i := 41) rfl)))) rfl
theorem k2_42 : (Cond.static y_L_place) ∈ wsA := wa_mem (List.mem_append_right _ (List.mem_append_right _ (List.mem_append_left _ (List.mem_of_getElem? (i := 42) rfl)))) rfl
theorem k2_43 : (Cond.codeWith y_L_place b_L_place 5 (some .int) [(0, 10, 13, 13), (0, 10, 17, 15)]) ∈ wsA := wa_mem (List.mem_append_right _ (List.mem_append_right _ (List.mem_append_left _ (List.mem_of_getElem? (i := 43) rfl)))) rfl
theorem k2_44 : (Cond.methodLink R_L 46 y_D_place) ∈ wsA := wa_mem (List.mem_append_right _ (List.mem_append_right _ (List.mem_append_left _ (List.mem_of_getElem? (i := 44) rfl)))) rfl
theorem k2_45 : (Cond.instanceMethod y_D_place) ∈ wsA := wa_mem (List.mem_append_right _ (List.mem_append_right _ (List.mem_append_left _ (List.mem_of_getElem? (i := 45) rfl)))) rfl
theorem k2_46 : (Cond.selects R_D y_D_place y_D_place) ∈ wsA := wa_mem (List.mem_append_right _ (List.mem_append_right _ (List.mem_append_left _ (List.mem_of_getElem? (i := 46) rfl)))) rfl
theorem k2_47 : (Cond.code y_D_place b_D_place 5 (some .int)) ∈ wsA := wa_mem (List.mem_append_right _ (List.mem_append_right _ (List.mem_append_left _ (List.mem_of_getElem? (i := 47) rfl)))) rfl
theorem k2_49 : (Cond.methodLink R_L 143 y_L_readFixed) ∈ wsA := wa_mem (List.mem_append_right _ (List.mem_append_right _ (List.mem_append_left _ (List.mem_of_getElem? (i := 49) rfl)))) rfl
theorem k2_50 : (Cond.static y_L_readFixed) ∈ wsA := wa_mem (List.mem_append_right _ (List.mem_append_right _ (List.mem_append_left _ (List.mem_of_getElem? (i := 50) rfl)))) rfl
theorem k2_51 : (Cond.codeWith y_L_readFixed b_L_readFixed 5 (some .int) [(0, 9, 12, 13), (0, 9, 16, 15), (0, 9, 20, 53)]) ∈ wsA := wa_mem (List.mem_append_right _ (List.mem_append_right _ (List.mem_append_left _ (List.mem_of_getElem? (i := 51) rfl)))) rfl
theorem k2_52 : (Cond.classLink R_L 53 "java/util/NoSuchElementException") ∈ wsA := wa_mem (List.mem_append_right _ (List.mem_append_right _ (List.mem_append_left _ (List.mem_of_getElem? (i := 52) rfl)))) rfl
theorem k2_53 : (Cond.methodLink R_L 49 y_D_readFixed) ∈ wsA := wa_mem (List.mem_append_right _ (List.mem_append_right _ (List.mem_append_left _ (List.mem_of_getElem? (i := 53) rfl)))) rfl
theorem k2_54 : (Cond.instanceMethod y_D_readFixed) ∈ wsA := wa_mem (List.mem_append_right _ (List.mem_append_right _ (List.mem_append_left _ (List.mem_of_getElem? (i := 54) rfl)))) rfl
theorem k2_55 : (Cond.selects R_D y_D_readFixed y_D_readFixed) ∈ wsA := wa_mem (List.mem_append_right _ (List.mem_append_right _ (List.mem_append_left _ (List.mem_of_getElem? (i := 55) rfl)))) rfl
theorem k2_56 : (Cond.code y_D_readFixed b_D_readFixed 6 (some .long)) ∈ wsA := wa_mem (List.mem_append_right _ (List.mem_append_right _ (List.mem_append_left _ (List.mem_of_getElem? (i := 56) rfl)))) rfl
theorem k2_57 : (Cond.methodLink R_D 101 y_D_needLeft) ∈ wsA := wa_mem (List.mem_append_right _ (List.mem_append_right _ (List.mem_append_left _ (List.mem_of_getElem? (i := 57) rfl)))) rfl
theorem k2_58 : (Cond.static y_D_needLeft) ∈ wsA := wa_mem (List.mem_append_right _ (List.mem_append_right _ (List.mem_append_left _ (List.mem_of_getElem? (i := 58) rfl)))) rfl
theorem k2_59 : (Cond.code y_D_needLeft b_D_needLeft 2 none) ∈ wsA := wa_mem (List.mem_append_right _ (List.mem_append_right _ (List.mem_append_left _ (List.mem_of_getElem? (i := 59) rfl)))) rfl
theorem k2_60 : (Cond.classLink R_D 117 "java/util/NoSuchElementException") ∈ wsA := wa_mem (List.mem_append_right _ (List.mem_append_right _ (List.mem_append_left _ (List.mem_of_getElem? (i := 60) rfl)))) rfl
theorem k2_61 : (Cond.instantiable "java/util/NoSuchElementException" 6) ∈ wsA := wa_mem (List.mem_append_right _ (List.mem_append_right _ (List.mem_append_left _ (List.mem_of_getElem? (i := 61) rfl)))) rfl
theorem k2_76 : (Cond.methodLink R_D 104 y_D_fixedAt) ∈ wsA := wa_mem (List.mem_append_right _ (List.mem_append_right _ (List.mem_append_left _ (List.mem_of_getElem? (i := 76) rfl)))) rfl
theorem k2_77 : (Cond.static y_D_fixedAt) ∈ wsA := wa_mem (List.mem_append_right _ (List.mem_append_right _ (List.mem_append_left _ (List.mem_of_getElem? (i := 77) rfl)))) rfl
theorem k2_78 : (Cond.code y_D_fixedAt b_D_fixedAt 6 (some .long)) ∈ wsA := wa_mem (List.mem_append_right _ (List.mem_append_right _ (List.mem_append_left _ (List.mem_of_getElem? (i := 78) rfl)))) rfl
theorem k2_79 : (Cond.methodLink R_L 146 y_L_readSevens) ∈ wsA := wa_mem (List.mem_append_right _ (List.mem_append_right _ (List.mem_append_left _ (List.mem_of_getElem? (i := 79) rfl)))) rfl
theorem k2_80 : (Cond.static y_L_readSevens) ∈ wsA := wa_mem (List.mem_append_right _ (List.mem_append_right _ (List.mem_append_left _ (List.mem_of_getElem? (i := 80) rfl)))) rfl
theorem k2_81 : (Cond.codeWith y_L_readSevens b_L_readSevens 4 (some .int) [(0, 8, 11, 13), (0, 8, 14, 15), (0, 8, 17, 53)]) ∈ wsA := wa_mem (List.mem_append_right _ (List.mem_append_right _ (List.mem_append_left _ (List.mem_of_getElem? (i := 81) rfl)))) rfl
theorem k2_82 : (Cond.methodLink R_L 55 y_D_readSevens) ∈ wsA := wa_mem (List.mem_append_right _ (List.mem_append_right _ (List.mem_append_left _ (List.mem_of_getElem? (i := 82) rfl)))) rfl
theorem k2_83 : (Cond.instanceMethod y_D_readSevens) ∈ wsA := wa_mem (List.mem_append_right _ (List.mem_append_right _ (List.mem_append_left _ (List.mem_of_getElem? (i := 83) rfl)))) rfl
theorem k2_84 : (Cond.selects R_D y_D_readSevens y_D_readSevens) ∈ wsA := wa_mem (List.mem_append_right _ (List.mem_append_right _ (List.mem_append_left _ (List.mem_of_getElem? (i := 84) rfl)))) rfl
theorem k2_85 : (Cond.code y_D_readSevens b_D_readSevens 2 (some .long)) ∈ wsA := wa_mem (List.mem_append_right _ (List.mem_append_right _ (List.mem_append_left _ (List.mem_of_getElem? (i := 85) rfl)))) rfl
theorem k2_86 : (Cond.methodLink R_D 108 y_D_takeSevens) ∈ wsA := wa_mem (List.mem_append_right _ (List.mem_append_right _ (List.mem_append_left _ (List.mem_of_getElem? (i := 86) rfl)))) rfl
theorem k2_87 : (Cond.static y_D_takeSevens) ∈ wsA := wa_mem (List.mem_append_right _ (List.mem_append_right _ (List.mem_append_left _ (List.mem_of_getElem? (i := 87) rfl)))) rfl
theorem k2_88 : (Cond.code y_D_takeSevens b_D_takeSevens 4 (some .long)) ∈ wsA := wa_mem (List.mem_append_right _ (List.mem_append_right _ (List.mem_append_left _ (List.mem_of_getElem? (i := 88) rfl)))) rfl
theorem k2_89 : (Cond.methodLink R_D 126 y_D_sevensWidthAtPlace) ∈ wsA := wa_mem (List.mem_append_right _ (List.mem_append_right _ (List.mem_append_left _ (List.mem_of_getElem? (i := 89) rfl)))) rfl
theorem k2_90 : (Cond.static y_D_sevensWidthAtPlace) ∈ wsA := wa_mem (List.mem_append_right _ (List.mem_append_right _ (List.mem_append_left _ (List.mem_of_getElem? (i := 90) rfl)))) rfl
theorem k2_91 : (Cond.code y_D_sevensWidthAtPlace b_D_sevensWidthAtPlace 3 (some .int)) ∈ wsA := wa_mem (List.mem_append_right _ (List.mem_append_right _ (List.mem_append_left _ (List.mem_of_getElem? (i := 91) rfl)))) rfl
theorem k2_92 : (Cond.methodLink R_D 168 y_D_needRightLast) ∈ wsA := wa_mem (List.mem_append_right _ (List.mem_append_right _ (List.mem_append_left _ (List.mem_of_getElem? (i := 92) rfl)))) rfl
theorem k2_93 : (Cond.static y_D_needRightLast) ∈ wsA := wa_mem (List.mem_append_right _ (List.mem_append_right _ (List.mem_append_left _ (List.mem_of_getElem? (i := 93) rfl)))) rfl
theorem k2_94 : (Cond.code y_D_needRightLast b_D_needRightLast 2 none) ∈ wsA := wa_mem (List.mem_append_right _ (List.mem_append_right _ (List.mem_append_left _ (List.mem_of_getElem? (i := 94) rfl)))) rfl
theorem k2_98 : (Cond.methodLink R_D 177 y_D_sevensAtPlace) ∈ wsA := wa_mem (List.mem_append_right _ (List.mem_append_right _ (List.mem_append_left _ (List.mem_of_getElem? (i := 98) rfl)))) rfl
theorem k2_99 : (Cond.static y_D_sevensAtPlace) ∈ wsA := wa_mem (List.mem_append_right _ (List.mem_append_right _ (List.mem_append_left _ (List.mem_of_getElem? (i := 99) rfl)))) rfl
theorem k2_100 : (Cond.code y_D_sevensAtPlace b_D_sevensAtPlace 5 (some .long)) ∈ wsA := wa_mem (List.mem_append_right _ (List.mem_append_right _ (List.mem_append_left _ (List.mem_of_getElem? (i := 100) rfl)))) rfl
theorem k2_101 : (Cond.methodLink R_L 150 y_L_readSigned) ∈ wsA := wa_mem (List.mem_append_right _ (List.mem_append_right _ (List.mem_append_left _ (List.mem_of_getElem? (i := 101) rfl)))) rfl
theorem k2_102 : (Cond.static y_L_readSigned) ∈ wsA := wa_mem (List.mem_append_right _ (List.mem_append_right _ (List.mem_append_left _ (List.mem_of_getElem? (i := 102) rfl)))) rfl
theorem k2_103 : (Cond.codeWith y_L_readSigned b_L_readSigned 4 (some .int) [(0, 8, 11, 13), (0, 8, 14, 15), (0, 8, 17, 53)]) ∈ wsA := wa_mem (List.mem_append_right _ (List.mem_append_right _ (List.mem_append_left _ (List.mem_of_getElem? (i := 103) rfl)))) rfl
theorem k2_104 : (Cond.methodLink R_L 59 y_D_readSigned) ∈ wsA := wa_mem (List.mem_append_right _ (List.mem_append_right _ (List.mem_append_left _ (List.mem_of_getElem? (i := 104) rfl)))) rfl
theorem k2_105 : (Cond.instanceMethod y_D_readSigned) ∈ wsA := wa_mem (List.mem_append_right _ (List.mem_append_right _ (List.mem_append_left _ (List.mem_of_getElem? (i := 105) rfl)))) rfl
theorem k2_106 : (Cond.selects R_D y_D_readSigned y_D_readSigned) ∈ wsA := wa_mem (List.mem_append_right _ (List.mem_append_right _ (List.mem_append_left _ (List.mem_of_getElem? (i := 106) rfl)))) rfl
theorem k2_107 : (Cond.code y_D_readSigned b_D_readSigned 4 (some .long)) ∈ wsA := wa_mem (List.mem_append_right _ (List.mem_append_right _ (List.mem_append_left _ (List.mem_of_getElem? (i := 107) rfl)))) rfl
theorem k2_108 : (Cond.methodLink R_L 153 y_L_readLetter) ∈ wsA := wa_mem (List.mem_append_right _ (List.mem_append_right _ (List.mem_append_left _ (List.mem_of_getElem? (i := 108) rfl)))) rfl
theorem k2_109 : (Cond.static y_L_readLetter) ∈ wsA := wa_mem (List.mem_append_right _ (List.mem_append_right _ (List.mem_append_left _ (List.mem_of_getElem? (i := 109) rfl)))) rfl
theorem k2_110 : (Cond.codeWith y_L_readLetter b_L_readLetter 4 (some .int) [(0, 9, 12, 13), (0, 9, 15, 15), (0, 9, 18, 53)]) ∈ wsA := wa_mem (List.mem_append_right _ (List.mem_append_right _ (List.mem_append_left _ (List.mem_of_getElem? (i := 110) rfl)))) rfl
theorem k2_111 : (Cond.methodLink R_L 62 y_D_readLetter) ∈ wsA := wa_mem (List.mem_append_right _ (List.mem_append_right _ (List.mem_append_left _ (List.mem_of_getElem? (i := 111) rfl)))) rfl
theorem k2_112 : (Cond.instanceMethod y_D_readLetter) ∈ wsA := wa_mem (List.mem_append_right _ (List.mem_append_right _ (List.mem_append_left _ (List.mem_of_getElem? (i := 112) rfl)))) rfl
theorem k2_113 : (Cond.selects R_D y_D_readLetter y_D_readLetter) ∈ wsA := wa_mem (List.mem_append_right _ (List.mem_append_right _ (List.mem_append_left _ (List.mem_of_getElem? (i := 113) rfl)))) rfl
theorem k2_114 : (Cond.code y_D_readLetter b_D_readLetter 4 (some .int)) ∈ wsA := wa_mem (List.mem_append_right _ (List.mem_append_right _ (List.mem_append_left _ (List.mem_of_getElem? (i := 114) rfl)))) rfl
theorem k2_115 : (Cond.methodLink R_D 112 y_D_letterAt) ∈ wsA := wa_mem (List.mem_append_right _ (List.mem_append_right _ (List.mem_append_left _ (List.mem_of_getElem? (i := 115) rfl)))) rfl
theorem k2_116 : (Cond.static y_D_letterAt) ∈ wsA := wa_mem (List.mem_append_right _ (List.mem_append_right _ (List.mem_append_left _ (List.mem_of_getElem? (i := 116) rfl)))) rfl
theorem k2_117 : (Cond.code y_D_letterAt b_D_letterAt 8 (some .int)) ∈ wsA := wa_mem (List.mem_append_right _ (List.mem_append_right _ (List.mem_append_left _ (List.mem_of_getElem? (i := 117) rfl)))) rfl
theorem k2_118 : (Cond.methodLink R_D 191 y_D_widthByFirst) ∈ wsA := wa_mem (List.mem_append_right _ (List.mem_append_right _ (List.mem_append_left _ (List.mem_of_getElem? (i := 118) rfl)))) rfl
theorem k2_119 : (Cond.static y_D_widthByFirst) ∈ wsA := wa_mem (List.mem_append_right _ (List.mem_append_right _ (List.mem_append_left _ (List.mem_of_getElem? (i := 119) rfl)))) rfl
theorem k2_120 : (Cond.code y_D_widthByFirst b_D_widthByFirst 1 (some .int)) ∈ wsA := wa_mem (List.mem_append_right _ (List.mem_append_right _ (List.mem_append_left _ (List.mem_of_getElem? (i := 120) rfl)))) rfl
theorem k2_123 : (Cond.methodLink R_L 156 y_L_readBlock) ∈ wsA := wa_mem (List.mem_append_right _ (List.mem_append_right _ (List.mem_append_left _ (List.mem_of_getElem? (i := 123) rfl)))) rfl
theorem k2_124 : (Cond.static y_L_readBlock) ∈ wsA := wa_mem (List.mem_append_right _ (List.mem_append_right _ (List.mem_append_left _ (List.mem_of_getElem? (i := 124) rfl)))) rfl
theorem k2_125 : (Cond.codeWith y_L_readBlock b_L_readBlock 5 (some .int) [(0, 10, 13, 13), (0, 10, 17, 15), (0, 10, 21, 53)]) ∈ wsA := wa_mem (List.mem_append_right _ (List.mem_append_right _ (List.mem_append_left _ (List.mem_of_getElem? (i := 125) rfl)))) rfl
theorem k2_126 : (Cond.methodLink R_L 66 y_D_readBlock) ∈ wsA := wa_mem (List.mem_append_right _ (List.mem_append_right _ (List.mem_append_left _ (List.mem_of_getElem? (i := 126) rfl)))) rfl
theorem k2_127 : (Cond.instanceMethod y_D_readBlock) ∈ wsA := wa_mem (List.mem_append_right _ (List.mem_append_right _ (List.mem_append_left _ (List.mem_of_getElem? (i := 127) rfl)))) rfl
theorem k2_128 : (Cond.selects R_D y_D_readBlock y_D_readBlock) ∈ wsA := wa_mem (List.mem_append_right _ (List.mem_append_right _ (List.mem_append_left _ (List.mem_of_getElem? (i := 128) rfl)))) rfl
theorem k2_129 : (Cond.code y_D_readBlock b_D_readBlock 7 (some .int)) ∈ wsA := wa_mem (List.mem_append_right _ (List.mem_append_right _ (List.mem_append_left _ (List.mem_of_getElem? (i := 129) rfl)))) rfl
theorem k2_130 : (Cond.methodLink R_D 122 y_D_needTwoRows) ∈ wsA := wa_mem (List.mem_append_right _ (List.mem_append_right _ (List.mem_append_left _ (List.mem_of_getElem? (i := 130) rfl)))) rfl
theorem k2_131 : (Cond.static y_D_needTwoRows) ∈ wsA := wa_mem (List.mem_append_right _ (List.mem_append_right _ (List.mem_append_left _ (List.mem_of_getElem? (i := 131) rfl)))) rfl
theorem k2_132 : (Cond.code y_D_needTwoRows b_D_needTwoRows 2 none) ∈ wsA := wa_mem (List.mem_append_right _ (List.mem_append_right _ (List.mem_append_left _ (List.mem_of_getElem? (i := 132) rfl)))) rfl
theorem k2_134 : (Cond.methodLink R_D 130 y_D_howManyAtPlace) ∈ wsA := wa_mem (List.mem_append_right _ (List.mem_append_right _ (List.mem_append_left _ (List.mem_of_getElem? (i := 134) rfl)))) rfl
theorem k2_135 : (Cond.static y_D_howManyAtPlace) ∈ wsA := wa_mem (List.mem_append_right _ (List.mem_append_right _ (List.mem_append_left _ (List.mem_of_getElem? (i := 135) rfl)))) rfl
theorem k2_136 : (Cond.code y_D_howManyAtPlace b_D_howManyAtPlace 4 (some .int)) ∈ wsA := wa_mem (List.mem_append_right _ (List.mem_append_right _ (List.mem_append_left _ (List.mem_of_getElem? (i := 136) rfl)))) rfl
theorem k2_137 : (Cond.constantLong R_D 181 65536) ∈ wsA := wa_mem (List.mem_append_right _ (List.mem_append_right _ (List.mem_append_left _ (List.mem_of_getElem? (i := 137) rfl)))) rfl
theorem k2_139 : (Cond.methodLink R_D 134 y_D_moveBytes) ∈ wsA := wa_mem (List.mem_append_right _ (List.mem_append_right _ (List.mem_append_left _ (List.mem_of_getElem? (i := 139) rfl)))) rfl
theorem k2_140 : (Cond.static y_D_moveBytes) ∈ wsA := wa_mem (List.mem_append_right _ (List.mem_append_right _ (List.mem_append_left _ (List.mem_of_getElem? (i := 140) rfl)))) rfl
theorem k2_141 : (Cond.code y_D_moveBytes b_D_moveBytes 4 none) ∈ wsA := wa_mem (List.mem_append_right _ (List.mem_append_right _ (List.mem_append_left _ (List.mem_of_getElem? (i := 141) rfl)))) rfl
theorem k2_142 : (Cond.methodLink R_L 159 y_L_readFrame) ∈ wsA := wa_mem (List.mem_append_right _ (List.mem_append_right _ (List.mem_append_left _ (List.mem_of_getElem? (i := 142) rfl)))) rfl
theorem k2_143 : (Cond.static y_L_readFrame) ∈ wsA := wa_mem (List.mem_append_right _ (List.mem_append_right _ (List.mem_append_left _ (List.mem_of_getElem? (i := 143) rfl)))) rfl
theorem k2_144 : (Cond.codeWith y_L_readFrame b_L_readFrame 5 (some .int) [(0, 10, 13, 13), (0, 10, 17, 15), (0, 10, 21, 53), (0, 10, 25, 72)]) ∈ wsA := wa_mem (List.mem_append_right _ (List.mem_append_right _ (List.mem_append_left _ (List.mem_of_getElem? (i := 144) rfl)))) rfl
theorem k2_145 : (Cond.classLink R_L 72 "java/lang/UnsupportedOperationException") ∈ wsA := wa_mem (List.mem_append_right _ (List.mem_append_right _ (List.mem_append_left _ (List.mem_of_getElem? (i := 145) rfl)))) rfl
theorem k2_146 : (Cond.methodLink R_L 69 y_D_readFrame) ∈ wsA := wa_mem (List.mem_append_right _ (List.mem_append_right _ (List.mem_append_left _ (List.mem_of_getElem? (i := 146) rfl)))) rfl
theorem k2_147 : (Cond.instanceMethod y_D_readFrame) ∈ wsA := wa_mem (List.mem_append_right _ (List.mem_append_right _ (List.mem_append_left _ (List.mem_of_getElem? (i := 147) rfl)))) rfl
theorem k2_148 : (Cond.selects R_D y_D_readFrame y_D_readFrame) ∈ wsA := wa_mem (List.mem_append_right _ (List.mem_append_right _ (List.mem_append_left _ (List.mem_of_getElem? (i := 148) rfl)))) rfl
theorem k2_149 : (Cond.code y_D_readFrame b_D_readFrame 9 (some .int)) ∈ wsA := wa_mem (List.mem_append_right _ (List.mem_append_right _ (List.mem_append_left _ (List.mem_of_getElem? (i := 149) rfl)))) rfl
theorem k2_150 : (Cond.classLink R_D 138 "java/lang/UnsupportedOperationException") ∈ wsA := wa_mem (List.mem_append_right _ (List.mem_append_right _ (List.mem_append_left _ (List.mem_of_getElem? (i := 150) rfl)))) rfl
theorem k2_151 : (Cond.instantiable "java/lang/UnsupportedOperationException" 6) ∈ wsA := wa_mem (List.mem_append_right _ (List.mem_append_right _ (List.mem_append_left _ (List.mem_of_getElem? (i := 151) rfl)))) rfl
theorem k2_166 : (Cond.methodLink R_L 162 y_L_letters) ∈ wsA := wa_mem (List.mem_append_right _ (List.mem_append_right _ (List.mem_append_left _ (List.mem_of_getElem? (i := 166) rfl)))) rfl
theorem k2_167 : (Cond.static y_L_letters) ∈ wsA := wa_mem (List.mem_append_right _ (List.mem_append_right _ (List.mem_append_left _ (List.mem_of_getElem? (i := 167) rfl)))) rfl
theorem k2_168 : (Cond.codeWith y_L_letters b_L_letters 6 (some .int) [(0, 12, 15, 13), (0, 12, 19, 15)]) ∈ wsA := wa_mem (List.mem_append_right _ (List.mem_append_right _ (List.mem_append_left _ (List.mem_of_getElem? (i := 168) rfl)))) rfl
theorem k2_169 : (Cond.methodLink R_L 74 y_D_letters) ∈ wsA := wa_mem (List.mem_append_right _ (List.mem_append_right _ (List.mem_append_left _ (List.mem_of_getElem? (i := 169) rfl)))) rfl
theorem k2_170 : (Cond.instanceMethod y_D_letters) ∈ wsA := wa_mem (List.mem_append_right _ (List.mem_append_right _ (List.mem_append_left _ (List.mem_of_getElem? (i := 170) rfl)))) rfl
theorem k2_171 : (Cond.selects R_D y_D_letters y_D_letters) ∈ wsA := wa_mem (List.mem_append_right _ (List.mem_append_right _ (List.mem_append_left _ (List.mem_of_getElem? (i := 171) rfl)))) rfl
theorem k2_172 : (Cond.code y_D_letters b_D_letters 9 (some .int)) ∈ wsA := wa_mem (List.mem_append_right _ (List.mem_append_right _ (List.mem_append_left _ (List.mem_of_getElem? (i := 172) rfl)))) rfl
theorem k2_174 : (Cond.methodLink R_L 166 y_L_sum) ∈ wsA := wa_mem (List.mem_append_right _ (List.mem_append_right _ (List.mem_append_left _ (List.mem_of_getElem? (i := 174) rfl)))) rfl
theorem k2_175 : (Cond.static y_L_sum) ∈ wsA := wa_mem (List.mem_append_right _ (List.mem_append_right _ (List.mem_append_left _ (List.mem_of_getElem? (i := 175) rfl)))) rfl
theorem k2_176 : (Cond.codeWith y_L_sum b_L_sum 6 (some .int) [(0, 12, 15, 13), (0, 12, 19, 15)]) ∈ wsA := wa_mem (List.mem_append_right _ (List.mem_append_right _ (List.mem_append_left _ (List.mem_of_getElem? (i := 176) rfl)))) rfl
theorem k2_177 : (Cond.methodLink R_L 78 y_D_sum) ∈ wsA := wa_mem (List.mem_append_right _ (List.mem_append_right _ (List.mem_append_left _ (List.mem_of_getElem? (i := 177) rfl)))) rfl
theorem k2_178 : (Cond.instanceMethod y_D_sum) ∈ wsA := wa_mem (List.mem_append_right _ (List.mem_append_right _ (List.mem_append_left _ (List.mem_of_getElem? (i := 178) rfl)))) rfl
theorem k2_179 : (Cond.selects R_D y_D_sum y_D_sum) ∈ wsA := wa_mem (List.mem_append_right _ (List.mem_append_right _ (List.mem_append_left _ (List.mem_of_getElem? (i := 179) rfl)))) rfl
theorem k2_180 : (Cond.code y_D_sum b_D_sum 5 (some .int)) ∈ wsA := wa_mem (List.mem_append_right _ (List.mem_append_right _ (List.mem_append_left _ (List.mem_of_getElem? (i := 180) rfl)))) rfl
theorem k2_181 : (Cond.methodLink R_L 169 y_L_same) ∈ wsA := wa_mem (List.mem_append_right _ (List.mem_append_right _ (List.mem_append_left _ (List.mem_of_getElem? (i := 181) rfl)))) rfl
theorem k2_182 : (Cond.static y_L_same) ∈ wsA := wa_mem (List.mem_append_right _ (List.mem_append_right _ (List.mem_append_left _ (List.mem_of_getElem? (i := 182) rfl)))) rfl
theorem k2_183 : (Cond.codeWith y_L_same b_L_same 5 (some .int) [(0, 17, 20, 13)]) ∈ wsA := wa_mem (List.mem_append_right _ (List.mem_append_right _ (List.mem_append_left _ (List.mem_of_getElem? (i := 183) rfl)))) rfl
theorem k2_184 : (Cond.methodLink R_L 81 y_D_same) ∈ wsA := wa_mem (List.mem_append_right _ (List.mem_append_right _ (List.mem_append_left _ (List.mem_of_getElem? (i := 184) rfl)))) rfl
theorem k2_185 : (Cond.instanceMethod y_D_same) ∈ wsA := wa_mem (List.mem_append_right _ (List.mem_append_right _ (List.mem_append_left _ (List.mem_of_getElem? (i := 185) rfl)))) rfl
theorem k2_186 : (Cond.selects R_D y_D_same y_D_same) ∈ wsA := wa_mem (List.mem_append_right _ (List.mem_append_right _ (List.mem_append_left _ (List.mem_of_getElem? (i := 186) rfl)))) rfl
theorem k2_187 : (Cond.code y_D_same b_D_same 6 (some .boolean)) ∈ wsA := wa_mem (List.mem_append_right _ (List.mem_append_right _ (List.mem_append_left _ (List.mem_of_getElem? (i := 187) rfl)))) rfl
theorem k2_188 : (Cond.methodLink R_L 172 y_L_row) ∈ wsA := wa_mem (List.mem_append_right _ (List.mem_append_right _ (List.mem_append_left _ (List.mem_of_getElem? (i := 188) rfl)))) rfl
theorem k2_189 : (Cond.static y_L_row) ∈ wsA := wa_mem (List.mem_append_right _ (List.mem_append_right _ (List.mem_append_left _ (List.mem_of_getElem? (i := 189) rfl)))) rfl
theorem k2_190 : (Cond.codeWith y_L_row b_L_row 5 (some .int) [(0, 10, 13, 13), (0, 10, 17, 15)]) ∈ wsA := wa_mem (List.mem_append_right _ (List.mem_append_right _ (List.mem_append_left _ (List.mem_of_getElem? (i := 190) rfl)))) rfl
theorem k2_191 : (Cond.methodLink R_L 85 y_D_row) ∈ wsA := wa_mem (List.mem_append_right _ (List.mem_append_right _ (List.mem_append_left _ (List.mem_of_getElem? (i := 191) rfl)))) rfl
theorem k2_192 : (Cond.instanceMethod y_D_row) ∈ wsA := wa_mem (List.mem_append_right _ (List.mem_append_right _ (List.mem_append_left _ (List.mem_of_getElem? (i := 192) rfl)))) rfl
theorem k2_193 : (Cond.selects R_D y_D_row y_D_row) ∈ wsA := wa_mem (List.mem_append_right _ (List.mem_append_right _ (List.mem_append_left _ (List.mem_of_getElem? (i := 193) rfl)))) rfl
theorem k2_194 : (Cond.code y_D_row b_D_row 4 (some .int)) ∈ wsA := wa_mem (List.mem_append_right _ (List.mem_append_right _ (List.mem_append_left _ (List.mem_of_getElem? (i := 194) rfl)))) rfl
theorem k2_196 : (Cond.methodLink R_L 175 y_L_byteAt) ∈ wsA := wa_mem (List.mem_append_right _ (List.mem_append_right _ (List.mem_append_left _ (List.mem_of_getElem? (i := 196) rfl)))) rfl
theorem k2_197 : (Cond.static y_L_byteAt) ∈ wsA := wa_mem (List.mem_append_right _ (List.mem_append_right _ (List.mem_append_left _ (List.mem_of_getElem? (i := 197) rfl)))) rfl
theorem k2_198 : (Cond.codeWith y_L_byteAt b_L_byteAt 5 (some .int) [(0, 10, 13, 13), (0, 10, 17, 15)]) ∈ wsA := wa_mem (List.mem_append_right _ (List.mem_append_right _ (List.mem_append_left _ (List.mem_of_getElem? (i := 198) rfl)))) rfl
theorem k2_199 : (Cond.methodLink R_L 88 y_D_byteAt) ∈ wsA := wa_mem (List.mem_append_right _ (List.mem_append_right _ (List.mem_append_left _ (List.mem_of_getElem? (i := 199) rfl)))) rfl
theorem k2_200 : (Cond.instanceMethod y_D_byteAt) ∈ wsA := wa_mem (List.mem_append_right _ (List.mem_append_right _ (List.mem_append_left _ (List.mem_of_getElem? (i := 200) rfl)))) rfl
theorem k2_201 : (Cond.selects R_D y_D_byteAt y_D_byteAt) ∈ wsA := wa_mem (List.mem_append_right _ (List.mem_append_right _ (List.mem_append_left _ (List.mem_of_getElem? (i := 201) rfl)))) rfl
theorem k2_202 : (Cond.code y_D_byteAt b_D_byteAt 4 (some .int)) ∈ wsA := wa_mem (List.mem_append_right _ (List.mem_append_right _ (List.mem_append_left _ (List.mem_of_getElem? (i := 202) rfl)))) rfl
theorem k2_204 : (Cond.classLink R_L 100 R_M) ∈ wsA := wa_mem (List.mem_append_right _ (List.mem_append_right _ (List.mem_append_left _ (List.mem_of_getElem? (i := 204) rfl)))) rfl
theorem k2_205 : (Cond.instantiable R_M 6) ∈ wsA := wa_mem (List.mem_append_right _ (List.mem_append_right _ (List.mem_append_left _ (List.mem_of_getElem? (i := 205) rfl)))) rfl
theorem k2_206 : (Cond.methodLink R_L 102 y_M_init) ∈ wsA := wa_mem (List.mem_append_right _ (List.mem_append_right _ (List.mem_append_left _ (List.mem_of_getElem? (i := 206) rfl)))) rfl
theorem k2_207 : (Cond.instanceMethod y_M_init) ∈ wsA := wa_mem (List.mem_append_right _ (List.mem_append_right _ (List.mem_append_left _ (List.mem_of_getElem? (i := 207) rfl)))) rfl
theorem k2_208 : (Cond.code y_M_init b_M_init 2 none) ∈ wsA := wa_mem (List.mem_append_right _ (List.mem_append_right _ (List.mem_append_left _ (List.mem_of_getElem? (i := 208) rfl)))) rfl
theorem k2_209 : (Cond.methodLink R_M 1 objectInit) ∈ wsA := wa_mem (List.mem_append_right _ (List.mem_append_right _ (List.mem_append_left _ (List.mem_of_getElem? (i := 209) rfl)))) rfl
theorem k2_210 : (Cond.constant R_M 7 32768) ∈ wsA := wa_mem (List.mem_append_right _ (List.mem_append_right _ (List.mem_append_left _ (List.mem_of_getElem? (i := 210) rfl)))) rfl
theorem k2_211 : (Cond.constant R_M 21 65536) ∈ wsA := wa_mem (List.mem_append_right _ (List.mem_append_right _ (List.mem_append_left _ (List.mem_of_getElem? (i := 211) rfl)))) rfl
theorem k2_212 : (Cond.fieldLink R_M 26 R_M "thrown" "I") ∈ wsA := wa_mem (List.mem_append_right _ (List.mem_append_right _ (List.mem_append_left _ (List.mem_of_getElem? (i := 212) rfl)))) rfl
theorem k2_213 : (Cond.fieldLink R_M 22 R_M "limit" "I") ∈ wsA := wa_mem (List.mem_append_right _ (List.mem_append_right _ (List.mem_append_left _ (List.mem_of_getElem? (i := 213) rfl)))) rfl
theorem k2_214 : (Cond.fieldLink R_M 8 R_M "cells" "[J") ∈ wsA := wa_mem (List.mem_append_right _ (List.mem_append_right _ (List.mem_append_left _ (List.mem_of_getElem? (i := 214) rfl)))) rfl
theorem k2_215 : (Cond.fieldLink R_M 14 R_M "sizes" "[I") ∈ wsA := wa_mem (List.mem_append_right _ (List.mem_append_right _ (List.mem_append_left _ (List.mem_of_getElem? (i := 215) rfl)))) rfl
theorem k2_216 : (Cond.fieldLink R_M 18 R_M "places" "[I") ∈ wsA := wa_mem (List.mem_append_right _ (List.mem_append_right _ (List.mem_append_left _ (List.mem_of_getElem? (i := 216) rfl)))) rfl
theorem k2_217 : (Cond.fieldLink R_M 100 R_M "took" "I") ∈ wsA := wa_mem (List.mem_append_right _ (List.mem_append_right _ (List.mem_append_left _ (List.mem_of_getElem? (i := 217) rfl)))) rfl
theorem k2_231 : (Cond.arrayClass .long) ∈ wsA := wa_mem (List.mem_append_right _ (List.mem_append_right _ (List.mem_append_left _ (List.mem_of_getElem? (i := 231) rfl)))) rfl
theorem k2_232 : (Cond.arrayClass .int) ∈ wsA := wa_mem (List.mem_append_right _ (List.mem_append_right _ (List.mem_append_left _ (List.mem_of_getElem? (i := 232) rfl)))) rfl
theorem k2_233 : (Cond.methodLink R_L 109 y_M_thrown) ∈ wsA := wa_mem (List.mem_append_right _ (List.mem_append_right _ (List.mem_append_left _ (List.mem_of_getElem? (i := 233) rfl)))) rfl
theorem k2_234 : (Cond.instanceMethod y_M_thrown) ∈ wsA := wa_mem (List.mem_append_right _ (List.mem_append_right _ (List.mem_append_left _ (List.mem_of_getElem? (i := 234) rfl)))) rfl
theorem k2_235 : (Cond.selects R_M y_M_thrown y_M_thrown) ∈ wsA := wa_mem (List.mem_append_right _ (List.mem_append_right _ (List.mem_append_left _ (List.mem_of_getElem? (i := 235) rfl)))) rfl
theorem k2_236 : (Cond.code y_M_thrown b_M_thrown 1 (some .int)) ∈ wsA := wa_mem (List.mem_append_right _ (List.mem_append_right _ (List.mem_append_left _ (List.mem_of_getElem? (i := 236) rfl)))) rfl
theorem k2_237 : (Cond.methodLink R_L 108 y_M_fixed) ∈ wsA := wa_mem (List.mem_append_right _ (List.mem_append_right _ (List.mem_append_left _ (List.mem_of_getElem? (i := 237) rfl)))) rfl
theorem k2_238 : (Cond.instanceMethod y_M_fixed) ∈ wsA := wa_mem (List.mem_append_right _ (List.mem_append_right _ (List.mem_append_left _ (List.mem_of_getElem? (i := 238) rfl)))) rfl
theorem k2_239 : (Cond.selects R_M y_M_fixed y_M_fixed) ∈ wsA := wa_mem (List.mem_append_right _ (List.mem_append_right _ (List.mem_append_left _ (List.mem_of_getElem? (i := 239) rfl)))) rfl
theorem k3_0 : (Cond.code y_M_fixed b_M_fixed 6 (some .int)) ∈ wsA := wa_mem (List.mem_append_right _ (List.mem_append_right _ (List.mem_append_right _ (List.mem_of_getElem? (i := 0) rfl)))) rfl
theorem k3_1 : (Cond.methodLink R_M 52 y_M_isRow) ∈ wsA := wa_mem (List.mem_append_right _ (List.mem_append_right _ (List.mem_append_right _ (List.mem_of_getElem? (i := 1) rfl)))) rfl
theorem k3_2 : (Cond.static y_M_isRow) ∈ wsA := wa_mem (List.mem_append_right _ (List.mem_append_right _ (List.mem_append_right _ (List.mem_of_getElem? (i := 2) rfl)))) rfl
theorem k3_3 : (Cond.code y_M_isRow b_M_isRow 1 (some .boolean)) ∈ wsA := wa_mem (List.mem_append_right _ (List.mem_append_right _ (List.mem_append_right _ (List.mem_of_getElem? (i := 3) rfl)))) rfl
theorem k3_4 : (Cond.methodLink R_M 56 y_M_fail) ∈ wsA := wa_mem (List.mem_append_right _ (List.mem_append_right _ (List.mem_append_right _ (List.mem_of_getElem? (i := 4) rfl)))) rfl
theorem k3_6 : (Cond.instanceMethod y_M_fail) ∈ wsA := wa_mem (List.mem_append_right _ (List.mem_append_right _ (List.mem_append_right _ (List.mem_of_getElem? (i := 6) rfl)))) rfl
theorem k3_7 : (Cond.code y_M_fail b_M_fail 2 (some .int)) ∈ wsA := wa_mem (List.mem_append_right _ (List.mem_append_right _ (List.mem_append_right _ (List.mem_of_getElem? (i := 7) rfl)))) rfl
theorem k3_8 : (Cond.methodLink R_M 60 y_M_fits) ∈ wsA := wa_mem (List.mem_append_right _ (List.mem_append_right _ (List.mem_append_right _ (List.mem_of_getElem? (i := 8) rfl)))) rfl
theorem k3_10 : (Cond.instanceMethod y_M_fits) ∈ wsA := wa_mem (List.mem_append_right _ (List.mem_append_right _ (List.mem_append_right _ (List.mem_of_getElem? (i := 10) rfl)))) rfl
theorem k3_11 : (Cond.code y_M_fits b_M_fits 3 (some .boolean)) ∈ wsA := wa_mem (List.mem_append_right _ (List.mem_append_right _ (List.mem_append_right _ (List.mem_of_getElem? (i := 11) rfl)))) rfl
theorem k3_12 : (Cond.constantLong R_M 29 255) ∈ wsA := wa_mem (List.mem_append_right _ (List.mem_append_right _ (List.mem_append_right _ (List.mem_of_getElem? (i := 12) rfl)))) rfl
theorem k3_13 : (Cond.methodLink R_M 43 y_M_add) ∈ wsA := wa_mem (List.mem_append_right _ (List.mem_append_right _ (List.mem_append_right _ (List.mem_of_getElem? (i := 13) rfl)))) rfl
theorem k3_15 : (Cond.instanceMethod y_M_add) ∈ wsA := wa_mem (List.mem_append_right _ (List.mem_append_right _ (List.mem_append_right _ (List.mem_of_getElem? (i := 15) rfl)))) rfl
theorem k3_16 : (Cond.code y_M_add b_M_add 3 none) ∈ wsA := wa_mem (List.mem_append_right _ (List.mem_append_right _ (List.mem_append_right _ (List.mem_of_getElem? (i := 16) rfl)))) rfl
theorem k3_17 : (Cond.methodLink R_M 33 y_M_set) ∈ wsA := wa_mem (List.mem_append_right _ (List.mem_append_right _ (List.mem_append_right _ (List.mem_of_getElem? (i := 17) rfl)))) rfl
theorem k3_19 : (Cond.instanceMethod y_M_set) ∈ wsA := wa_mem (List.mem_append_right _ (List.mem_append_right _ (List.mem_append_right _ (List.mem_of_getElem? (i := 19) rfl)))) rfl
theorem k3_20 : (Cond.code y_M_set b_M_set 6 none) ∈ wsA := wa_mem (List.mem_append_right _ (List.mem_append_right _ (List.mem_append_right _ (List.mem_of_getElem? (i := 20) rfl)))) rfl
theorem k3_21 : (Cond.constantLong R_M 31 (-1)) ∈ wsA := wa_mem (List.mem_append_right _ (List.mem_append_right _ (List.mem_append_right _ (List.mem_of_getElem? (i := 21) rfl)))) rfl
theorem k3_22 : (Cond.methodLink R_L 116 y_M_sevens) ∈ wsA := wa_mem (List.mem_append_right _ (List.mem_append_right _ (List.mem_append_right _ (List.mem_of_getElem? (i := 22) rfl)))) rfl
theorem k3_23 : (Cond.instanceMethod y_M_sevens) ∈ wsA := wa_mem (List.mem_append_right _ (List.mem_append_right _ (List.mem_append_right _ (List.mem_of_getElem? (i := 23) rfl)))) rfl
theorem k3_24 : (Cond.selects R_M y_M_sevens y_M_sevens) ∈ wsA := wa_mem (List.mem_append_right _ (List.mem_append_right _ (List.mem_append_right _ (List.mem_of_getElem? (i := 24) rfl)))) rfl
theorem k3_25 : (Cond.code y_M_sevens b_M_sevens 4 (some .int)) ∈ wsA := wa_mem (List.mem_append_right _ (List.mem_append_right _ (List.mem_append_right _ (List.mem_of_getElem? (i := 25) rfl)))) rfl
theorem k3_26 : (Cond.methodLink R_M 68 y_M_putGroups) ∈ wsA := wa_mem (List.mem_append_right _ (List.mem_append_right _ (List.mem_append_right _ (List.mem_of_getElem? (i := 26) rfl)))) rfl
theorem k3_28 : (Cond.instanceMethod y_M_putGroups) ∈ wsA := wa_mem (List.mem_append_right _ (List.mem_append_right _ (List.mem_append_right _ (List.mem_of_getElem? (i := 28) rfl)))) rfl
theorem k3_29 : (Cond.code y_M_putGroups b_M_putGroups 5 (some .int)) ∈ wsA := wa_mem (List.mem_append_right _ (List.mem_append_right _ (List.mem_append_right _ (List.mem_of_getElem? (i := 29) rfl)))) rfl
theorem k3_30 : (Cond.methodLink R_M 37 y_M_groups) ∈ wsA := wa_mem (List.mem_append_right _ (List.mem_append_right _ (List.mem_append_right _ (List.mem_of_getElem? (i := 30) rfl)))) rfl
theorem k3_31 : (Cond.static y_M_groups) ∈ wsA := wa_mem (List.mem_append_right _ (List.mem_append_right _ (List.mem_append_right _ (List.mem_of_getElem? (i := 31) rfl)))) rfl
theorem k3_32 : (Cond.code y_M_groups b_M_groups 5 (some .int)) ∈ wsA := wa_mem (List.mem_append_right _ (List.mem_append_right _ (List.mem_append_right _ (List.mem_of_getElem? (i := 32) rfl)))) rfl
theorem k3_33 : (Cond.methodLink R_M 64 y_M_addGroups) ∈ wsA := wa_mem (List.mem_append_right _ (List.mem_append_right _ (List.mem_append_right _ (List.mem_of_getElem? (i := 33) rfl)))) rfl
theorem k3_35 : (Cond.instanceMethod y_M_addGroups) ∈ wsA := wa_mem (List.mem_append_right _ (List.mem_append_right _ (List.mem_append_right _ (List.mem_of_getElem? (i := 35) rfl)))) rfl
theorem k3_36 : (Cond.code y_M_addGroups b_M_addGroups 7 none) ∈ wsA := wa_mem (List.mem_append_right _ (List.mem_append_right _ (List.mem_append_right _ (List.mem_of_getElem? (i := 36) rfl)))) rfl
theorem k3_37 : (Cond.constantLong R_M 41 127) ∈ wsA := wa_mem (List.mem_append_right _ (List.mem_append_right _ (List.mem_append_right _ (List.mem_of_getElem? (i := 37) rfl)))) rfl
theorem k3_38 : (Cond.methodLink R_L 119 y_M_signed) ∈ wsA := wa_mem (List.mem_append_right _ (List.mem_append_right _ (List.mem_append_right _ (List.mem_of_getElem? (i := 38) rfl)))) rfl
theorem k3_39 : (Cond.instanceMethod y_M_signed) ∈ wsA := wa_mem (List.mem_append_right _ (List.mem_append_right _ (List.mem_append_right _ (List.mem_of_getElem? (i := 39) rfl)))) rfl
theorem k3_40 : (Cond.selects R_M y_M_signed y_M_signed) ∈ wsA := wa_mem (List.mem_append_right _ (List.mem_append_right _ (List.mem_append_right _ (List.mem_of_getElem? (i := 40) rfl)))) rfl
theorem k3_41 : (Cond.code y_M_signed b_M_signed 4 (some .int)) ∈ wsA := wa_mem (List.mem_append_right _ (List.mem_append_right _ (List.mem_append_right _ (List.mem_of_getElem? (i := 41) rfl)))) rfl
theorem k3_42 : (Cond.methodLink R_M 72 y_M_folded) ∈ wsA := wa_mem (List.mem_append_right _ (List.mem_append_right _ (List.mem_append_right _ (List.mem_of_getElem? (i := 42) rfl)))) rfl
theorem k3_43 : (Cond.static y_M_folded) ∈ wsA := wa_mem (List.mem_append_right _ (List.mem_append_right _ (List.mem_append_right _ (List.mem_of_getElem? (i := 43) rfl)))) rfl
theorem k3_44 : (Cond.code y_M_folded b_M_folded 2 (some .long)) ∈ wsA := wa_mem (List.mem_append_right _ (List.mem_append_right _ (List.mem_append_right _ (List.mem_of_getElem? (i := 44) rfl)))) rfl
theorem k3_45 : (Cond.methodLink R_L 123 y_M_letter) ∈ wsA := wa_mem (List.mem_append_right _ (List.mem_append_right _ (List.mem_append_right _ (List.mem_of_getElem? (i := 45) rfl)))) rfl
theorem k3_46 : (Cond.instanceMethod y_M_letter) ∈ wsA := wa_mem (List.mem_append_right _ (List.mem_append_right _ (List.mem_append_right _ (List.mem_of_getElem? (i := 46) rfl)))) rfl
theorem k3_47 : (Cond.selects R_M y_M_letter y_M_letter) ∈ wsA := wa_mem (List.mem_append_right _ (List.mem_append_right _ (List.mem_append_right _ (List.mem_of_getElem? (i := 47) rfl)))) rfl
theorem k3_48 : (Cond.code y_M_letter b_M_letter 7 (some .int)) ∈ wsA := wa_mem (List.mem_append_right _ (List.mem_append_right _ (List.mem_append_right _ (List.mem_of_getElem? (i := 48) rfl)))) rfl
theorem k3_49 : (Cond.methodLink R_M 79 y_M_isLetter) ∈ wsA := wa_mem (List.mem_append_right _ (List.mem_append_right _ (List.mem_append_right _ (List.mem_of_getElem? (i := 49) rfl)))) rfl
theorem k3_50 : (Cond.static y_M_isLetter) ∈ wsA := wa_mem (List.mem_append_right _ (List.mem_append_right _ (List.mem_append_right _ (List.mem_of_getElem? (i := 50) rfl)))) rfl
theorem k3_51 : (Cond.code y_M_isLetter b_M_isLetter 1 (some .boolean)) ∈ wsA := wa_mem (List.mem_append_right _ (List.mem_append_right _ (List.mem_append_right _ (List.mem_of_getElem? (i := 51) rfl)))) rfl
theorem k3_52 : (Cond.constant R_M 76 1114111) ∈ wsA := wa_mem (List.mem_append_right _ (List.mem_append_right _ (List.mem_append_right _ (List.mem_of_getElem? (i := 52) rfl)))) rfl
theorem k3_53 : (Cond.constant R_M 77 55296) ∈ wsA := wa_mem (List.mem_append_right _ (List.mem_append_right _ (List.mem_append_right _ (List.mem_of_getElem? (i := 53) rfl)))) rfl
theorem k3_54 : (Cond.constant R_M 78 57343) ∈ wsA := wa_mem (List.mem_append_right _ (List.mem_append_right _ (List.mem_append_right _ (List.mem_of_getElem? (i := 54) rfl)))) rfl
theorem k3_55 : (Cond.methodLink R_M 82 y_M_lengthOf) ∈ wsA := wa_mem (List.mem_append_right _ (List.mem_append_right _ (List.mem_append_right _ (List.mem_of_getElem? (i := 55) rfl)))) rfl
theorem k3_56 : (Cond.static y_M_lengthOf) ∈ wsA := wa_mem (List.mem_append_right _ (List.mem_append_right _ (List.mem_append_right _ (List.mem_of_getElem? (i := 56) rfl)))) rfl
theorem k3_57 : (Cond.code y_M_lengthOf b_M_lengthOf 1 (some .int)) ∈ wsA := wa_mem (List.mem_append_right _ (List.mem_append_right _ (List.mem_append_right _ (List.mem_of_getElem? (i := 57) rfl)))) rfl
theorem k3_58 : (Cond.methodLink R_L 127 y_M_copy) ∈ wsA := wa_mem (List.mem_append_right _ (List.mem_append_right _ (List.mem_append_right _ (List.mem_of_getElem? (i := 58) rfl)))) rfl
theorem k3_59 : (Cond.instanceMethod y_M_copy) ∈ wsA := wa_mem (List.mem_append_right _ (List.mem_append_right _ (List.mem_append_right _ (List.mem_of_getElem? (i := 59) rfl)))) rfl
theorem k3_60 : (Cond.selects R_M y_M_copy y_M_copy) ∈ wsA := wa_mem (List.mem_append_right _ (List.mem_append_right _ (List.mem_append_right _ (List.mem_of_getElem? (i := 60) rfl)))) rfl
theorem k3_61 : (Cond.code y_M_copy b_M_copy 6 (some .int)) ∈ wsA := wa_mem (List.mem_append_right _ (List.mem_append_right _ (List.mem_append_right _ (List.mem_of_getElem? (i := 61) rfl)))) rfl
theorem k3_62 : (Cond.methodLink R_M 85 y_M_has) ∈ wsA := wa_mem (List.mem_append_right _ (List.mem_append_right _ (List.mem_append_right _ (List.mem_of_getElem? (i := 62) rfl)))) rfl
theorem k3_64 : (Cond.instanceMethod y_M_has) ∈ wsA := wa_mem (List.mem_append_right _ (List.mem_append_right _ (List.mem_append_right _ (List.mem_of_getElem? (i := 64) rfl)))) rfl
theorem k3_65 : (Cond.code y_M_has b_M_has 4 (some .boolean)) ∈ wsA := wa_mem (List.mem_append_right _ (List.mem_append_right _ (List.mem_append_right _ (List.mem_of_getElem? (i := 65) rfl)))) rfl
theorem k3_66 : (Cond.methodLink R_M 47 y_M_at) ∈ wsA := wa_mem (List.mem_append_right _ (List.mem_append_right _ (List.mem_append_right _ (List.mem_of_getElem? (i := 66) rfl)))) rfl
theorem k3_68 : (Cond.instanceMethod y_M_at) ∈ wsA := wa_mem (List.mem_append_right _ (List.mem_append_right _ (List.mem_append_right _ (List.mem_of_getElem? (i := 68) rfl)))) rfl
theorem k3_69 : (Cond.code y_M_at b_M_at 3 (some .int)) ∈ wsA := wa_mem (List.mem_append_right _ (List.mem_append_right _ (List.mem_append_right _ (List.mem_of_getElem? (i := 69) rfl)))) rfl
theorem k3_70 : (Cond.methodLink R_L 130 y_M_block) ∈ wsA := wa_mem (List.mem_append_right _ (List.mem_append_right _ (List.mem_append_right _ (List.mem_of_getElem? (i := 70) rfl)))) rfl
theorem k3_71 : (Cond.instanceMethod y_M_block) ∈ wsA := wa_mem (List.mem_append_right _ (List.mem_append_right _ (List.mem_append_right _ (List.mem_of_getElem? (i := 71) rfl)))) rfl
theorem k3_72 : (Cond.selects R_M y_M_block y_M_block) ∈ wsA := wa_mem (List.mem_append_right _ (List.mem_append_right _ (List.mem_append_right _ (List.mem_of_getElem? (i := 72) rfl)))) rfl
theorem k3_73 : (Cond.code y_M_block b_M_block 3 (some .int)) ∈ wsA := wa_mem (List.mem_append_right _ (List.mem_append_right _ (List.mem_append_right _ (List.mem_of_getElem? (i := 73) rfl)))) rfl
theorem k3_74 : (Cond.methodLink R_M 93 y_M_wrap) ∈ wsA := wa_mem (List.mem_append_right _ (List.mem_append_right _ (List.mem_append_right _ (List.mem_of_getElem? (i := 74) rfl)))) rfl
theorem k3_76 : (Cond.instanceMethod y_M_wrap) ∈ wsA := wa_mem (List.mem_append_right _ (List.mem_append_right _ (List.mem_append_right _ (List.mem_of_getElem? (i := 76) rfl)))) rfl
theorem k3_77 : (Cond.code y_M_wrap b_M_wrap 8 (some .int)) ∈ wsA := wa_mem (List.mem_append_right _ (List.mem_append_right _ (List.mem_append_right _ (List.mem_of_getElem? (i := 77) rfl)))) rfl
theorem k3_78 : (Cond.methodLink R_M 89 y_M_sumOf) ∈ wsA := wa_mem (List.mem_append_right _ (List.mem_append_right _ (List.mem_append_right _ (List.mem_of_getElem? (i := 78) rfl)))) rfl
theorem k3_80 : (Cond.instanceMethod y_M_sumOf) ∈ wsA := wa_mem (List.mem_append_right _ (List.mem_append_right _ (List.mem_append_right _ (List.mem_of_getElem? (i := 80) rfl)))) rfl
theorem k3_81 : (Cond.code y_M_sumOf b_M_sumOf 9 (some .int)) ∈ wsA := wa_mem (List.mem_append_right _ (List.mem_append_right _ (List.mem_append_right _ (List.mem_of_getElem? (i := 81) rfl)))) rfl
theorem k3_82 : (Cond.constant R_M 51 (-306674912)) ∈ wsA := wa_mem (List.mem_append_right _ (List.mem_append_right _ (List.mem_append_right _ (List.mem_of_getElem? (i := 82) rfl)))) rfl
theorem k3_83 : (Cond.methodLink R_L 133 y_M_frame) ∈ wsA := wa_mem (List.mem_append_right _ (List.mem_append_right _ (List.mem_append_right _ (List.mem_of_getElem? (i := 83) rfl)))) rfl
theorem k3_84 : (Cond.instanceMethod y_M_frame) ∈ wsA := wa_mem (List.mem_append_right _ (List.mem_append_right _ (List.mem_append_right _ (List.mem_of_getElem? (i := 84) rfl)))) rfl
theorem k3_85 : (Cond.selects R_M y_M_frame y_M_frame) ∈ wsA := wa_mem (List.mem_append_right _ (List.mem_append_right _ (List.mem_append_right _ (List.mem_of_getElem? (i := 85) rfl)))) rfl
theorem k3_86 : (Cond.code y_M_frame b_M_frame 3 (some .int)) ∈ wsA := wa_mem (List.mem_append_right _ (List.mem_append_right _ (List.mem_append_right _ (List.mem_of_getElem? (i := 86) rfl)))) rfl
theorem k3_87 : (Cond.methodLink R_L 136 y_M_cut) ∈ wsA := wa_mem (List.mem_append_right _ (List.mem_append_right _ (List.mem_append_right _ (List.mem_of_getElem? (i := 87) rfl)))) rfl
theorem k3_88 : (Cond.instanceMethod y_M_cut) ∈ wsA := wa_mem (List.mem_append_right _ (List.mem_append_right _ (List.mem_append_right _ (List.mem_of_getElem? (i := 88) rfl)))) rfl
theorem k3_89 : (Cond.selects R_M y_M_cut y_M_cut) ∈ wsA := wa_mem (List.mem_append_right _ (List.mem_append_right _ (List.mem_append_right _ (List.mem_of_getElem? (i := 89) rfl)))) rfl
theorem k3_90 : (Cond.code y_M_cut b_M_cut 4 (some .int)) ∈ wsA := wa_mem (List.mem_append_right _ (List.mem_append_right _ (List.mem_append_right _ (List.mem_of_getElem? (i := 90) rfl)))) rfl
theorem k3_91 : (Cond.methodLink R_L 139 y_M_turn) ∈ wsA := wa_mem (List.mem_append_right _ (List.mem_append_right _ (List.mem_append_right _ (List.mem_of_getElem? (i := 91) rfl)))) rfl
theorem k3_92 : (Cond.instanceMethod y_M_turn) ∈ wsA := wa_mem (List.mem_append_right _ (List.mem_append_right _ (List.mem_append_right _ (List.mem_of_getElem? (i := 92) rfl)))) rfl
theorem k3_93 : (Cond.selects R_M y_M_turn y_M_turn) ∈ wsA := wa_mem (List.mem_append_right _ (List.mem_append_right _ (List.mem_append_right _ (List.mem_of_getElem? (i := 93) rfl)))) rfl
theorem k3_94 : (Cond.code y_M_turn b_M_turn 3 (some .int)) ∈ wsA := wa_mem (List.mem_append_right _ (List.mem_append_right _ (List.mem_append_right _ (List.mem_of_getElem? (i := 94) rfl)))) rfl
theorem k3_95 : (Cond.methodLink R_L 142 y_M_place) ∈ wsA := wa_mem (List.mem_append_right _ (List.mem_append_right _ (List.mem_append_right _ (List.mem_of_getElem? (i := 95) rfl)))) rfl
theorem k3_96 : (Cond.instanceMethod y_M_place) ∈ wsA := wa_mem (List.mem_append_right _ (List.mem_append_right _ (List.mem_append_right _ (List.mem_of_getElem? (i := 96) rfl)))) rfl
theorem k3_97 : (Cond.selects R_M y_M_place y_M_place) ∈ wsA := wa_mem (List.mem_append_right _ (List.mem_append_right _ (List.mem_append_right _ (List.mem_of_getElem? (i := 97) rfl)))) rfl
theorem k3_98 : (Cond.code y_M_place b_M_place 4 (some .int)) ∈ wsA := wa_mem (List.mem_append_right _ (List.mem_append_right _ (List.mem_append_right _ (List.mem_of_getElem? (i := 98) rfl)))) rfl
theorem k3_99 : (Cond.methodLink R_L 145 y_M_readFixed) ∈ wsA := wa_mem (List.mem_append_right _ (List.mem_append_right _ (List.mem_append_right _ (List.mem_of_getElem? (i := 99) rfl)))) rfl
theorem k3_100 : (Cond.instanceMethod y_M_readFixed) ∈ wsA := wa_mem (List.mem_append_right _ (List.mem_append_right _ (List.mem_append_right _ (List.mem_of_getElem? (i := 100) rfl)))) rfl
theorem k3_101 : (Cond.selects R_M y_M_readFixed y_M_readFixed) ∈ wsA := wa_mem (List.mem_append_right _ (List.mem_append_right _ (List.mem_append_right _ (List.mem_of_getElem? (i := 101) rfl)))) rfl
theorem k3_102 : (Cond.code y_M_readFixed b_M_readFixed 5 (some .long)) ∈ wsA := wa_mem (List.mem_append_right _ (List.mem_append_right _ (List.mem_append_right _ (List.mem_of_getElem? (i := 102) rfl)))) rfl
theorem k3_103 : (Cond.methodLink R_M 96 y_M_number) ∈ wsA := wa_mem (List.mem_append_right _ (List.mem_append_right _ (List.mem_append_right _ (List.mem_of_getElem? (i := 103) rfl)))) rfl
theorem k3_105 : (Cond.instanceMethod y_M_number) ∈ wsA := wa_mem (List.mem_append_right _ (List.mem_append_right _ (List.mem_append_right _ (List.mem_of_getElem? (i := 105) rfl)))) rfl
theorem k3_106 : (Cond.code y_M_number b_M_number 7 (some .long)) ∈ wsA := wa_mem (List.mem_append_right _ (List.mem_append_right _ (List.mem_append_right _ (List.mem_of_getElem? (i := 106) rfl)))) rfl
theorem k3_107 : (Cond.methodLink R_L 149 y_M_readSevens) ∈ wsA := wa_mem (List.mem_append_right _ (List.mem_append_right _ (List.mem_append_right _ (List.mem_of_getElem? (i := 107) rfl)))) rfl
theorem k3_108 : (Cond.instanceMethod y_M_readSevens) ∈ wsA := wa_mem (List.mem_append_right _ (List.mem_append_right _ (List.mem_append_right _ (List.mem_of_getElem? (i := 108) rfl)))) rfl
theorem k3_109 : (Cond.selects R_M y_M_readSevens y_M_readSevens) ∈ wsA := wa_mem (List.mem_append_right _ (List.mem_append_right _ (List.mem_append_right _ (List.mem_of_getElem? (i := 109) rfl)))) rfl
theorem k3_110 : (Cond.code y_M_readSevens b_M_readSevens 4 (some .long)) ∈ wsA := wa_mem (List.mem_append_right _ (List.mem_append_right _ (List.mem_append_right _ (List.mem_of_getElem? (i := 110) rfl)))) rfl
theorem k3_111 : (Cond.methodLink R_M 103 y_M_grouped) ∈ wsA := wa_mem (List.mem_append_right _ (List.mem_append_right _ (List.mem_append_right _ (List.mem_of_getElem? (i := 111) rfl)))) rfl
theorem k3_113 : (Cond.instanceMethod y_M_grouped) ∈ wsA := wa_mem (List.mem_append_right _ (List.mem_append_right _ (List.mem_append_right _ (List.mem_of_getElem? (i := 113) rfl)))) rfl
theorem k3_114 : (Cond.code y_M_grouped b_M_grouped 8 (some .long)) ∈ wsA := wa_mem (List.mem_append_right _ (List.mem_append_right _ (List.mem_append_right _ (List.mem_of_getElem? (i := 114) rfl)))) rfl
theorem k3_115 : (Cond.methodLink R_M 107 y_M_failed) ∈ wsA := wa_mem (List.mem_append_right _ (List.mem_append_right _ (List.mem_append_right _ (List.mem_of_getElem? (i := 115) rfl)))) rfl
theorem k3_117 : (Cond.instanceMethod y_M_failed) ∈ wsA := wa_mem (List.mem_append_right _ (List.mem_append_right _ (List.mem_append_right _ (List.mem_of_getElem? (i := 117) rfl)))) rfl
theorem k3_118 : (Cond.code y_M_failed b_M_failed 1 (some .int)) ∈ wsA := wa_mem (List.mem_append_right _ (List.mem_append_right _ (List.mem_append_right _ (List.mem_of_getElem? (i := 118) rfl)))) rfl
theorem k3_119 : (Cond.methodLink R_L 152 y_M_readSigned) ∈ wsA := wa_mem (List.mem_append_right _ (List.mem_append_right _ (List.mem_append_right _ (List.mem_of_getElem? (i := 119) rfl)))) rfl
theorem k3_120 : (Cond.instanceMethod y_M_readSigned) ∈ wsA := wa_mem (List.mem_append_right _ (List.mem_append_right _ (List.mem_append_right _ (List.mem_of_getElem? (i := 120) rfl)))) rfl
theorem k3_121 : (Cond.selects R_M y_M_readSigned y_M_readSigned) ∈ wsA := wa_mem (List.mem_append_right _ (List.mem_append_right _ (List.mem_append_right _ (List.mem_of_getElem? (i := 121) rfl)))) rfl
theorem k3_122 : (Cond.code y_M_readSigned b_M_readSigned 4 (some .long)) ∈ wsA := wa_mem (List.mem_append_right _ (List.mem_append_right _ (List.mem_append_right _ (List.mem_of_getElem? (i := 122) rfl)))) rfl
theorem k3_123 : (Cond.constantLong R_M 111 2) ∈ wsA := wa_mem (List.mem_append_right _ (List.mem_append_right _ (List.mem_append_right _ (List.mem_of_getElem? (i := 123) rfl)))) rfl
theorem k3_124 : (Cond.methodLink R_L 155 y_M_readLetter) ∈ wsA := wa_mem (List.mem_append_right _ (List.mem_append_right _ (List.mem_append_right _ (List.mem_of_getElem? (i := 124) rfl)))) rfl
theorem k3_125 : (Cond.instanceMethod y_M_readLetter) ∈ wsA := wa_mem (List.mem_append_right _ (List.mem_append_right _ (List.mem_append_right _ (List.mem_of_getElem? (i := 125) rfl)))) rfl
theorem k3_126 : (Cond.selects R_M y_M_readLetter y_M_readLetter) ∈ wsA := wa_mem (List.mem_append_right _ (List.mem_append_right _ (List.mem_append_right _ (List.mem_of_getElem? (i := 126) rfl)))) rfl
theorem k3_127 : (Cond.code y_M_readLetter b_M_readLetter 3 (some .int)) ∈ wsA := wa_mem (List.mem_append_right _ (List.mem_append_right _ (List.mem_append_right _ (List.mem_of_getElem? (i := 127) rfl)))) rfl
theorem k3_128 : (Cond.methodLink R_M 116 y_M_lettered) ∈ wsA := wa_mem (List.mem_append_right _ (List.mem_append_right _ (List.mem_append_right _ (List.mem_of_getElem? (i := 128) rfl)))) rfl
theorem k3_130 : (Cond.instanceMethod y_M_lettered) ∈ wsA := wa_mem (List.mem_append_right _ (List.mem_append_right _ (List.mem_append_right _ (List.mem_of_getElem? (i := 130) rfl)))) rfl
theorem k3_131 : (Cond.code y_M_lettered b_M_lettered 10 (some .int)) ∈ wsA := wa_mem (List.mem_append_right _ (List.mem_append_right _ (List.mem_append_right _ (List.mem_of_getElem? (i := 131) rfl)))) rfl
theorem k3_132 : (Cond.methodLink R_M 113 y_M_canBe) ∈ wsA := wa_mem (List.mem_append_right _ (List.mem_append_right _ (List.mem_append_right _ (List.mem_of_getElem? (i := 132) rfl)))) rfl
theorem k3_133 : (Cond.static y_M_canBe) ∈ wsA := wa_mem (List.mem_append_right _ (List.mem_append_right _ (List.mem_append_right _ (List.mem_of_getElem? (i := 133) rfl)))) rfl
theorem k3_134 : (Cond.code y_M_canBe b_M_canBe 3 (some .boolean)) ∈ wsA := wa_mem (List.mem_append_right _ (List.mem_append_right _ (List.mem_append_right _ (List.mem_of_getElem? (i := 134) rfl)))) rfl
theorem k3_135 : (Cond.methodLink R_L 158 y_M_readBlock) ∈ wsA := wa_mem (List.mem_append_right _ (List.mem_append_right _ (List.mem_append_right _ (List.mem_of_getElem? (i := 135) rfl)))) rfl
theorem k3_136 : (Cond.instanceMethod y_M_readBlock) ∈ wsA := wa_mem (List.mem_append_right _ (List.mem_append_right _ (List.mem_append_right _ (List.mem_of_getElem? (i := 136) rfl)))) rfl
theorem k3_137 : (Cond.selects R_M y_M_readBlock y_M_readBlock) ∈ wsA := wa_mem (List.mem_append_right _ (List.mem_append_right _ (List.mem_append_right _ (List.mem_of_getElem? (i := 137) rfl)))) rfl
theorem k3_138 : (Cond.code y_M_readBlock b_M_readBlock 3 (some .int)) ∈ wsA := wa_mem (List.mem_append_right _ (List.mem_append_right _ (List.mem_append_right _ (List.mem_of_getElem? (i := 138) rfl)))) rfl
theorem k3_139 : (Cond.methodLink R_M 121 y_M_unwrap) ∈ wsA := wa_mem (List.mem_append_right _ (List.mem_append_right _ (List.mem_append_right _ (List.mem_of_getElem? (i := 139) rfl)))) rfl
theorem k3_141 : (Cond.instanceMethod y_M_unwrap) ∈ wsA := wa_mem (List.mem_append_right _ (List.mem_append_right _ (List.mem_append_right _ (List.mem_of_getElem? (i := 141) rfl)))) rfl
theorem k3_142 : (Cond.code y_M_unwrap b_M_unwrap 9 (some .int)) ∈ wsA := wa_mem (List.mem_append_right _ (List.mem_append_right _ (List.mem_append_right _ (List.mem_of_getElem? (i := 142) rfl)))) rfl
theorem k3_143 : (Cond.constantLong R_M 119 65536) ∈ wsA := wa_mem (List.mem_append_right _ (List.mem_append_right _ (List.mem_append_right _ (List.mem_of_getElem? (i := 143) rfl)))) rfl
theorem k3_144 : (Cond.methodLink R_L 161 y_M_readFrame) ∈ wsA := wa_mem (List.mem_append_right _ (List.mem_append_right _ (List.mem_append_right _ (List.mem_of_getElem? (i := 144) rfl)))) rfl
theorem k3_145 : (Cond.instanceMethod y_M_readFrame) ∈ wsA := wa_mem (List.mem_append_right _ (List.mem_append_right _ (List.mem_append_right _ (List.mem_of_getElem? (i := 145) rfl)))) rfl
theorem k3_146 : (Cond.selects R_M y_M_readFrame y_M_readFrame) ∈ wsA := wa_mem (List.mem_append_right _ (List.mem_append_right _ (List.mem_append_right _ (List.mem_of_getElem? (i := 146) rfl)))) rfl
theorem k3_147 : (Cond.code y_M_readFrame b_M_readFrame 3 (some .int)) ∈ wsA := wa_mem (List.mem_append_right _ (List.mem_append_right _ (List.mem_append_right _ (List.mem_of_getElem? (i := 147) rfl)))) rfl
theorem k3_148 : (Cond.methodLink R_L 165 y_M_letters) ∈ wsA := wa_mem (List.mem_append_right _ (List.mem_append_right _ (List.mem_append_right _ (List.mem_of_getElem? (i := 148) rfl)))) rfl
theorem k3_149 : (Cond.instanceMethod y_M_letters) ∈ wsA := wa_mem (List.mem_append_right _ (List.mem_append_right _ (List.mem_append_right _ (List.mem_of_getElem? (i := 149) rfl)))) rfl
theorem k3_150 : (Cond.selects R_M y_M_letters y_M_letters) ∈ wsA := wa_mem (List.mem_append_right _ (List.mem_append_right _ (List.mem_append_right _ (List.mem_of_getElem? (i := 150) rfl)))) rfl
theorem k3_151 : (Cond.code y_M_letters b_M_letters 6 (some .int)) ∈ wsA := wa_mem (List.mem_append_right _ (List.mem_append_right _ (List.mem_append_right _ (List.mem_of_getElem? (i := 151) rfl)))) rfl
theorem k3_152 : (Cond.methodLink R_L 168 y_M_sum) ∈ wsA := wa_mem (List.mem_append_right _ (List.mem_append_right _ (List.mem_append_right _ (List.mem_of_getElem? (i := 152) rfl)))) rfl
theorem k3_153 : (Cond.instanceMethod y_M_sum) ∈ wsA := wa_mem (List.mem_append_right _ (List.mem_append_right _ (List.mem_append_right _ (List.mem_of_getElem? (i := 153) rfl)))) rfl
theorem k3_154 : (Cond.selects R_M y_M_sum y_M_sum) ∈ wsA := wa_mem (List.mem_append_right _ (List.mem_append_right _ (List.mem_append_right _ (List.mem_of_getElem? (i := 154) rfl)))) rfl
theorem k3_155 : (Cond.code y_M_sum b_M_sum 4 (some .int)) ∈ wsA := wa_mem (List.mem_append_right _ (List.mem_append_right _ (List.mem_append_right _ (List.mem_of_getElem? (i := 155) rfl)))) rfl
theorem k3_156 : (Cond.methodLink R_L 171 y_M_same) ∈ wsA := wa_mem (List.mem_append_right _ (List.mem_append_right _ (List.mem_append_right _ (List.mem_of_getElem? (i := 156) rfl)))) rfl
theorem k3_157 : (Cond.instanceMethod y_M_same) ∈ wsA := wa_mem (List.mem_append_right _ (List.mem_append_right _ (List.mem_append_right _ (List.mem_of_getElem? (i := 157) rfl)))) rfl
theorem k3_158 : (Cond.selects R_M y_M_same y_M_same) ∈ wsA := wa_mem (List.mem_append_right _ (List.mem_append_right _ (List.mem_append_right _ (List.mem_of_getElem? (i := 158) rfl)))) rfl
theorem k3_159 : (Cond.code y_M_same b_M_same 5 (some .boolean)) ∈ wsA := wa_mem (List.mem_append_right _ (List.mem_append_right _ (List.mem_append_right _ (List.mem_of_getElem? (i := 159) rfl)))) rfl
theorem k3_160 : (Cond.methodLink R_L 174 y_M_row) ∈ wsA := wa_mem (List.mem_append_right _ (List.mem_append_right _ (List.mem_append_right _ (List.mem_of_getElem? (i := 160) rfl)))) rfl
theorem k3_161 : (Cond.instanceMethod y_M_row) ∈ wsA := wa_mem (List.mem_append_right _ (List.mem_append_right _ (List.mem_append_right _ (List.mem_of_getElem? (i := 161) rfl)))) rfl
theorem k3_162 : (Cond.selects R_M y_M_row y_M_row) ∈ wsA := wa_mem (List.mem_append_right _ (List.mem_append_right _ (List.mem_append_right _ (List.mem_of_getElem? (i := 162) rfl)))) rfl
theorem k3_163 : (Cond.code y_M_row b_M_row 3 (some .int)) ∈ wsA := wa_mem (List.mem_append_right _ (List.mem_append_right _ (List.mem_append_right _ (List.mem_of_getElem? (i := 163) rfl)))) rfl
theorem k3_164 : (Cond.methodLink R_L 177 y_M_byteAt) ∈ wsA := wa_mem (List.mem_append_right _ (List.mem_append_right _ (List.mem_append_right _ (List.mem_of_getElem? (i := 164) rfl)))) rfl
theorem k3_165 : (Cond.instanceMethod y_M_byteAt) ∈ wsA := wa_mem (List.mem_append_right _ (List.mem_append_right _ (List.mem_append_right _ (List.mem_of_getElem? (i := 165) rfl)))) rfl
theorem k3_166 : (Cond.selects R_M y_M_byteAt y_M_byteAt) ∈ wsA := wa_mem (List.mem_append_right _ (List.mem_append_right _ (List.mem_append_right _ (List.mem_of_getElem? (i := 166) rfl)))) rfl
theorem k3_167 : (Cond.code y_M_byteAt b_M_byteAt 3 (some .int)) ∈ wsA := wa_mem (List.mem_append_right _ (List.mem_append_right _ (List.mem_append_right _ (List.mem_of_getElem? (i := 167) rfl)))) rfl
theorem k3_168 : (Cond.constantLong R_L 103 4294967295) ∈ wsA := wa_mem (List.mem_append_right _ (List.mem_append_right _ (List.mem_append_right _ (List.mem_of_getElem? (i := 168) rfl)))) rfl
theorem ks_D_rowOf : (Cond.selects R_D y_D_rowOf y_D_rowOf) ∈ wsA := by decide +kernel
theorem ks_M_fail : (Cond.selects R_M y_M_fail y_M_fail) ∈ wsA := by decide +kernel
theorem ks_M_fits : (Cond.selects R_M y_M_fits y_M_fits) ∈ wsA := by decide +kernel
theorem ks_M_add : (Cond.selects R_M y_M_add y_M_add) ∈ wsA := by decide +kernel
theorem ks_M_set : (Cond.selects R_M y_M_set y_M_set) ∈ wsA := by decide +kernel
theorem ks_M_putGroups : (Cond.selects R_M y_M_putGroups y_M_putGroups) ∈ wsA := by decide +kernel
theorem ks_M_addGroups : (Cond.selects R_M y_M_addGroups y_M_addGroups) ∈ wsA := by decide +kernel
theorem ks_M_has : (Cond.selects R_M y_M_has y_M_has) ∈ wsA := by decide +kernel
theorem ks_M_at : (Cond.selects R_M y_M_at y_M_at) ∈ wsA := by decide +kernel
theorem ks_M_wrap : (Cond.selects R_M y_M_wrap y_M_wrap) ∈ wsA := by decide +kernel
theorem ks_M_sumOf : (Cond.selects R_M y_M_sumOf y_M_sumOf) ∈ wsA := by decide +kernel
theorem ks_M_number : (Cond.selects R_M y_M_number y_M_number) ∈ wsA := by decide +kernel
theorem ks_M_grouped : (Cond.selects R_M y_M_grouped y_M_grouped) ∈ wsA := by decide +kernel
theorem ks_M_failed : (Cond.selects R_M y_M_failed y_M_failed) ∈ wsA := by decide +kernel
theorem ks_M_lettered : (Cond.selects R_M y_M_lettered y_M_lettered) ∈ wsA := by decide +kernel
theorem ks_M_unwrap : (Cond.selects R_M y_M_unwrap y_M_unwrap) ∈ wsA := by decide +kernel
