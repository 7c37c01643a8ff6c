theorem q_zt1 {w : Cond} (h : w ∈ tables_1_1) (g : goodWord w = true) : w ∈ q_Z := List.mem_filter.mpr ⟨List.mem_append_right _ (List.mem_append_left _ h), g⟩
theorem q_zt2 {w : Cond} (h : w ∈ tables_1_2) (g : goodWord w = true) : w ∈ q_Z := List.mem_filter.mpr ⟨List.mem_append_right _ (List.mem_append_right _ (List.mem_append_left _ h)), g⟩
theorem q_zt3 {w : Cond} (h : w ∈ tables_1_3) (g : goodWord w = true) : w ∈ q_Z := List.mem_filter.mpr ⟨List.mem_append_right _ (List.mem_append_right _ (List.mem_append_right _ (List.mem_append_left _ h))), g⟩
theorem q_zt4 {w : Cond} (h : w ∈ tables_1_4) (g : goodWord w = true) : w ∈ q_Z := List.mem_filter.mpr ⟨List.mem_append_right _ (List.mem_append_right _ (List.mem_append_right _ (List.mem_append_right _ (List.mem_append_left _ h)))), g⟩
theorem q_zt5 {w : Cond} (h : w ∈ tables_1_5) (g : goodWord w = true) : w ∈ q_Z := List.mem_filter.mpr ⟨List.mem_append_right _ (List.mem_append_right _ (List.mem_append_right _ (List.mem_append_right _ (List.mem_append_right _ h)))), g⟩
theorem q_zts {w : Cond} (h : w ∈ k2_sels lw_privs) (g : goodWord w = true) : w ∈ q_Z := List.mem_filter.mpr ⟨List.mem_append_left _ h, g⟩
theorem zw1_148 : u_lay RX0 TX0 0 ∈ q_Z := q_zt1 (List.mem_of_getElem? (i := 148) rfl) rfl
theorem zw1_150 : u_lay RX0 TX0 1 ∈ q_Z := q_zt1 (List.mem_of_getElem? (i := 150) rfl) rfl
theorem zw1_152 : u_lay RX0 TX0 2 ∈ q_Z := q_zt1 (List.mem_of_getElem? (i := 152) rfl) rfl
theorem zw1_186 : u_lay RX1 TX1 0 ∈ q_Z := q_zt1 (List.mem_of_getElem? (i := 186) rfl) rfl
theorem zw1_188 : u_lay RX1 TX1 1 ∈ q_Z := q_zt1 (List.mem_of_getElem? (i := 188) rfl) rfl
theorem zw1_190 : u_lay RX1 TX1 2 ∈ q_Z := q_zt1 (List.mem_of_getElem? (i := 190) rfl) rfl
theorem zw1_192 : u_lay RX1 TX1 3 ∈ q_Z := q_zt1 (List.mem_of_getElem? (i := 192) rfl) rfl
theorem zw1_194 : u_lay RX1 TX1 4 ∈ q_Z := q_zt1 (List.mem_of_getElem? (i := 194) rfl) rfl
theorem zw1_196 : u_lay RX1 TX1 5 ∈ q_Z := q_zt1 (List.mem_of_getElem? (i := 196) rfl) rfl
theorem zw1_167 : u_lay RX2 TX2 0 ∈ q_Z := q_zt1 (List.mem_of_getElem? (i := 167) rfl) rfl
theorem zw1_169 : u_lay RX2 TX2 1 ∈ q_Z := q_zt1 (List.mem_of_getElem? (i := 169) rfl) rfl
theorem zw1_171 : u_lay RX2 TX2 2 ∈ q_Z := q_zt1 (List.mem_of_getElem? (i := 171) rfl) rfl
theorem zw1_36 : u_lay RX3 TX3 0 ∈ q_Z := q_zt1 (List.mem_of_getElem? (i := 36) rfl) rfl
theorem zw1_38 : u_lay RX3 TX3 1 ∈ q_Z := q_zt1 (List.mem_of_getElem? (i := 38) rfl) rfl
theorem zw1_40 : u_lay RX3 TX3 2 ∈ q_Z := q_zt1 (List.mem_of_getElem? (i := 40) rfl) rfl
theorem zw1_68 : u_lay RX4 TX4 0 ∈ q_Z := q_zt1 (List.mem_of_getElem? (i := 68) rfl) rfl
theorem zw1_70 : u_lay RX4 TX4 1 ∈ q_Z := q_zt1 (List.mem_of_getElem? (i := 70) rfl) rfl
theorem zw1_72 : u_lay RX4 TX4 2 ∈ q_Z := q_zt1 (List.mem_of_getElem? (i := 72) rfl) rfl
theorem zw1_74 : u_lay RX4 TX4 3 ∈ q_Z := q_zt1 (List.mem_of_getElem? (i := 74) rfl) rfl
theorem zw1_76 : u_lay RX4 TX4 4 ∈ q_Z := q_zt1 (List.mem_of_getElem? (i := 76) rfl) rfl
theorem zw1_78 : u_lay RX4 TX4 5 ∈ q_Z := q_zt1 (List.mem_of_getElem? (i := 78) rfl) rfl
theorem zw1_80 : u_lay RX4 TX4 6 ∈ q_Z := q_zt1 (List.mem_of_getElem? (i := 80) rfl) rfl
theorem zw1_82 : u_lay RX4 TX4 7 ∈ q_Z := q_zt1 (List.mem_of_getElem? (i := 82) rfl) rfl
theorem zw1_119 : u_lay RX5 TX5 0 ∈ q_Z := q_zt1 (List.mem_of_getElem? (i := 119) rfl) rfl
theorem zw1_121 : u_lay RX5 TX5 1 ∈ q_Z := q_zt1 (List.mem_of_getElem? (i := 121) rfl) rfl
theorem zw1_123 : u_lay RX5 TX5 2 ∈ q_Z := q_zt1 (List.mem_of_getElem? (i := 123) rfl) rfl
theorem zw1_125 : u_lay RX5 TX5 3 ∈ q_Z := q_zt1 (List.mem_of_getElem? (i := 125) rfl) rfl
theorem zw1_127 : u_lay RX5 TX5 4 ∈ q_Z := q_zt1 (List.mem_of_getElem? (i := 127) rfl) rfl
theorem zw1_129 : u_lay RX5 TX5 5 ∈ q_Z := q_zt1 (List.mem_of_getElem? (i := 129) rfl) rfl
theorem zw1_131 : u_lay RX5 TX5 6 ∈ q_Z := q_zt1 (List.mem_of_getElem? (i := 131) rfl) rfl
theorem zw1_133 : u_lay RX5 TX5 7 ∈ q_Z := q_zt1 (List.mem_of_getElem? (i := 133) rfl) rfl
theorem zw1_100 : u_lay RX6 TX6 0 ∈ q_Z := q_zt1 (List.mem_of_getElem? (i := 100) rfl) rfl
theorem zw1_102 : u_lay RX6 TX6 1 ∈ q_Z := q_zt1 (List.mem_of_getElem? (i := 102) rfl) rfl
theorem zw1_208 : u_lay RX7 TX7 0 ∈ q_Z := q_zt1 (List.mem_of_getElem? (i := 208) rfl) rfl
theorem zw1_210 : u_lay RX7 TX7 1 ∈ q_Z := q_zt1 (List.mem_of_getElem? (i := 210) rfl) rfl
theorem zw1_212 : u_lay RX7 TX7 2 ∈ q_Z := q_zt1 (List.mem_of_getElem? (i := 212) rfl) rfl
theorem zw1_214 : u_lay RX7 TX7 3 ∈ q_Z := q_zt1 (List.mem_of_getElem? (i := 214) rfl) rfl
theorem zw1_216 : u_lay RX7 TX7 4 ∈ q_Z := q_zt1 (List.mem_of_getElem? (i := 216) rfl) rfl
theorem zw1_218 : u_lay RX7 TX7 5 ∈ q_Z := q_zt1 (List.mem_of_getElem? (i := 218) rfl) rfl
theorem zw1_220 : u_lay RX7 TX7 6 ∈ q_Z := q_zt1 (List.mem_of_getElem? (i := 220) rfl) rfl
theorem zw1_222 : u_lay RX7 TX7 7 ∈ q_Z := q_zt1 (List.mem_of_getElem? (i := 222) rfl) rfl
theorem zw1_224 : u_lay RX7 TX7 8 ∈ q_Z := q_zt1 (List.mem_of_getElem? (i := 224) rfl) rfl
theorem zw4_108 : u_lay RX8 TX8 0 ∈ q_Z := q_zt4 (List.mem_of_getElem? (i := 108) rfl) rfl
theorem zw4_110 : u_lay RX8 TX8 1 ∈ q_Z := q_zt4 (List.mem_of_getElem? (i := 110) rfl) rfl
theorem zw4_112 : u_lay RX8 TX8 2 ∈ q_Z := q_zt4 (List.mem_of_getElem? (i := 112) rfl) rfl
theorem zw4_114 : u_lay RX8 TX8 3 ∈ q_Z := q_zt4 (List.mem_of_getElem? (i := 114) rfl) rfl
theorem zw4_116 : u_lay RX8 TX8 4 ∈ q_Z := q_zt4 (List.mem_of_getElem? (i := 116) rfl) rfl
theorem zw4_118 : u_lay RX8 TX8 5 ∈ q_Z := q_zt4 (List.mem_of_getElem? (i := 118) rfl) rfl
theorem zw4_120 : u_lay RX8 TX8 6 ∈ q_Z := q_zt4 (List.mem_of_getElem? (i := 120) rfl) rfl
theorem zw4_122 : u_lay RX8 TX8 7 ∈ q_Z := q_zt4 (List.mem_of_getElem? (i := 122) rfl) rfl
theorem zw4_124 : u_lay RX8 TX8 8 ∈ q_Z := q_zt4 (List.mem_of_getElem? (i := 124) rfl) rfl
theorem zw4_126 : u_lay RX8 TX8 9 ∈ q_Z := q_zt4 (List.mem_of_getElem? (i := 126) rfl) rfl
theorem zw4_128 : u_lay RX8 TX8 10 ∈ q_Z := q_zt4 (List.mem_of_getElem? (i := 128) rfl) rfl
theorem zw4_130 : u_lay RX8 TX8 11 ∈ q_Z := q_zt4 (List.mem_of_getElem? (i := 130) rfl) rfl
theorem zw4_132 : u_lay RX8 TX8 12 ∈ q_Z := q_zt4 (List.mem_of_getElem? (i := 132) rfl) rfl
theorem zw4_134 : u_lay RX8 TX8 13 ∈ q_Z := q_zt4 (List.mem_of_getElem? (i := 134) rfl) rfl
theorem zw4_136 : u_lay RX8 TX8 14 ∈ q_Z := q_zt4 (List.mem_of_getElem? (i := 136) rfl) rfl
theorem zw4_138 : u_lay RX8 TX8 15 ∈ q_Z := q_zt4 (List.mem_of_getElem? (i := 138) rfl) rfl
theorem zw4_140 : u_lay RX8 TX8 16 ∈ q_Z := q_zt4 (List.mem_of_getElem? (i := 140) rfl) rfl
theorem zw4_142 : u_lay RX8 TX8 17 ∈ q_Z := q_zt4 (List.mem_of_getElem? (i := 142) rfl) rfl
theorem zw4_144 : u_lay RX8 TX8 18 ∈ q_Z := q_zt4 (List.mem_of_getElem? (i := 144) rfl) rfl
theorem zw4_146 : u_lay RX8 TX8 19 ∈ q_Z := q_zt4 (List.mem_of_getElem? (i := 146) rfl) rfl
theorem zw4_148 : u_lay RX8 TX8 20 ∈ q_Z := q_zt4 (List.mem_of_getElem? (i := 148) rfl) rfl
theorem zw4_150 : u_lay RX8 TX8 21 ∈ q_Z := q_zt4 (List.mem_of_getElem? (i := 150) rfl) rfl
theorem zw1_141 : Cond.methodLink RX0 3 objectInit ∈ q_Z := q_zt1 (List.mem_of_getElem? (i := 141) rfl) rfl
theorem zw1_22 : Cond.instanceMethod objectInit ∈ q_Z := q_zt1 (List.mem_of_getElem? (i := 22) rfl) rfl
theorem zw1_23 : Cond.code objectInit ⟨#[0xb1]⟩ 1 none ∈ q_Z := q_zt1 (List.mem_of_getElem? (i := 23) rfl) rfl
theorem zw1_144 : Cond.fieldLink RX0 11 RX0 (TX0 0).2.1 (TX0 0).2.2.1 ∈ q_Z := q_zt1 (List.mem_of_getElem? (i := 144) rfl) rfl
theorem zw1_49 : Cond.code yX4_init cX4_init 1 none ∈ q_Z := q_zt1 (List.mem_of_getElem? (i := 49) rfl) rfl
theorem zw1_3 : Cond.initialized RX4 ∈ q_Z := q_zt1 (List.mem_of_getElem? (i := 3) rfl) rfl
theorem zw1_145 : Cond.fieldLink RX0 18 RX0 (TX0 1).2.1 (TX0 1).2.2.1 ∈ q_Z := q_zt1 (List.mem_of_getElem? (i := 145) rfl) rfl
theorem zw2_238 : Cond.code yX0_at cX0_at 2 (some (.object "TurningDishes$Table")) ∈ q_Z := q_zt2 (List.mem_of_getElem? (i := 238) rfl) rfl
theorem zw1_6 : Cond.initialized RX0 ∈ q_Z := q_zt1 (List.mem_of_getElem? (i := 6) rfl) rfl
theorem zw2_235 : Cond.methodLink RX0 22 yX0_at ∈ q_Z := q_zt2 (List.mem_of_getElem? (i := 235) rfl) rfl
theorem zw2_237 : Cond.instanceMethod yX0_at ∈ q_Z := q_zt2 (List.mem_of_getElem? (i := 237) rfl) rfl
theorem zs_10 : Cond.selects RX0 yX0_at yX0_at ∈ q_Z := q_zts (List.mem_of_getElem? (i := 10) rfl) rfl
theorem zw2_211 : Cond.code yX4_become cX4_become 2 none ∈ q_Z := q_zt2 (List.mem_of_getElem? (i := 211) rfl) rfl
theorem zw2_239 : Cond.methodLink RX0 26 yX4_become ∈ q_Z := q_zt2 (List.mem_of_getElem? (i := 239) rfl) rfl
theorem zw2_209 : Cond.instanceMethod yX4_become ∈ q_Z := q_zt2 (List.mem_of_getElem? (i := 209) rfl) rfl
theorem zw2_210 : Cond.selects RX4 yX4_become yX4_become ∈ q_Z := q_zt2 (List.mem_of_getElem? (i := 210) rfl) rfl
theorem zw3_2 : Cond.code yX7_leftOver cX7_leftOver 3 (some .int) ∈ q_Z := q_zt3 (List.mem_of_getElem? (i := 2) rfl) rfl
theorem zw1_1 : Cond.initialized RX7 ∈ q_Z := q_zt1 (List.mem_of_getElem? (i := 1) rfl) rfl
theorem zw3_1 : Cond.static yX7_leftOver ∈ q_Z := q_zt3 (List.mem_of_getElem? (i := 1) rfl) rfl
theorem zw1_146 : Cond.fieldLink RX0 34 RX0 (TX0 2).2.1 (TX0 2).2.2.1 ∈ q_Z := q_zt1 (List.mem_of_getElem? (i := 146) rfl) rfl
theorem zw3_3 : Cond.methodLink RX0 37 Lib.Math.min.name ∈ q_Z := q_zt3 (List.mem_of_getElem? (i := 3) rfl) rfl
theorem zw2_9 : Cond.static Lib.Math.min.name ∈ q_Z := q_zt2 (List.mem_of_getElem? (i := 9) rfl) rfl
theorem zw1_10 : Cond.initialized "java/lang/Math" ∈ q_Z := q_zt1 (List.mem_of_getElem? (i := 10) rfl) rfl
theorem zw2_10 : Cond.code Lib.Math.min.name Lib.Math.min.code 2 (some .int) ∈ q_Z := q_zt2 (List.mem_of_getElem? (i := 10) rfl) rfl
theorem zw1_179 : Cond.methodLink RX1 3 objectInit ∈ q_Z := q_zt1 (List.mem_of_getElem? (i := 179) rfl) rfl
theorem zw1_180 : Cond.fieldLink RX1 9 RX1 (TX1 0).2.1 (TX1 0).2.2.1 ∈ q_Z := q_zt1 (List.mem_of_getElem? (i := 180) rfl) rfl
theorem zw1_181 : Cond.fieldLink RX1 15 RX1 (TX1 1).2.1 (TX1 1).2.2.1 ∈ q_Z := q_zt1 (List.mem_of_getElem? (i := 181) rfl) rfl
theorem zw1_182 : Cond.fieldLink RX1 19 RX1 (TX1 2).2.1 (TX1 2).2.2.1 ∈ q_Z := q_zt1 (List.mem_of_getElem? (i := 182) rfl) rfl
theorem zw3_12 : Cond.code yX4_of cX4_of 4 (some .int) ∈ q_Z := q_zt3 (List.mem_of_getElem? (i := 12) rfl) rfl
theorem zw4_2 : Cond.methodLink RX1 24 yX4_of ∈ q_Z := q_zt4 (List.mem_of_getElem? (i := 2) rfl) rfl
theorem zw3_10 : Cond.instanceMethod yX4_of ∈ q_Z := q_zt3 (List.mem_of_getElem? (i := 10) rfl) rfl
theorem zw3_11 : Cond.selects RX4 yX4_of yX4_of ∈ q_Z := q_zt3 (List.mem_of_getElem? (i := 11) rfl) rfl
theorem zw1_183 : Cond.fieldLink RX1 28 RX1 (TX1 3).2.1 (TX1 3).2.2.1 ∈ q_Z := q_zt1 (List.mem_of_getElem? (i := 183) rfl) rfl
theorem zw1_184 : Cond.fieldLink RX1 31 RX1 (TX1 4).2.1 (TX1 4).2.2.1 ∈ q_Z := q_zt1 (List.mem_of_getElem? (i := 184) rfl) rfl
theorem zw1_185 : Cond.fieldLink RX1 34 RX1 (TX1 5).2.1 (TX1 5).2.2.1 ∈ q_Z := q_zt1 (List.mem_of_getElem? (i := 185) rfl) rfl
theorem zw4_63 : Cond.constant RX1 37 (-1000000) ∈ q_Z := q_zt4 (List.mem_of_getElem? (i := 63) rfl) rfl
theorem zw4_10 : Cond.code yX1_size12 cX1_size12 1 (some .int) ∈ q_Z := q_zt4 (List.mem_of_getElem? (i := 10) rfl) rfl
theorem zw1_8 : Cond.initialized RX1 ∈ q_Z := q_zt1 (List.mem_of_getElem? (i := 8) rfl) rfl
theorem zw4_7 : Cond.methodLink RX1 38 yX1_size12 ∈ q_Z := q_zt4 (List.mem_of_getElem? (i := 7) rfl) rfl
theorem zw4_9 : Cond.instanceMethod yX1_size12 ∈ q_Z := q_zt4 (List.mem_of_getElem? (i := 9) rfl) rfl
theorem zs_19 : Cond.selects RX1 yX1_size12 yX1_size12 ∈ q_Z := q_zts (List.mem_of_getElem? (i := 19) rfl) rfl
theorem zw4_42 : Cond.code yX1_size13 cX1_size13 1 (some .int) ∈ q_Z := q_zt4 (List.mem_of_getElem? (i := 42) rfl) rfl
theorem zw4_39 : Cond.methodLink RX1 42 yX1_size13 ∈ q_Z := q_zt4 (List.mem_of_getElem? (i := 39) rfl) rfl
theorem zw4_41 : Cond.instanceMethod yX1_size13 ∈ q_Z := q_zt4 (List.mem_of_getElem? (i := 41) rfl) rfl
theorem zs_27 : Cond.selects RX1 yX1_size13 yX1_size13 ∈ q_Z := q_zts (List.mem_of_getElem? (i := 27) rfl) rfl
theorem zw4_46 : Cond.code yX1_size14 cX1_size14 1 (some .int) ∈ q_Z := q_zt4 (List.mem_of_getElem? (i := 46) rfl) rfl
theorem zw4_43 : Cond.methodLink RX1 45 yX1_size14 ∈ q_Z := q_zt4 (List.mem_of_getElem? (i := 43) rfl) rfl
theorem zw4_45 : Cond.instanceMethod yX1_size14 ∈ q_Z := q_zt4 (List.mem_of_getElem? (i := 45) rfl) rfl
theorem zs_28 : Cond.selects RX1 yX1_size14 yX1_size14 ∈ q_Z := q_zts (List.mem_of_getElem? (i := 28) rfl) rfl
theorem zw4_18 : Cond.code yX1_size11 cX1_size11 2 (some .int) ∈ q_Z := q_zt4 (List.mem_of_getElem? (i := 18) rfl) rfl
theorem zw4_15 : Cond.methodLink RX1 48 yX1_size11 ∈ q_Z := q_zt4 (List.mem_of_getElem? (i := 15) rfl) rfl
theorem zw4_17 : Cond.instanceMethod yX1_size11 ∈ q_Z := q_zt4 (List.mem_of_getElem? (i := 17) rfl) rfl
theorem zs_21 : Cond.selects RX1 yX1_size11 yX1_size11 ∈ q_Z := q_zts (List.mem_of_getElem? (i := 21) rfl) rfl
theorem zw4_26 : Cond.code yX1_mark24 cX1_mark24 1 (some .int) ∈ q_Z := q_zt4 (List.mem_of_getElem? (i := 26) rfl) rfl
theorem zw4_23 : Cond.methodLink RX1 51 yX1_mark24 ∈ q_Z := q_zt4 (List.mem_of_getElem? (i := 23) rfl) rfl
theorem zw4_25 : Cond.instanceMethod yX1_mark24 ∈ q_Z := q_zt4 (List.mem_of_getElem? (i := 25) rfl) rfl
theorem zs_23 : Cond.selects RX1 yX1_mark24 yX1_mark24 ∈ q_Z := q_zts (List.mem_of_getElem? (i := 23) rfl) rfl
theorem zw4_38 : Cond.code yX1_mark22 cX1_mark22 1 (some .int) ∈ q_Z := q_zt4 (List.mem_of_getElem? (i := 38) rfl) rfl
theorem zw4_35 : Cond.methodLink RX1 54 yX1_mark22 ∈ q_Z := q_zt4 (List.mem_of_getElem? (i := 35) rfl) rfl
theorem zw4_37 : Cond.instanceMethod yX1_mark22 ∈ q_Z := q_zt4 (List.mem_of_getElem? (i := 37) rfl) rfl
theorem zs_26 : Cond.selects RX1 yX1_mark22 yX1_mark22 ∈ q_Z := q_zts (List.mem_of_getElem? (i := 26) rfl) rfl
theorem zw4_54 : Cond.code yX1_mark23 cX1_mark23 2 (some .int) ∈ q_Z := q_zt4 (List.mem_of_getElem? (i := 54) rfl) rfl
theorem zw4_51 : Cond.methodLink RX1 57 yX1_mark23 ∈ q_Z := q_zt4 (List.mem_of_getElem? (i := 51) rfl) rfl
theorem zw4_53 : Cond.instanceMethod yX1_mark23 ∈ q_Z := q_zt4 (List.mem_of_getElem? (i := 53) rfl) rfl
theorem zs_29 : Cond.selects RX1 yX1_mark23 yX1_mark23 ∈ q_Z := q_zts (List.mem_of_getElem? (i := 29) rfl) rfl
theorem zw4_30 : Cond.code yX1_mark21 cX1_mark21 1 (some .int) ∈ q_Z := q_zt4 (List.mem_of_getElem? (i := 30) rfl) rfl
theorem zw4_27 : Cond.methodLink RX1 60 yX1_mark21 ∈ q_Z := q_zt4 (List.mem_of_getElem? (i := 27) rfl) rfl
theorem zw4_29 : Cond.instanceMethod yX1_mark21 ∈ q_Z := q_zt4 (List.mem_of_getElem? (i := 29) rfl) rfl
theorem zs_24 : Cond.selects RX1 yX1_mark21 yX1_mark21 ∈ q_Z := q_zts (List.mem_of_getElem? (i := 24) rfl) rfl
theorem zw4_14 : Cond.code yX1_leave cX1_leave 2 none ∈ q_Z := q_zt4 (List.mem_of_getElem? (i := 14) rfl) rfl
theorem zw4_11 : Cond.methodLink RX1 63 yX1_leave ∈ q_Z := q_zt4 (List.mem_of_getElem? (i := 11) rfl) rfl
theorem zw4_13 : Cond.instanceMethod yX1_leave ∈ q_Z := q_zt4 (List.mem_of_getElem? (i := 13) rfl) rfl
theorem zs_20 : Cond.selects RX1 yX1_leave yX1_leave ∈ q_Z := q_zts (List.mem_of_getElem? (i := 20) rfl) rfl
theorem zw4_22 : Cond.code yX1_size10 cX1_size10 1 (some .int) ∈ q_Z := q_zt4 (List.mem_of_getElem? (i := 22) rfl) rfl
theorem zw4_19 : Cond.methodLink RX1 67 yX1_size10 ∈ q_Z := q_zt4 (List.mem_of_getElem? (i := 19) rfl) rfl
theorem zw4_21 : Cond.instanceMethod yX1_size10 ∈ q_Z := q_zt4 (List.mem_of_getElem? (i := 21) rfl) rfl
theorem zs_22 : Cond.selects RX1 yX1_size10 yX1_size10 ∈ q_Z := q_zts (List.mem_of_getElem? (i := 22) rfl) rfl
theorem zw4_34 : Cond.code yX1_mark20 cX1_mark20 1 (some .int) ∈ q_Z := q_zt4 (List.mem_of_getElem? (i := 34) rfl) rfl
theorem zw4_31 : Cond.methodLink RX1 70 yX1_mark20 ∈ q_Z := q_zt4 (List.mem_of_getElem? (i := 31) rfl) rfl
theorem zw4_33 : Cond.instanceMethod yX1_mark20 ∈ q_Z := q_zt4 (List.mem_of_getElem? (i := 33) rfl) rfl
theorem zs_25 : Cond.selects RX1 yX1_mark20 yX1_mark20 ∈ q_Z := q_zts (List.mem_of_getElem? (i := 25) rfl) rfl
theorem zw1_160 : Cond.methodLink RX2 3 objectInit ∈ q_Z := q_zt1 (List.mem_of_getElem? (i := 160) rfl) rfl
theorem zw1_163 : Cond.fieldLink RX2 12 RX2 (TX2 0).2.1 (TX2 0).2.2.1 ∈ q_Z := q_zt1 (List.mem_of_getElem? (i := 163) rfl) rfl
theorem zw1_165 : Cond.fieldLink RX2 18 RX2 (TX2 1).2.1 (TX2 1).2.2.1 ∈ q_Z := q_zt1 (List.mem_of_getElem? (i := 165) rfl) rfl
theorem zw1_166 : Cond.fieldLink RX2 22 RX2 (TX2 2).2.1 (TX2 2).2.2.1 ∈ q_Z := q_zt1 (List.mem_of_getElem? (i := 166) rfl) rfl
theorem zw3_99 : Cond.methodLink RX2 25 yX4_become ∈ q_Z := q_zt3 (List.mem_of_getElem? (i := 99) rfl) rfl
theorem zw3_100 : Cond.constant RX2 29 (1000000) ∈ q_Z := q_zt3 (List.mem_of_getElem? (i := 100) rfl) rfl
theorem zw3_104 : Cond.code yX2_passMinutes cX2_passMinutes 5 (some .int) ∈ q_Z := q_zt3 (List.mem_of_getElem? (i := 104) rfl) rfl
theorem zw1_7 : Cond.initialized RX2 ∈ q_Z := q_zt1 (List.mem_of_getElem? (i := 7) rfl) rfl
theorem zw3_101 : Cond.methodLink RX2 30 yX2_passMinutes ∈ q_Z := q_zt3 (List.mem_of_getElem? (i := 101) rfl) rfl
theorem zw3_103 : Cond.instanceMethod yX2_passMinutes ∈ q_Z := q_zt3 (List.mem_of_getElem? (i := 103) rfl) rfl
theorem zs_13 : Cond.selects RX2 yX2_passMinutes yX2_passMinutes ∈ q_Z := q_zts (List.mem_of_getElem? (i := 13) rfl) rfl
theorem zw3_7 : Cond.code yX4_passMinute cX4_passMinute 2 none ∈ q_Z := q_zt3 (List.mem_of_getElem? (i := 7) rfl) rfl
theorem zw3_105 : Cond.methodLink RX2 34 yX4_passMinute ∈ q_Z := q_zt3 (List.mem_of_getElem? (i := 105) rfl) rfl
theorem zw3_5 : Cond.instanceMethod yX4_passMinute ∈ q_Z := q_zt3 (List.mem_of_getElem? (i := 5) rfl) rfl
theorem zw3_6 : Cond.selects RX4 yX4_passMinute yX4_passMinute ∈ q_Z := q_zt3 (List.mem_of_getElem? (i := 6) rfl) rfl
theorem zw3_65 : Cond.code yX4_swapSeats cX4_swapSeats 5 none ∈ q_Z := q_zt3 (List.mem_of_getElem? (i := 65) rfl) rfl
theorem zw3_118 : Cond.methodLink RX2 41 yX4_swapSeats ∈ q_Z := q_zt3 (List.mem_of_getElem? (i := 118) rfl) rfl
theorem zw3_63 : Cond.instanceMethod yX4_swapSeats ∈ q_Z := q_zt3 (List.mem_of_getElem? (i := 63) rfl) rfl
theorem zw3_64 : Cond.selects RX4 yX4_swapSeats yX4_swapSeats ∈ q_Z := q_zt3 (List.mem_of_getElem? (i := 64) rfl) rfl
theorem zw3_119 : Cond.methodLink RX2 45 yX4_of ∈ q_Z := q_zt3 (List.mem_of_getElem? (i := 119) rfl) rfl
theorem zw3_117 : Cond.code yX2_eatsSeatedAs cX2_eatsSeatedAs 5 (some .int) ∈ q_Z := q_zt3 (List.mem_of_getElem? (i := 117) rfl) rfl
theorem zw3_210 : Cond.methodLink RX2 51 yX2_eatsSeatedAs ∈ q_Z := q_zt3 (List.mem_of_getElem? (i := 210) rfl) rfl
theorem zw3_115 : Cond.instanceMethod yX2_eatsSeatedAs ∈ q_Z := q_zt3 (List.mem_of_getElem? (i := 115) rfl) rfl
theorem zw3_116 : Cond.selects RX2 yX2_eatsSeatedAs yX2_eatsSeatedAs ∈ q_Z := q_zt3 (List.mem_of_getElem? (i := 116) rfl) rfl
theorem zw3_128 : Cond.constant RX2 61 (-1000000) ∈ q_Z := q_zt3 (List.mem_of_getElem? (i := 128) rfl) rfl
theorem zw3_156 : Cond.code yX2_toTheRightForOthers cX2_toTheRightForOthers 6 (some .int) ∈ q_Z := q_zt3 (List.mem_of_getElem? (i := 156) rfl) rfl
theorem zw3_155 : Cond.static yX2_toTheRightForOthers ∈ q_Z := q_zt3 (List.mem_of_getElem? (i := 155) rfl) rfl
theorem zw3_154 : Cond.methodLink RX2 62 yX2_toTheRightForOthers ∈ q_Z := q_zt3 (List.mem_of_getElem? (i := 154) rfl) rfl
theorem zw3_160 : Cond.methodLink RX2 66 Lib.Math.min.name ∈ q_Z := q_zt3 (List.mem_of_getElem? (i := 160) rfl) rfl
theorem zw3_25 : Cond.code yX4_toTheLeft cX4_toTheLeft 3 (some .int) ∈ q_Z := q_zt3 (List.mem_of_getElem? (i := 25) rfl) rfl
theorem zw3_157 : Cond.methodLink RX2 71 yX4_toTheLeft ∈ q_Z := q_zt3 (List.mem_of_getElem? (i := 157) rfl) rfl
theorem zw3_23 : Cond.instanceMethod yX4_toTheLeft ∈ q_Z := q_zt3 (List.mem_of_getElem? (i := 23) rfl) rfl
theorem zw3_24 : Cond.selects RX4 yX4_toTheLeft yX4_toTheLeft ∈ q_Z := q_zt3 (List.mem_of_getElem? (i := 24) rfl) rfl
theorem zw3_20 : Cond.code yX4_has cX4_has 2 (some .boolean) ∈ q_Z := q_zt3 (List.mem_of_getElem? (i := 20) rfl) rfl
theorem zw3_158 : Cond.methodLink RX2 74 yX4_has ∈ q_Z := q_zt3 (List.mem_of_getElem? (i := 158) rfl) rfl
theorem zw3_18 : Cond.instanceMethod yX4_has ∈ q_Z := q_zt3 (List.mem_of_getElem? (i := 18) rfl) rfl
theorem zw3_19 : Cond.selects RX4 yX4_has yX4_has ∈ q_Z := q_zt3 (List.mem_of_getElem? (i := 19) rfl) rfl
theorem zw3_159 : Cond.methodLink RX2 78 Lib.Math.max.name ∈ q_Z := q_zt3 (List.mem_of_getElem? (i := 159) rfl) rfl
theorem zw2_12 : Cond.static Lib.Math.max.name ∈ q_Z := q_zt2 (List.mem_of_getElem? (i := 12) rfl) rfl
theorem zw2_13 : Cond.code Lib.Math.max.name Lib.Math.max.code 2 (some .int) ∈ q_Z := q_zt2 (List.mem_of_getElem? (i := 13) rfl) rfl
theorem zw3_172 : Cond.code yX2_layAsTried cX2_layAsTried 2 none ∈ q_Z := q_zt3 (List.mem_of_getElem? (i := 172) rfl) rfl
theorem zw3_169 : Cond.methodLink RX2 81 yX2_layAsTried ∈ q_Z := q_zt3 (List.mem_of_getElem? (i := 169) rfl) rfl
theorem zw3_171 : Cond.instanceMethod yX2_layAsTried ∈ q_Z := q_zt3 (List.mem_of_getElem? (i := 171) rfl) rfl
theorem zs_14 : Cond.selects RX2 yX2_layAsTried yX2_layAsTried ∈ q_Z := q_zts (List.mem_of_getElem? (i := 14) rfl) rfl
theorem zw3_174 : Cond.methodLink RX2 84 arraycopyName ∈ q_Z := q_zt3 (List.mem_of_getElem? (i := 174) rfl) rfl
theorem zw2_49 : Cond.native arraycopyName ∈ q_Z := q_zt2 (List.mem_of_getElem? (i := 49) rfl) rfl
theorem zw2_48 : Cond.static arraycopyName ∈ q_Z := q_zt2 (List.mem_of_getElem? (i := 48) rfl) rfl
theorem zw1_11 : Cond.initialized "java/lang/System" ∈ q_Z := q_zt1 (List.mem_of_getElem? (i := 11) rfl) rfl
theorem zw3_178 : Cond.code yX2_toNextOrder cX2_toNextOrder 6 (some .boolean) ∈ q_Z := q_zt3 (List.mem_of_getElem? (i := 178) rfl) rfl
theorem zw3_175 : Cond.methodLink RX2 90 yX2_toNextOrder ∈ q_Z := q_zt3 (List.mem_of_getElem? (i := 175) rfl) rfl
theorem zw3_177 : Cond.instanceMethod yX2_toNextOrder ∈ q_Z := q_zt3 (List.mem_of_getElem? (i := 177) rfl) rfl
theorem zs_15 : Cond.selects RX2 yX2_toNextOrder yX2_toNextOrder ∈ q_Z := q_zts (List.mem_of_getElem? (i := 15) rfl) rfl
theorem zw2_196 : Cond.code yX4_layIn cX4_layIn 3 none ∈ q_Z := q_zt2 (List.mem_of_getElem? (i := 196) rfl) rfl
theorem zw3_173 : Cond.methodLink RX2 93 yX4_layIn ∈ q_Z := q_zt3 (List.mem_of_getElem? (i := 173) rfl) rfl
theorem zw2_194 : Cond.instanceMethod yX4_layIn ∈ q_Z := q_zt2 (List.mem_of_getElem? (i := 194) rfl) rfl
theorem zw2_195 : Cond.selects RX4 yX4_layIn yX4_layIn ∈ q_Z := q_zt2 (List.mem_of_getElem? (i := 195) rfl) rfl
theorem zw3_182 : Cond.code yX2_swapTried cX2_swapTried 4 none ∈ q_Z := q_zt3 (List.mem_of_getElem? (i := 182) rfl) rfl
theorem zw3_179 : Cond.methodLink RX2 96 yX2_swapTried ∈ q_Z := q_zt3 (List.mem_of_getElem? (i := 179) rfl) rfl
theorem zw3_181 : Cond.instanceMethod yX2_swapTried ∈ q_Z := q_zt3 (List.mem_of_getElem? (i := 181) rfl) rfl
theorem zs_16 : Cond.selects RX2 yX2_swapTried yX2_swapTried ∈ q_Z := q_zts (List.mem_of_getElem? (i := 16) rfl) rfl
theorem zw1_237 : Cond.code yX7_within cX7_within 3 (some .boolean) ∈ q_Z := q_zt1 (List.mem_of_getElem? (i := 237) rfl) rfl
theorem zw1_236 : Cond.static yX7_within ∈ q_Z := q_zt1 (List.mem_of_getElem? (i := 236) rfl) rfl
theorem zw2_192 : Cond.code yX4_put cX4_put 5 none ∈ q_Z := q_zt2 (List.mem_of_getElem? (i := 192) rfl) rfl
theorem zw3_196 : Cond.methodLink RX2 103 yX4_put ∈ q_Z := q_zt3 (List.mem_of_getElem? (i := 196) rfl) rfl
theorem zw2_190 : Cond.instanceMethod yX4_put ∈ q_Z := q_zt2 (List.mem_of_getElem? (i := 190) rfl) rfl
theorem zw2_191 : Cond.selects RX4 yX4_put yX4_put ∈ q_Z := q_zt2 (List.mem_of_getElem? (i := 191) rfl) rfl
theorem zw3_200 : Cond.code yX2_isLeft cX2_isLeft 4 (some .boolean) ∈ q_Z := q_zt3 (List.mem_of_getElem? (i := 200) rfl) rfl
theorem zw3_197 : Cond.methodLink RX2 107 yX2_isLeft ∈ q_Z := q_zt3 (List.mem_of_getElem? (i := 197) rfl) rfl
theorem zw3_199 : Cond.instanceMethod yX2_isLeft ∈ q_Z := q_zt3 (List.mem_of_getElem? (i := 199) rfl) rfl
theorem zs_17 : Cond.selects RX2 yX2_isLeft yX2_isLeft ∈ q_Z := q_zts (List.mem_of_getElem? (i := 17) rfl) rfl
theorem zw2_37 : Cond.code yX3_item cX3_item 2 (some .int) ∈ q_Z := q_zt2 (List.mem_of_getElem? (i := 37) rfl) rfl
theorem zw1_2 : Cond.initialized RX3 ∈ q_Z := q_zt1 (List.mem_of_getElem? (i := 2) rfl) rfl
theorem zw3_201 : Cond.methodLink RX2 111 yX3_item ∈ q_Z := q_zt3 (List.mem_of_getElem? (i := 201) rfl) rfl
theorem zw2_35 : Cond.instanceMethod yX3_item ∈ q_Z := q_zt2 (List.mem_of_getElem? (i := 35) rfl) rfl
theorem zw2_36 : Cond.selects RX3 yX3_item yX3_item ∈ q_Z := q_zt2 (List.mem_of_getElem? (i := 36) rfl) rfl
theorem zw1_30 : Cond.methodLink RX3 3 objectInit ∈ q_Z := q_zt1 (List.mem_of_getElem? (i := 30) rfl) rfl
theorem zw1_31 : Cond.fieldLink RX3 9 RX3 (TX3 0).2.1 (TX3 0).2.2.1 ∈ q_Z := q_zt1 (List.mem_of_getElem? (i := 31) rfl) rfl
theorem zw1_32 : Cond.fieldLink RX3 15 RX3 (TX3 1).2.1 (TX3 1).2.2.1 ∈ q_Z := q_zt1 (List.mem_of_getElem? (i := 32) rfl) rfl
theorem zw2_8 : Cond.methodLink RX3 19 Lib.Math.min.name ∈ q_Z := q_zt2 (List.mem_of_getElem? (i := 8) rfl) rfl
theorem zw2_11 : Cond.methodLink RX3 25 Lib.Math.max.name ∈ q_Z := q_zt2 (List.mem_of_getElem? (i := 11) rfl) rfl
theorem zw1_34 : Cond.fieldLink RX3 28 RX3 (TX3 2).2.1 (TX3 2).2.2.1 ∈ q_Z := q_zt1 (List.mem_of_getElem? (i := 34) rfl) rfl
theorem zw2_29 : Cond.code yX3_hasPlaces cX3_hasPlaces 3 (some .boolean) ∈ q_Z := q_zt2 (List.mem_of_getElem? (i := 29) rfl) rfl
theorem zw2_46 : Cond.methodLink RX3 31 yX3_hasPlaces ∈ q_Z := q_zt2 (List.mem_of_getElem? (i := 46) rfl) rfl
theorem zw2_27 : Cond.instanceMethod yX3_hasPlaces ∈ q_Z := q_zt2 (List.mem_of_getElem? (i := 27) rfl) rfl
theorem zw2_28 : Cond.selects RX3 yX3_hasPlaces yX3_hasPlaces ∈ q_Z := q_zt2 (List.mem_of_getElem? (i := 28) rfl) rfl
theorem zw2_47 : Cond.methodLink RX3 35 arraycopyName ∈ q_Z := q_zt2 (List.mem_of_getElem? (i := 47) rfl) rfl
theorem zw1_50 : Cond.methodLink RX4 3 objectInit ∈ q_Z := q_zt1 (List.mem_of_getElem? (i := 50) rfl) rfl
theorem zw1_51 : Cond.fieldLink RX4 11 RX4 (TX4 0).2.1 (TX4 0).2.2.1 ∈ q_Z := q_zt1 (List.mem_of_getElem? (i := 51) rfl) rfl
theorem zw3_9 : Cond.methodLink RX4 15 yX4_of ∈ q_Z := q_zt3 (List.mem_of_getElem? (i := 9) rfl) rfl
theorem zw2_189 : Cond.methodLink RX4 19 yX4_put ∈ q_Z := q_zt2 (List.mem_of_getElem? (i := 189) rfl) rfl
theorem zw1_53 : Cond.fieldLink RX4 23 RX4 (TX4 1).2.1 (TX4 1).2.2.1 ∈ q_Z := q_zt1 (List.mem_of_getElem? (i := 53) rfl) rfl
theorem zw1_56 : Cond.fieldLink RX4 27 RX4 (TX4 2).2.1 (TX4 2).2.2.1 ∈ q_Z := q_zt1 (List.mem_of_getElem? (i := 56) rfl) rfl
theorem zw1_58 : Cond.fieldLink RX4 30 RX4 (TX4 3).2.1 (TX4 3).2.2.1 ∈ q_Z := q_zt1 (List.mem_of_getElem? (i := 58) rfl) rfl
theorem zw2_212 : Cond.methodLink RX4 33 arraycopyName ∈ q_Z := q_zt2 (List.mem_of_getElem? (i := 212) rfl) rfl
theorem zw2_193 : Cond.methodLink RX4 39 yX4_layIn ∈ q_Z := q_zt2 (List.mem_of_getElem? (i := 193) rfl) rfl
theorem zw1_60 : Cond.fieldLink RX4 46 RX4 (TX4 4).2.1 (TX4 4).2.2.1 ∈ q_Z := q_zt1 (List.mem_of_getElem? (i := 60) rfl) rfl
theorem zw3_16 : Cond.code yX4_pushBy cX4_pushBy 7 (some .int) ∈ q_Z := q_zt3 (List.mem_of_getElem? (i := 16) rfl) rfl
theorem zw3_13 : Cond.methodLink RX4 49 yX4_pushBy ∈ q_Z := q_zt3 (List.mem_of_getElem? (i := 13) rfl) rfl
theorem zw3_15 : Cond.instanceMethod yX4_pushBy ∈ q_Z := q_zt3 (List.mem_of_getElem? (i := 15) rfl) rfl
theorem zs_11 : Cond.selects RX4 yX4_pushBy yX4_pushBy ∈ q_Z := q_zts (List.mem_of_getElem? (i := 11) rfl) rfl
theorem zw3_27 : Cond.methodLink RX4 53 Lib.Math.abs.name ∈ q_Z := q_zt3 (List.mem_of_getElem? (i := 27) rfl) rfl
theorem zw3_28 : Cond.static Lib.Math.abs.name ∈ q_Z := q_zt3 (List.mem_of_getElem? (i := 28) rfl) rfl
theorem zw3_29 : Cond.code Lib.Math.abs.name Lib.Math.abs.code 1 (some .int) ∈ q_Z := q_zt3 (List.mem_of_getElem? (i := 29) rfl) rfl
theorem zw1_63 : Cond.fieldLink RX4 58 RX4 (TX4 5).2.1 (TX4 5).2.2.1 ∈ q_Z := q_zt1 (List.mem_of_getElem? (i := 63) rfl) rfl
theorem zw3_33 : Cond.code yX4_turnLeft cX4_turnLeft 2 none ∈ q_Z := q_zt3 (List.mem_of_getElem? (i := 33) rfl) rfl
theorem zw3_30 : Cond.methodLink RX4 61 yX4_turnLeft ∈ q_Z := q_zt3 (List.mem_of_getElem? (i := 30) rfl) rfl
theorem zw3_31 : Cond.instanceMethod yX4_turnLeft ∈ q_Z := q_zt3 (List.mem_of_getElem? (i := 31) rfl) rfl
theorem zw3_32 : Cond.selects RX4 yX4_turnLeft yX4_turnLeft ∈ q_Z := q_zt3 (List.mem_of_getElem? (i := 32) rfl) rfl
theorem zw3_37 : Cond.code yX4_dishBefore cX4_dishBefore 2 (some .int) ∈ q_Z := q_zt3 (List.mem_of_getElem? (i := 37) rfl) rfl
theorem zw3_34 : Cond.methodLink RX4 65 yX4_dishBefore ∈ q_Z := q_zt3 (List.mem_of_getElem? (i := 34) rfl) rfl
theorem zw3_35 : Cond.instanceMethod yX4_dishBefore ∈ q_Z := q_zt3 (List.mem_of_getElem? (i := 35) rfl) rfl
theorem zw3_36 : Cond.selects RX4 yX4_dishBefore yX4_dishBefore ∈ q_Z := q_zt3 (List.mem_of_getElem? (i := 36) rfl) rfl
theorem zw1_65 : Cond.fieldLink RX4 68 RX4 (TX4 6).2.1 (TX4 6).2.2.1 ∈ q_Z := q_zt1 (List.mem_of_getElem? (i := 65) rfl) rfl
theorem zw3_41 : Cond.code yX4_biteOf cX4_biteOf 6 (some .int) ∈ q_Z := q_zt3 (List.mem_of_getElem? (i := 41) rfl) rfl
theorem zw3_38 : Cond.methodLink RX4 71 yX4_biteOf ∈ q_Z := q_zt3 (List.mem_of_getElem? (i := 38) rfl) rfl
theorem zw3_40 : Cond.instanceMethod yX4_biteOf ∈ q_Z := q_zt3 (List.mem_of_getElem? (i := 40) rfl) rfl
theorem zs_12 : Cond.selects RX4 yX4_biteOf yX4_biteOf ∈ q_Z := q_zts (List.mem_of_getElem? (i := 12) rfl) rfl
theorem zw1_67 : Cond.fieldLink RX4 74 RX4 (TX4 7).2.1 (TX4 7).2.2.1 ∈ q_Z := q_zt1 (List.mem_of_getElem? (i := 67) rfl) rfl
theorem zw3_45 : Cond.code yX4_add cX4_add 4 none ∈ q_Z := q_zt3 (List.mem_of_getElem? (i := 45) rfl) rfl
theorem zw3_42 : Cond.methodLink RX4 77 yX4_add ∈ q_Z := q_zt3 (List.mem_of_getElem? (i := 42) rfl) rfl
theorem zw3_43 : Cond.instanceMethod yX4_add ∈ q_Z := q_zt3 (List.mem_of_getElem? (i := 43) rfl) rfl
theorem zw3_44 : Cond.selects RX4 yX4_add yX4_add ∈ q_Z := q_zt3 (List.mem_of_getElem? (i := 44) rfl) rfl
theorem zw3_17 : Cond.methodLink RX4 80 yX4_has ∈ q_Z := q_zt3 (List.mem_of_getElem? (i := 17) rfl) rfl
theorem zw3_21 : Cond.methodLink RX4 84 Lib.Math.max.name ∈ q_Z := q_zt3 (List.mem_of_getElem? (i := 21) rfl) rfl
theorem zw3_22 : Cond.methodLink RX4 87 yX4_toTheLeft ∈ q_Z := q_zt3 (List.mem_of_getElem? (i := 22) rfl) rfl
theorem zw3_26 : Cond.methodLink RX4 90 Lib.Math.min.name ∈ q_Z := q_zt3 (List.mem_of_getElem? (i := 26) rfl) rfl
theorem zw1_90 : Cond.methodLink RX5 3 objectInit ∈ q_Z := q_zt1 (List.mem_of_getElem? (i := 90) rfl) rfl
theorem zw1_95 : Cond.code yX6_init cX6_init 1 none ∈ q_Z := q_zt1 (List.mem_of_getElem? (i := 95) rfl) rfl
theorem zw1_5 : Cond.initialized RX6 ∈ q_Z := q_zt1 (List.mem_of_getElem? (i := 5) rfl) rfl
theorem zw1_107 : Cond.fieldLink RX5 12 RX5 (TX5 0).2.1 (TX5 0).2.2.1 ∈ q_Z := q_zt1 (List.mem_of_getElem? (i := 107) rfl) rfl
theorem zw1_109 : Cond.fieldLink RX5 21 RX5 (TX5 1).2.1 (TX5 1).2.2.1 ∈ q_Z := q_zt1 (List.mem_of_getElem? (i := 109) rfl) rfl
theorem zw2_78 : Cond.code yX4_clear cX4_clear 2 none ∈ q_Z := q_zt2 (List.mem_of_getElem? (i := 78) rfl) rfl
theorem zw2_75 : Cond.methodLink RX5 25 yX4_clear ∈ q_Z := q_zt2 (List.mem_of_getElem? (i := 75) rfl) rfl
theorem zw2_76 : Cond.instanceMethod yX4_clear ∈ q_Z := q_zt2 (List.mem_of_getElem? (i := 76) rfl) rfl
theorem zw2_77 : Cond.selects RX4 yX4_clear yX4_clear ∈ q_Z := q_zt2 (List.mem_of_getElem? (i := 77) rfl) rfl
theorem zw1_114 : Cond.fieldLink RX5 28 RX5 (TX5 4).2.1 (TX5 4).2.2.1 ∈ q_Z := q_zt1 (List.mem_of_getElem? (i := 114) rfl) rfl
theorem zw1_116 : Cond.fieldLink RX5 32 RX5 (TX5 6).2.1 (TX5 6).2.2.1 ∈ q_Z := q_zt1 (List.mem_of_getElem? (i := 116) rfl) rfl
theorem zw2_82 : Cond.code yX5_next cX5_next 2 none ∈ q_Z := q_zt2 (List.mem_of_getElem? (i := 82) rfl) rfl
theorem zw1_4 : Cond.initialized RX5 ∈ q_Z := q_zt1 (List.mem_of_getElem? (i := 4) rfl) rfl
theorem zw2_79 : Cond.methodLink RX5 35 yX5_next ∈ q_Z := q_zt2 (List.mem_of_getElem? (i := 79) rfl) rfl
theorem zw2_81 : Cond.instanceMethod yX5_next ∈ q_Z := q_zt2 (List.mem_of_getElem? (i := 81) rfl) rfl
theorem zs_3 : Cond.selects RX5 yX5_next yX5_next ∈ q_Z := q_zts (List.mem_of_getElem? (i := 3) rfl) rfl
theorem zw2_119 : Cond.code yX5_isWord cX5_isWord 3 (some .boolean) ∈ q_Z := q_zt2 (List.mem_of_getElem? (i := 119) rfl) rfl
theorem zw2_116 : Cond.methodLink RX5 40 yX5_isWord ∈ q_Z := q_zt2 (List.mem_of_getElem? (i := 116) rfl) rfl
theorem zw2_118 : Cond.instanceMethod yX5_isWord ∈ q_Z := q_zt2 (List.mem_of_getElem? (i := 118) rfl) rfl
theorem zs_5 : Cond.selects RX5 yX5_isWord yX5_isWord ∈ q_Z := q_zts (List.mem_of_getElem? (i := 5) rfl) rfl
theorem zw1_117 : Cond.fieldLink RX5 44 RX5 (TX5 7).2.1 (TX5 7).2.2.1 ∈ q_Z := q_zt1 (List.mem_of_getElem? (i := 117) rfl) rfl
theorem zw2_171 : Cond.code yX5_readGuest cX5_readGuest 3 none ∈ q_Z := q_zt2 (List.mem_of_getElem? (i := 171) rfl) rfl
theorem zw2_168 : Cond.methodLink RX5 47 yX5_readGuest ∈ q_Z := q_zt2 (List.mem_of_getElem? (i := 168) rfl) rfl
theorem zw2_170 : Cond.instanceMethod yX5_readGuest ∈ q_Z := q_zt2 (List.mem_of_getElem? (i := 170) rfl) rfl
theorem zs_6 : Cond.selects RX5 yX5_readGuest yX5_readGuest ∈ q_Z := q_zts (List.mem_of_getElem? (i := 6) rfl) rfl
theorem zw2_201 : Cond.code yX5_readDish cX5_readDish 2 none ∈ q_Z := q_zt2 (List.mem_of_getElem? (i := 201) rfl) rfl
theorem zw2_198 : Cond.methodLink RX5 52 yX5_readDish ∈ q_Z := q_zt2 (List.mem_of_getElem? (i := 198) rfl) rfl
theorem zw2_200 : Cond.instanceMethod yX5_readDish ∈ q_Z := q_zt2 (List.mem_of_getElem? (i := 200) rfl) rfl
theorem zs_9 : Cond.selects RX5 yX5_readDish yX5_readDish ∈ q_Z := q_zts (List.mem_of_getElem? (i := 9) rfl) rfl
theorem zw1_111 : Cond.fieldLink RX5 55 RX5 (TX5 2).2.1 (TX5 2).2.2.1 ∈ q_Z := q_zt1 (List.mem_of_getElem? (i := 111) rfl) rfl
theorem zw2_175 : Cond.code yX5_sortNamed cX5_sortNamed 1 (some .int) ∈ q_Z := q_zt2 (List.mem_of_getElem? (i := 175) rfl) rfl
theorem zw2_172 : Cond.methodLink RX5 61 yX5_sortNamed ∈ q_Z := q_zt2 (List.mem_of_getElem? (i := 172) rfl) rfl
theorem zw2_174 : Cond.instanceMethod yX5_sortNamed ∈ q_Z := q_zt2 (List.mem_of_getElem? (i := 174) rfl) rfl
theorem zs_7 : Cond.selects RX5 yX5_sortNamed yX5_sortNamed ∈ q_Z := q_zts (List.mem_of_getElem? (i := 7) rfl) rfl
theorem zw2_184 : Cond.code yX5_readNumberAndEnd cX5_readNumberAndEnd 3 (some .int) ∈ q_Z := q_zt2 (List.mem_of_getElem? (i := 184) rfl) rfl
theorem zw2_181 : Cond.methodLink RX5 65 yX5_readNumberAndEnd ∈ q_Z := q_zt2 (List.mem_of_getElem? (i := 181) rfl) rfl
theorem zw2_183 : Cond.instanceMethod yX5_readNumberAndEnd ∈ q_Z := q_zt2 (List.mem_of_getElem? (i := 183) rfl) rfl
theorem zs_8 : Cond.selects RX5 yX5_readNumberAndEnd yX5_readNumberAndEnd ∈ q_Z := q_zts (List.mem_of_getElem? (i := 8) rfl) rfl
theorem zw2_188 : Cond.code yX4_seat cX4_seat 3 none ∈ q_Z := q_zt2 (List.mem_of_getElem? (i := 188) rfl) rfl
theorem zw2_185 : Cond.methodLink RX5 69 yX4_seat ∈ q_Z := q_zt2 (List.mem_of_getElem? (i := 185) rfl) rfl
theorem zw2_186 : Cond.instanceMethod yX4_seat ∈ q_Z := q_zt2 (List.mem_of_getElem? (i := 186) rfl) rfl
theorem zw2_187 : Cond.selects RX4 yX4_seat yX4_seat ∈ q_Z := q_zt2 (List.mem_of_getElem? (i := 187) rfl) rfl
theorem zw2_202 : Cond.methodLink RX5 73 yX4_put ∈ q_Z := q_zt2 (List.mem_of_getElem? (i := 202) rfl) rfl
theorem zw1_115 : Cond.fieldLink RX5 77 RX5 (TX5 5).2.1 (TX5 5).2.2.1 ∈ q_Z := q_zt1 (List.mem_of_getElem? (i := 115) rfl) rfl
theorem zw1_112 : Cond.fieldLink RX5 90 RX5 (TX5 3).2.1 (TX5 3).2.2.1 ∈ q_Z := q_zt1 (List.mem_of_getElem? (i := 112) rfl) rfl
theorem zw2_90 : Cond.code yX6_at cX6_at 2 (some .int) ∈ q_Z := q_zt2 (List.mem_of_getElem? (i := 90) rfl) rfl
theorem zw2_94 : Cond.methodLink RX5 98 yX6_at ∈ q_Z := q_zt2 (List.mem_of_getElem? (i := 94) rfl) rfl
theorem zw2_88 : Cond.instanceMethod yX6_at ∈ q_Z := q_zt2 (List.mem_of_getElem? (i := 88) rfl) rfl
theorem zw2_89 : Cond.selects RX6 yX6_at yX6_at ∈ q_Z := q_zt2 (List.mem_of_getElem? (i := 89) rfl) rfl
theorem zw2_86 : Cond.code yX6_endOfBlanks cX6_endOfBlanks 3 (some .int) ∈ q_Z := q_zt2 (List.mem_of_getElem? (i := 86) rfl) rfl
theorem zw2_83 : Cond.methodLink RX5 105 yX6_endOfBlanks ∈ q_Z := q_zt2 (List.mem_of_getElem? (i := 83) rfl) rfl
theorem zw2_84 : Cond.instanceMethod yX6_endOfBlanks ∈ q_Z := q_zt2 (List.mem_of_getElem? (i := 84) rfl) rfl
theorem zw2_85 : Cond.selects RX6 yX6_endOfBlanks yX6_endOfBlanks ∈ q_Z := q_zt2 (List.mem_of_getElem? (i := 85) rfl) rfl
theorem zw2_97 : Cond.code yX6_isLetter cX6_isLetter 1 (some .boolean) ∈ q_Z := q_zt2 (List.mem_of_getElem? (i := 97) rfl) rfl
theorem zw2_96 : Cond.static yX6_isLetter ∈ q_Z := q_zt2 (List.mem_of_getElem? (i := 96) rfl) rfl
theorem zw2_95 : Cond.methodLink RX5 108 yX6_isLetter ∈ q_Z := q_zt2 (List.mem_of_getElem? (i := 95) rfl) rfl
theorem zw2_101 : Cond.code yX6_endOfLetters cX6_endOfLetters 3 (some .int) ∈ q_Z := q_zt2 (List.mem_of_getElem? (i := 101) rfl) rfl
theorem zw2_98 : Cond.methodLink RX5 112 yX6_endOfLetters ∈ q_Z := q_zt2 (List.mem_of_getElem? (i := 98) rfl) rfl
theorem zw2_99 : Cond.instanceMethod yX6_endOfLetters ∈ q_Z := q_zt2 (List.mem_of_getElem? (i := 99) rfl) rfl
theorem zw2_100 : Cond.selects RX6 yX6_endOfLetters yX6_endOfLetters ∈ q_Z := q_zt2 (List.mem_of_getElem? (i := 100) rfl) rfl
theorem zw2_105 : Cond.code yX6_isFigure cX6_isFigure 1 (some .boolean) ∈ q_Z := q_zt2 (List.mem_of_getElem? (i := 105) rfl) rfl
theorem zw2_104 : Cond.static yX6_isFigure ∈ q_Z := q_zt2 (List.mem_of_getElem? (i := 104) rfl) rfl
theorem zw2_103 : Cond.methodLink RX5 115 yX6_isFigure ∈ q_Z := q_zt2 (List.mem_of_getElem? (i := 103) rfl) rfl
theorem zw2_109 : Cond.code yX6_endOfFigures cX6_endOfFigures 3 (some .int) ∈ q_Z := q_zt2 (List.mem_of_getElem? (i := 109) rfl) rfl
theorem zw2_106 : Cond.methodLink RX5 118 yX6_endOfFigures ∈ q_Z := q_zt2 (List.mem_of_getElem? (i := 106) rfl) rfl
theorem zw2_107 : Cond.instanceMethod yX6_endOfFigures ∈ q_Z := q_zt2 (List.mem_of_getElem? (i := 107) rfl) rfl
theorem zw2_108 : Cond.selects RX6 yX6_endOfFigures yX6_endOfFigures ∈ q_Z := q_zt2 (List.mem_of_getElem? (i := 108) rfl) rfl
theorem zw2_114 : Cond.code yX5_valueOfFigures cX5_valueOfFigures 3 (some .int) ∈ q_Z := q_zt2 (List.mem_of_getElem? (i := 114) rfl) rfl
theorem zw2_111 : Cond.methodLink RX5 121 yX5_valueOfFigures ∈ q_Z := q_zt2 (List.mem_of_getElem? (i := 111) rfl) rfl
theorem zw2_113 : Cond.instanceMethod yX5_valueOfFigures ∈ q_Z := q_zt2 (List.mem_of_getElem? (i := 113) rfl) rfl
theorem zs_4 : Cond.selects RX5 yX5_valueOfFigures yX5_valueOfFigures ∈ q_Z := q_zts (List.mem_of_getElem? (i := 4) rfl) rfl
theorem zw1_96 : Cond.methodLink RX6 3 objectInit ∈ q_Z := q_zt1 (List.mem_of_getElem? (i := 96) rfl) rfl
theorem zw1_97 : Cond.fieldLink RX6 9 RX6 (TX6 0).2.1 (TX6 0).2.2.1 ∈ q_Z := q_zt1 (List.mem_of_getElem? (i := 97) rfl) rfl
theorem zw1_98 : Cond.fieldLink RX6 15 RX6 (TX6 1).2.1 (TX6 1).2.2.1 ∈ q_Z := q_zt1 (List.mem_of_getElem? (i := 98) rfl) rfl
theorem zw2_87 : Cond.methodLink RX6 19 yX6_at ∈ q_Z := q_zt2 (List.mem_of_getElem? (i := 87) rfl) rfl
theorem zw2_93 : Cond.code yX6_isBlank cX6_isBlank 1 (some .boolean) ∈ q_Z := q_zt2 (List.mem_of_getElem? (i := 93) rfl) rfl
theorem zw2_92 : Cond.static yX6_isBlank ∈ q_Z := q_zt2 (List.mem_of_getElem? (i := 92) rfl) rfl
theorem zw2_91 : Cond.methodLink RX6 23 yX6_isBlank ∈ q_Z := q_zt2 (List.mem_of_getElem? (i := 91) rfl) rfl
theorem zw2_102 : Cond.methodLink RX6 27 yX6_isLetter ∈ q_Z := q_zt2 (List.mem_of_getElem? (i := 102) rfl) rfl
theorem zw2_110 : Cond.methodLink RX6 30 yX6_isFigure ∈ q_Z := q_zt2 (List.mem_of_getElem? (i := 110) rfl) rfl
theorem zw1_21 : Cond.methodLink RX7 1 objectInit ∈ q_Z := q_zt1 (List.mem_of_getElem? (i := 21) rfl) rfl
theorem zw1_199 : Cond.fieldLink RX7 11 RX7 (TX7 0).2.1 (TX7 0).2.2.1 ∈ q_Z := q_zt1 (List.mem_of_getElem? (i := 199) rfl) rfl
theorem zw1_29 : Cond.code yX3_init cX3_init 1 none ∈ q_Z := q_zt1 (List.mem_of_getElem? (i := 29) rfl) rfl
theorem zw1_203 : Cond.fieldLink RX7 18 RX7 (TX7 4).2.1 (TX7 4).2.2.1 ∈ q_Z := q_zt1 (List.mem_of_getElem? (i := 203) rfl) rfl
theorem zw1_89 : Cond.code yX5_init cX5_init 1 none ∈ q_Z := q_zt1 (List.mem_of_getElem? (i := 89) rfl) rfl
theorem zw1_200 : Cond.fieldLink RX7 26 RX7 (TX7 1).2.1 (TX7 1).2.2.1 ∈ q_Z := q_zt1 (List.mem_of_getElem? (i := 200) rfl) rfl
theorem zw1_201 : Cond.fieldLink RX7 30 RX7 (TX7 2).2.1 (TX7 2).2.2.1 ∈ q_Z := q_zt1 (List.mem_of_getElem? (i := 201) rfl) rfl
theorem zw1_140 : Cond.code yX0_init cX0_init 2 none ∈ q_Z := q_zt1 (List.mem_of_getElem? (i := 140) rfl) rfl
theorem zw1_202 : Cond.fieldLink RX7 37 RX7 (TX7 3).2.1 (TX7 3).2.2.1 ∈ q_Z := q_zt1 (List.mem_of_getElem? (i := 202) rfl) rfl
theorem zw1_159 : Cond.code yX2_init cX2_init 1 none ∈ q_Z := q_zt1 (List.mem_of_getElem? (i := 159) rfl) rfl
theorem zw1_204 : Cond.fieldLink RX7 44 RX7 (TX7 5).2.1 (TX7 5).2.2.1 ∈ q_Z := q_zt1 (List.mem_of_getElem? (i := 204) rfl) rfl
theorem zw1_178 : Cond.code yX1_init cX1_init 1 none ∈ q_Z := q_zt1 (List.mem_of_getElem? (i := 178) rfl) rfl
theorem zw1_205 : Cond.fieldLink RX7 51 RX7 (TX7 6).2.1 (TX7 6).2.2.1 ∈ q_Z := q_zt1 (List.mem_of_getElem? (i := 205) rfl) rfl
theorem zw1_234 : Cond.code yX7_rowAt cX7_rowAt 2 (some (.object "TurningDishes$Row")) ∈ q_Z := q_zt1 (List.mem_of_getElem? (i := 234) rfl) rfl
theorem zw1_231 : Cond.methodLink RX7 55 yX7_rowAt ∈ q_Z := q_zt1 (List.mem_of_getElem? (i := 231) rfl) rfl
theorem zw1_233 : Cond.instanceMethod yX7_rowAt ∈ q_Z := q_zt1 (List.mem_of_getElem? (i := 233) rfl) rfl
theorem zs_0 : Cond.selects RX7 yX7_rowAt yX7_rowAt ∈ q_Z := q_zts (List.mem_of_getElem? (i := 0) rfl) rfl
theorem zw1_235 : Cond.methodLink RX7 59 yX7_within ∈ q_Z := q_zt1 (List.mem_of_getElem? (i := 235) rfl) rfl
theorem zw1_238 : Cond.constant RX7 63 (-1000001) ∈ q_Z := q_zt1 (List.mem_of_getElem? (i := 238) rfl) rfl
theorem zw2_2 : Cond.code yX7_found cX7_found 2 (some .int) ∈ q_Z := q_zt2 (List.mem_of_getElem? (i := 2) rfl) rfl
theorem zw1_239 : Cond.methodLink RX7 64 yX7_found ∈ q_Z := q_zt1 (List.mem_of_getElem? (i := 239) rfl) rfl
theorem zw2_1 : Cond.instanceMethod yX7_found ∈ q_Z := q_zt2 (List.mem_of_getElem? (i := 1) rfl) rfl
theorem zs_1 : Cond.selects RX7 yX7_found yX7_found ∈ q_Z := q_zts (List.mem_of_getElem? (i := 1) rfl) rfl
theorem zw2_7 : Cond.code yX3_begin cX3_begin 4 none ∈ q_Z := q_zt2 (List.mem_of_getElem? (i := 7) rfl) rfl
theorem zw2_4 : Cond.methodLink RX7 68 yX3_begin ∈ q_Z := q_zt2 (List.mem_of_getElem? (i := 4) rfl) rfl
theorem zw2_5 : Cond.instanceMethod yX3_begin ∈ q_Z := q_zt2 (List.mem_of_getElem? (i := 5) rfl) rfl
theorem zw2_6 : Cond.selects RX3 yX3_begin yX3_begin ∈ q_Z := q_zt2 (List.mem_of_getElem? (i := 6) rfl) rfl
theorem zw2_17 : Cond.code yX7_fine cX7_fine 2 (some .int) ∈ q_Z := q_zt2 (List.mem_of_getElem? (i := 17) rfl) rfl
theorem zw2_14 : Cond.methodLink RX7 72 yX7_fine ∈ q_Z := q_zt2 (List.mem_of_getElem? (i := 14) rfl) rfl
theorem zw2_16 : Cond.instanceMethod yX7_fine ∈ q_Z := q_zt2 (List.mem_of_getElem? (i := 16) rfl) rfl
theorem zs_2 : Cond.selects RX7 yX7_fine yX7_fine ∈ q_Z := q_zts (List.mem_of_getElem? (i := 2) rfl) rfl
theorem zw2_25 : Cond.code yX3_isMissing cX3_isMissing 1 (some .boolean) ∈ q_Z := q_zt2 (List.mem_of_getElem? (i := 25) rfl) rfl
theorem zw2_22 : Cond.methodLink RX7 75 yX3_isMissing ∈ q_Z := q_zt2 (List.mem_of_getElem? (i := 22) rfl) rfl
theorem zw2_23 : Cond.instanceMethod yX3_isMissing ∈ q_Z := q_zt2 (List.mem_of_getElem? (i := 23) rfl) rfl
theorem zw2_24 : Cond.selects RX3 yX3_isMissing yX3_isMissing ∈ q_Z := q_zt2 (List.mem_of_getElem? (i := 24) rfl) rfl
theorem zw2_26 : Cond.methodLink RX7 79 yX3_hasPlaces ∈ q_Z := q_zt2 (List.mem_of_getElem? (i := 26) rfl) rfl
theorem zw2_33 : Cond.code yX3_store cX3_store 3 none ∈ q_Z := q_zt2 (List.mem_of_getElem? (i := 33) rfl) rfl
theorem zw2_30 : Cond.methodLink RX7 83 yX3_store ∈ q_Z := q_zt2 (List.mem_of_getElem? (i := 30) rfl) rfl
theorem zw2_31 : Cond.instanceMethod yX3_store ∈ q_Z := q_zt2 (List.mem_of_getElem? (i := 31) rfl) rfl
theorem zw2_32 : Cond.selects RX3 yX3_store yX3_store ∈ q_Z := q_zt2 (List.mem_of_getElem? (i := 32) rfl) rfl
theorem zw2_34 : Cond.methodLink RX7 86 yX3_item ∈ q_Z := q_zt2 (List.mem_of_getElem? (i := 34) rfl) rfl
theorem zw2_45 : Cond.code yX3_take cX3_take 5 none ∈ q_Z := q_zt2 (List.mem_of_getElem? (i := 45) rfl) rfl
theorem zw2_42 : Cond.methodLink RX7 93 yX3_take ∈ q_Z := q_zt2 (List.mem_of_getElem? (i := 42) rfl) rfl
theorem zw2_43 : Cond.instanceMethod yX3_take ∈ q_Z := q_zt2 (List.mem_of_getElem? (i := 43) rfl) rfl
theorem zw2_44 : Cond.selects RX3 yX3_take yX3_take ∈ q_Z := q_zt2 (List.mem_of_getElem? (i := 44) rfl) rfl
theorem zw2_57 : Cond.code yX3_end cX3_end 1 none ∈ q_Z := q_zt2 (List.mem_of_getElem? (i := 57) rfl) rfl
theorem zw2_54 : Cond.methodLink RX7 100 yX3_end ∈ q_Z := q_zt2 (List.mem_of_getElem? (i := 54) rfl) rfl
theorem zw2_55 : Cond.instanceMethod yX3_end ∈ q_Z := q_zt2 (List.mem_of_getElem? (i := 55) rfl) rfl
theorem zw2_56 : Cond.selects RX3 yX3_end yX3_end ∈ q_Z := q_zt2 (List.mem_of_getElem? (i := 56) rfl) rfl
theorem zw2_62 : Cond.constant RX7 110 (-1000003) ∈ q_Z := q_zt2 (List.mem_of_getElem? (i := 62) rfl) rfl
theorem zw2_66 : Cond.code yX6_add cX6_add 2 none ∈ q_Z := q_zt2 (List.mem_of_getElem? (i := 66) rfl) rfl
theorem zw2_63 : Cond.methodLink RX7 111 yX6_add ∈ q_Z := q_zt2 (List.mem_of_getElem? (i := 63) rfl) rfl
theorem zw2_64 : Cond.instanceMethod yX6_add ∈ q_Z := q_zt2 (List.mem_of_getElem? (i := 64) rfl) rfl
theorem zw2_65 : Cond.selects RX6 yX6_add yX6_add ∈ q_Z := q_zt2 (List.mem_of_getElem? (i := 65) rfl) rfl
theorem zw2_74 : Cond.code yX5_read cX5_read 2 none ∈ q_Z := q_zt2 (List.mem_of_getElem? (i := 74) rfl) rfl
theorem zw2_71 : Cond.methodLink RX7 115 yX5_read ∈ q_Z := q_zt2 (List.mem_of_getElem? (i := 71) rfl) rfl
theorem zw2_72 : Cond.instanceMethod yX5_read ∈ q_Z := q_zt2 (List.mem_of_getElem? (i := 72) rfl) rfl
theorem zw2_73 : Cond.selects RX5 yX5_read yX5_read ∈ q_Z := q_zt2 (List.mem_of_getElem? (i := 73) rfl) rfl
theorem zw2_206 : Cond.code yX6_clear cX6_clear 1 none ∈ q_Z := q_zt2 (List.mem_of_getElem? (i := 206) rfl) rfl
theorem zw2_203 : Cond.methodLink RX7 118 yX6_clear ∈ q_Z := q_zt2 (List.mem_of_getElem? (i := 203) rfl) rfl
theorem zw2_204 : Cond.instanceMethod yX6_clear ∈ q_Z := q_zt2 (List.mem_of_getElem? (i := 204) rfl) rfl
theorem zw2_205 : Cond.selects RX6 yX6_clear yX6_clear ∈ q_Z := q_zt2 (List.mem_of_getElem? (i := 205) rfl) rfl
theorem zw1_206 : Cond.fieldLink RX7 124 RX7 (TX7 7).2.1 (TX7 7).2.2.1 ∈ q_Z := q_zt1 (List.mem_of_getElem? (i := 206) rfl) rfl
theorem zw2_207 : Cond.constant RX7 127 (-1000100) ∈ q_Z := q_zt2 (List.mem_of_getElem? (i := 207) rfl) rfl
theorem zw2_208 : Cond.methodLink RX7 134 yX4_become ∈ q_Z := q_zt2 (List.mem_of_getElem? (i := 208) rfl) rfl
theorem zw2_216 : Cond.code yX0_forget cX0_forget 1 none ∈ q_Z := q_zt2 (List.mem_of_getElem? (i := 216) rfl) rfl
theorem zw2_213 : Cond.methodLink RX7 138 yX0_forget ∈ q_Z := q_zt2 (List.mem_of_getElem? (i := 213) rfl) rfl
theorem zw2_214 : Cond.instanceMethod yX0_forget ∈ q_Z := q_zt2 (List.mem_of_getElem? (i := 214) rfl) rfl
theorem zw2_215 : Cond.selects RX0 yX0_forget yX0_forget ∈ q_Z := q_zt2 (List.mem_of_getElem? (i := 215) rfl) rfl
theorem zw2_229 : Cond.code yX4_stands cX4_stands 1 (some .boolean) ∈ q_Z := q_zt2 (List.mem_of_getElem? (i := 229) rfl) rfl
theorem zw2_226 : Cond.methodLink RX7 144 yX4_stands ∈ q_Z := q_zt2 (List.mem_of_getElem? (i := 226) rfl) rfl
theorem zw2_227 : Cond.instanceMethod yX4_stands ∈ q_Z := q_zt2 (List.mem_of_getElem? (i := 227) rfl) rfl
theorem zw2_228 : Cond.selects RX4 yX4_stands yX4_stands ∈ q_Z := q_zt2 (List.mem_of_getElem? (i := 228) rfl) rfl
theorem zw2_230 : Cond.constant RX7 147 (-1000002) ∈ q_Z := q_zt2 (List.mem_of_getElem? (i := 230) rfl) rfl
theorem zw2_234 : Cond.code yX0_keep cX0_keep 3 none ∈ q_Z := q_zt2 (List.mem_of_getElem? (i := 234) rfl) rfl
theorem zw2_231 : Cond.methodLink RX7 151 yX0_keep ∈ q_Z := q_zt2 (List.mem_of_getElem? (i := 231) rfl) rfl
theorem zw2_232 : Cond.instanceMethod yX0_keep ∈ q_Z := q_zt2 (List.mem_of_getElem? (i := 232) rfl) rfl
theorem zw2_233 : Cond.selects RX0 yX0_keep yX0_keep ∈ q_Z := q_zt2 (List.mem_of_getElem? (i := 233) rfl) rfl
theorem zw3_4 : Cond.methodLink RX7 154 yX4_passMinute ∈ q_Z := q_zt3 (List.mem_of_getElem? (i := 4) rfl) rfl
theorem zw3_50 : Cond.methodLink RX7 160 yX4_turnLeft ∈ q_Z := q_zt3 (List.mem_of_getElem? (i := 50) rfl) rfl
theorem zw3_55 : Cond.methodLink RX7 163 yX4_has ∈ q_Z := q_zt3 (List.mem_of_getElem? (i := 55) rfl) rfl
theorem zw3_56 : Cond.methodLink RX7 167 yX4_of ∈ q_Z := q_zt3 (List.mem_of_getElem? (i := 56) rfl) rfl
theorem zw3_57 : Cond.methodLink RX7 171 yX4_add ∈ q_Z := q_zt3 (List.mem_of_getElem? (i := 57) rfl) rfl
theorem zw3_62 : Cond.methodLink RX7 174 yX4_swapSeats ∈ q_Z := q_zt3 (List.mem_of_getElem? (i := 62) rfl) rfl
theorem zw3_73 : Cond.code yX4_swapSlots cX4_swapSlots 4 none ∈ q_Z := q_zt3 (List.mem_of_getElem? (i := 73) rfl) rfl
theorem zw3_70 : Cond.methodLink RX7 177 yX4_swapSlots ∈ q_Z := q_zt3 (List.mem_of_getElem? (i := 70) rfl) rfl
theorem zw3_71 : Cond.instanceMethod yX4_swapSlots ∈ q_Z := q_zt3 (List.mem_of_getElem? (i := 71) rfl) rfl
theorem zw3_72 : Cond.selects RX4 yX4_swapSlots yX4_swapSlots ∈ q_Z := q_zt3 (List.mem_of_getElem? (i := 72) rfl) rfl
theorem zw3_81 : Cond.code yX0_giveBack cX0_giveBack 2 none ∈ q_Z := q_zt3 (List.mem_of_getElem? (i := 81) rfl) rfl
theorem zw3_78 : Cond.methodLink RX7 183 yX0_giveBack ∈ q_Z := q_zt3 (List.mem_of_getElem? (i := 78) rfl) rfl
theorem zw3_79 : Cond.instanceMethod yX0_giveBack ∈ q_Z := q_zt3 (List.mem_of_getElem? (i := 79) rfl) rfl
theorem zw3_80 : Cond.selects RX0 yX0_giveBack yX0_giveBack ∈ q_Z := q_zt3 (List.mem_of_getElem? (i := 80) rfl) rfl
theorem zw3_86 : Cond.methodLink RX7 186 yX4_dishBefore ∈ q_Z := q_zt3 (List.mem_of_getElem? (i := 86) rfl) rfl
theorem zw3_98 : Cond.code yX2_look cX2_look 3 (some .int) ∈ q_Z := q_zt3 (List.mem_of_getElem? (i := 98) rfl) rfl
theorem zw3_95 : Cond.methodLink RX7 189 yX2_look ∈ q_Z := q_zt3 (List.mem_of_getElem? (i := 95) rfl) rfl
theorem zw3_96 : Cond.instanceMethod yX2_look ∈ q_Z := q_zt3 (List.mem_of_getElem? (i := 96) rfl) rfl
theorem zw3_97 : Cond.selects RX2 yX2_look yX2_look ∈ q_Z := q_zt3 (List.mem_of_getElem? (i := 97) rfl) rfl
theorem zw3_114 : Cond.methodLink RX7 196 yX2_eatsSeatedAs ∈ q_Z := q_zt3 (List.mem_of_getElem? (i := 114) rfl) rfl
theorem zw3_127 : Cond.code yX2_minuteOfLastPortion cX2_minuteOfLastPortion 5 (some .int) ∈ q_Z := q_zt3 (List.mem_of_getElem? (i := 127) rfl) rfl
theorem zw3_124 : Cond.methodLink RX7 200 yX2_minuteOfLastPortion ∈ q_Z := q_zt3 (List.mem_of_getElem? (i := 124) rfl) rfl
theorem zw3_125 : Cond.instanceMethod yX2_minuteOfLastPortion ∈ q_Z := q_zt3 (List.mem_of_getElem? (i := 125) rfl) rfl
theorem zw3_126 : Cond.selects RX2 yX2_minuteOfLastPortion yX2_minuteOfLastPortion ∈ q_Z := q_zt3 (List.mem_of_getElem? (i := 126) rfl) rfl
theorem zw3_129 : Cond.constant RX7 203 (-1000000) ∈ q_Z := q_zt3 (List.mem_of_getElem? (i := 129) rfl) rfl
theorem zw3_137 : Cond.code yX4_whoAteNothing cX4_whoAteNothing 3 (some .int) ∈ q_Z := q_zt3 (List.mem_of_getElem? (i := 137) rfl) rfl
theorem zw3_134 : Cond.methodLink RX7 207 yX4_whoAteNothing ∈ q_Z := q_zt3 (List.mem_of_getElem? (i := 134) rfl) rfl
theorem zw3_135 : Cond.instanceMethod yX4_whoAteNothing ∈ q_Z := q_zt3 (List.mem_of_getElem? (i := 135) rfl) rfl
theorem zw3_136 : Cond.selects RX4 yX4_whoAteNothing yX4_whoAteNothing ∈ q_Z := q_zt3 (List.mem_of_getElem? (i := 136) rfl) rfl
theorem zw3_145 : Cond.code yX2_minutesToRest cX2_minutesToRest 4 (some .int) ∈ q_Z := q_zt3 (List.mem_of_getElem? (i := 145) rfl) rfl
theorem zw3_142 : Cond.methodLink RX7 211 yX2_minutesToRest ∈ q_Z := q_zt3 (List.mem_of_getElem? (i := 142) rfl) rfl
theorem zw3_143 : Cond.instanceMethod yX2_minutesToRest ∈ q_Z := q_zt3 (List.mem_of_getElem? (i := 143) rfl) rfl
theorem zw3_144 : Cond.selects RX2 yX2_minutesToRest yX2_minutesToRest ∈ q_Z := q_zt3 (List.mem_of_getElem? (i := 144) rfl) rfl
theorem zw3_153 : Cond.code yX2_turnsToServe cX2_turnsToServe 5 (some .int) ∈ q_Z := q_zt3 (List.mem_of_getElem? (i := 153) rfl) rfl
theorem zw3_150 : Cond.methodLink RX7 215 yX2_turnsToServe ∈ q_Z := q_zt3 (List.mem_of_getElem? (i := 150) rfl) rfl
theorem zw3_151 : Cond.instanceMethod yX2_turnsToServe ∈ q_Z := q_zt3 (List.mem_of_getElem? (i := 151) rfl) rfl
theorem zw3_152 : Cond.selects RX2 yX2_turnsToServe yX2_turnsToServe ∈ q_Z := q_zt3 (List.mem_of_getElem? (i := 152) rfl) rfl
theorem zw3_168 : Cond.code yX2_findBestSlots cX2_findBestSlots 7 (some .int) ∈ q_Z := q_zt3 (List.mem_of_getElem? (i := 168) rfl) rfl
theorem zw3_165 : Cond.methodLink RX7 218 yX2_findBestSlots ∈ q_Z := q_zt3 (List.mem_of_getElem? (i := 165) rfl) rfl
theorem zw3_166 : Cond.instanceMethod yX2_findBestSlots ∈ q_Z := q_zt3 (List.mem_of_getElem? (i := 166) rfl) rfl
theorem zw3_167 : Cond.selects RX2 yX2_findBestSlots yX2_findBestSlots ∈ q_Z := q_zt3 (List.mem_of_getElem? (i := 167) rfl) rfl
theorem zw3_187 : Cond.code yX2_bestSlot cX2_bestSlot 2 (some .int) ∈ q_Z := q_zt3 (List.mem_of_getElem? (i := 187) rfl) rfl
theorem zw3_184 : Cond.methodLink RX7 221 yX2_bestSlot ∈ q_Z := q_zt3 (List.mem_of_getElem? (i := 184) rfl) rfl
theorem zw3_185 : Cond.instanceMethod yX2_bestSlot ∈ q_Z := q_zt3 (List.mem_of_getElem? (i := 185) rfl) rfl
theorem zw3_186 : Cond.selects RX2 yX2_bestSlot yX2_bestSlot ∈ q_Z := q_zt3 (List.mem_of_getElem? (i := 186) rfl) rfl
theorem zw3_195 : Cond.code yX2_dishesToWant cX2_dishesToWant 8 (some .int) ∈ q_Z := q_zt3 (List.mem_of_getElem? (i := 195) rfl) rfl
theorem zw3_192 : Cond.methodLink RX7 224 yX2_dishesToWant ∈ q_Z := q_zt3 (List.mem_of_getElem? (i := 192) rfl) rfl
theorem zw3_193 : Cond.instanceMethod yX2_dishesToWant ∈ q_Z := q_zt3 (List.mem_of_getElem? (i := 193) rfl) rfl
theorem zw3_194 : Cond.selects RX2 yX2_dishesToWant yX2_dishesToWant ∈ q_Z := q_zt3 (List.mem_of_getElem? (i := 194) rfl) rfl
theorem zw3_209 : Cond.code yX2_bestToSitAs cX2_bestToSitAs 8 (some .int) ∈ q_Z := q_zt3 (List.mem_of_getElem? (i := 209) rfl) rfl
theorem zw3_206 : Cond.methodLink RX7 228 yX2_bestToSitAs ∈ q_Z := q_zt3 (List.mem_of_getElem? (i := 206) rfl) rfl
theorem zw3_207 : Cond.instanceMethod yX2_bestToSitAs ∈ q_Z := q_zt3 (List.mem_of_getElem? (i := 207) rfl) rfl
theorem zw3_208 : Cond.selects RX2 yX2_bestToSitAs yX2_bestToSitAs ∈ q_Z := q_zt3 (List.mem_of_getElem? (i := 208) rfl) rfl
theorem zw3_218 : Cond.code yX7_imageAt cX7_imageAt 2 (some (.object "TurningDishes$Table")) ∈ q_Z := q_zt3 (List.mem_of_getElem? (i := 218) rfl) rfl
theorem zw3_215 : Cond.methodLink RX7 232 yX7_imageAt ∈ q_Z := q_zt3 (List.mem_of_getElem? (i := 215) rfl) rfl
theorem zw3_217 : Cond.instanceMethod yX7_imageAt ∈ q_Z := q_zt3 (List.mem_of_getElem? (i := 217) rfl) rfl
theorem zs_18 : Cond.selects RX7 yX7_imageAt yX7_imageAt ∈ q_Z := q_zts (List.mem_of_getElem? (i := 18) rfl) rfl
theorem zw3_233 : Cond.code yX7_isOne cX7_isOne 2 (some .boolean) ∈ q_Z := q_zt3 (List.mem_of_getElem? (i := 233) rfl) rfl
theorem zw3_232 : Cond.static yX7_isOne ∈ q_Z := q_zt3 (List.mem_of_getElem? (i := 232) rfl) rfl
theorem zw3_231 : Cond.methodLink RX7 236 yX7_isOne ∈ q_Z := q_zt3 (List.mem_of_getElem? (i := 231) rfl) rfl
theorem zw4_1 : Cond.code yX1_begin cX1_begin 3 none ∈ q_Z := q_zt4 (List.mem_of_getElem? (i := 1) rfl) rfl
theorem zw3_238 : Cond.methodLink RX7 239 yX1_begin ∈ q_Z := q_zt3 (List.mem_of_getElem? (i := 238) rfl) rfl
theorem zw3_239 : Cond.instanceMethod yX1_begin ∈ q_Z := q_zt3 (List.mem_of_getElem? (i := 239) rfl) rfl
theorem zw4_0 : Cond.selects RX1 yX1_begin yX1_begin ∈ q_Z := q_zt4 (List.mem_of_getElem? (i := 0) rfl) rfl
theorem zw4_6 : Cond.code yX1_size cX1_size 1 (some .int) ∈ q_Z := q_zt4 (List.mem_of_getElem? (i := 6) rfl) rfl
theorem zw4_3 : Cond.methodLink RX7 242 yX1_size ∈ q_Z := q_zt4 (List.mem_of_getElem? (i := 3) rfl) rfl
theorem zw4_4 : Cond.instanceMethod yX1_size ∈ q_Z := q_zt4 (List.mem_of_getElem? (i := 4) rfl) rfl
theorem zw4_5 : Cond.selects RX1 yX1_size yX1_size ∈ q_Z := q_zt4 (List.mem_of_getElem? (i := 5) rfl) rfl
theorem zw4_50 : Cond.code yX1_mark cX1_mark 1 (some .int) ∈ q_Z := q_zt4 (List.mem_of_getElem? (i := 50) rfl) rfl
theorem zw4_47 : Cond.methodLink RX7 245 yX1_mark ∈ q_Z := q_zt4 (List.mem_of_getElem? (i := 47) rfl) rfl
theorem zw4_48 : Cond.instanceMethod yX1_mark ∈ q_Z := q_zt4 (List.mem_of_getElem? (i := 48) rfl) rfl
theorem zw4_49 : Cond.selects RX1 yX1_mark yX1_mark ∈ q_Z := q_zt4 (List.mem_of_getElem? (i := 49) rfl) rfl
theorem zw4_62 : Cond.code yX1_traced cX1_traced 2 (some .int) ∈ q_Z := q_zt4 (List.mem_of_getElem? (i := 62) rfl) rfl
theorem zw4_59 : Cond.methodLink RX7 248 yX1_traced ∈ q_Z := q_zt4 (List.mem_of_getElem? (i := 59) rfl) rfl
theorem zw4_60 : Cond.instanceMethod yX1_traced ∈ q_Z := q_zt4 (List.mem_of_getElem? (i := 60) rfl) rfl
theorem zw4_61 : Cond.selects RX1 yX1_traced yX1_traced ∈ q_Z := q_zt4 (List.mem_of_getElem? (i := 61) rfl) rfl
theorem zw4_71 : Cond.code yX7_rowsThere cX7_rowsThere 4 (some .int) ∈ q_Z := q_zt4 (List.mem_of_getElem? (i := 71) rfl) rfl
theorem zw4_68 : Cond.methodLink RX7 251 yX7_rowsThere ∈ q_Z := q_zt4 (List.mem_of_getElem? (i := 68) rfl) rfl
theorem zw4_70 : Cond.instanceMethod yX7_rowsThere ∈ q_Z := q_zt4 (List.mem_of_getElem? (i := 70) rfl) rfl
theorem zs_30 : Cond.selects RX7 yX7_rowsThere yX7_rowsThere ∈ q_Z := q_zts (List.mem_of_getElem? (i := 30) rfl) rfl
theorem zw4_75 : Cond.code yX4_portionsOfAll cX4_portionsOfAll 3 (some .int) ∈ q_Z := q_zt4 (List.mem_of_getElem? (i := 75) rfl) rfl
theorem zw4_72 : Cond.methodLink RX7 254 yX4_portionsOfAll ∈ q_Z := q_zt4 (List.mem_of_getElem? (i := 72) rfl) rfl
theorem zw4_73 : Cond.instanceMethod yX4_portionsOfAll ∈ q_Z := q_zt4 (List.mem_of_getElem? (i := 73) rfl) rfl
theorem zw4_74 : Cond.selects RX4 yX4_portionsOfAll yX4_portionsOfAll ∈ q_Z := q_zt4 (List.mem_of_getElem? (i := 74) rfl) rfl
theorem zw1_207 : Cond.fieldLink RX7 257 RX7 (TX7 8).2.1 (TX7 8).2.2.1 ∈ q_Z := q_zt1 (List.mem_of_getElem? (i := 207) rfl) rfl
theorem zw2_3 : Cond.constant RX7 260 (-1000010) ∈ q_Z := q_zt2 (List.mem_of_getElem? (i := 3) rfl) rfl
theorem zw4_85 : Cond.methodLink RX8 1 objectInit ∈ q_Z := q_zt4 (List.mem_of_getElem? (i := 85) rfl) rfl
theorem zw4_86 : Cond.fieldLink RX8 7 RX8 (TX8 0).2.1 (TX8 0).2.2.1 ∈ q_Z := q_zt4 (List.mem_of_getElem? (i := 86) rfl) rfl
theorem zw4_88 : Cond.fieldLink RX8 13 RX8 (TX8 2).2.1 (TX8 2).2.2.1 ∈ q_Z := q_zt4 (List.mem_of_getElem? (i := 88) rfl) rfl
theorem zw4_92 : Cond.fieldLink RX8 16 RX8 (TX8 6).2.1 (TX8 6).2.2.1 ∈ q_Z := q_zt4 (List.mem_of_getElem? (i := 92) rfl) rfl
theorem zw4_93 : Cond.fieldLink RX8 19 RX8 (TX8 7).2.1 (TX8 7).2.2.1 ∈ q_Z := q_zt4 (List.mem_of_getElem? (i := 93) rfl) rfl
theorem zw4_94 : Cond.fieldLink RX8 22 RX8 (TX8 8).2.1 (TX8 8).2.2.1 ∈ q_Z := q_zt4 (List.mem_of_getElem? (i := 94) rfl) rfl
theorem zw4_95 : Cond.fieldLink RX8 25 RX8 (TX8 9).2.1 (TX8 9).2.2.1 ∈ q_Z := q_zt4 (List.mem_of_getElem? (i := 95) rfl) rfl
theorem zw4_105 : Cond.fieldLink RX8 28 RX8 (TX8 19).2.1 (TX8 19).2.2.1 ∈ q_Z := q_zt4 (List.mem_of_getElem? (i := 105) rfl) rfl
theorem zw4_106 : Cond.fieldLink RX8 32 RX8 (TX8 20).2.1 (TX8 20).2.2.1 ∈ q_Z := q_zt4 (List.mem_of_getElem? (i := 106) rfl) rfl
theorem zw4_161 : Cond.constantLong RX8 35 (7) ∈ q_Z := q_zt4 (List.mem_of_getElem? (i := 161) rfl) rfl
theorem zw4_164 : Cond.code yX8_in cX8_in 6 (some .boolean) ∈ q_Z := q_zt4 (List.mem_of_getElem? (i := 164) rfl) rfl
theorem zw1_9 : Cond.initialized RX8 ∈ q_Z := q_zt1 (List.mem_of_getElem? (i := 9) rfl) rfl
theorem zw4_163 : Cond.static yX8_in ∈ q_Z := q_zt4 (List.mem_of_getElem? (i := 163) rfl) rfl
theorem zw4_162 : Cond.methodLink RX8 37 yX8_in ∈ q_Z := q_zt4 (List.mem_of_getElem? (i := 162) rfl) rfl
theorem zw4_91 : Cond.fieldLink RX8 41 RX8 (TX8 5).2.1 (TX8 5).2.2.1 ∈ q_Z := q_zt4 (List.mem_of_getElem? (i := 91) rfl) rfl
theorem zw4_171 : Cond.constant RX8 45 (-1000010) ∈ q_Z := q_zt4 (List.mem_of_getElem? (i := 171) rfl) rfl
theorem zw4_160 : Cond.code yX8_isRow cX8_isRow 1 (some .boolean) ∈ q_Z := q_zt4 (List.mem_of_getElem? (i := 160) rfl) rfl
theorem zw4_159 : Cond.static yX8_isRow ∈ q_Z := q_zt4 (List.mem_of_getElem? (i := 159) rfl) rfl
theorem zw4_158 : Cond.methodLink RX8 46 yX8_isRow ∈ q_Z := q_zt4 (List.mem_of_getElem? (i := 158) rfl) rfl
theorem zw4_165 : Cond.constantLong RX8 50 (2) ∈ q_Z := q_zt4 (List.mem_of_getElem? (i := 165) rfl) rfl
theorem zw4_166 : Cond.constant RX8 52 (-1000001) ∈ q_Z := q_zt4 (List.mem_of_getElem? (i := 166) rfl) rfl
theorem zw4_170 : Cond.code yX8_found cX8_found 2 (some .int) ∈ q_Z := q_zt4 (List.mem_of_getElem? (i := 170) rfl) rfl
theorem zw4_167 : Cond.methodLink RX8 53 yX8_found ∈ q_Z := q_zt4 (List.mem_of_getElem? (i := 167) rfl) rfl
theorem zw4_169 : Cond.instanceMethod yX8_found ∈ q_Z := q_zt4 (List.mem_of_getElem? (i := 169) rfl) rfl
theorem zs_31 : Cond.selects RX8 yX8_found yX8_found ∈ q_Z := q_zts (List.mem_of_getElem? (i := 31) rfl) rfl
theorem zw4_175 : Cond.code yX8_well cX8_well 2 (some .int) ∈ q_Z := q_zt4 (List.mem_of_getElem? (i := 175) rfl) rfl
theorem zw4_172 : Cond.methodLink RX8 57 yX8_well ∈ q_Z := q_zt4 (List.mem_of_getElem? (i := 172) rfl) rfl
theorem zw4_174 : Cond.instanceMethod yX8_well ∈ q_Z := q_zt4 (List.mem_of_getElem? (i := 174) rfl) rfl
theorem zs_32 : Cond.selects RX8 yX8_well yX8_well ∈ q_Z := q_zts (List.mem_of_getElem? (i := 32) rfl) rfl
theorem zw4_186 : Cond.code yX8_isPart cX8_isPart 3 (some .boolean) ∈ q_Z := q_zt4 (List.mem_of_getElem? (i := 186) rfl) rfl
theorem zw4_185 : Cond.static yX8_isPart ∈ q_Z := q_zt4 (List.mem_of_getElem? (i := 185) rfl) rfl
theorem zw4_184 : Cond.methodLink RX8 60 yX8_isPart ∈ q_Z := q_zt4 (List.mem_of_getElem? (i := 184) rfl) rfl
theorem zw4_195 : Cond.constantLong RX8 64 (8) ∈ q_Z := q_zt4 (List.mem_of_getElem? (i := 195) rfl) rfl
theorem zw4_89 : Cond.fieldLink RX8 66 RX8 (TX8 3).2.1 (TX8 3).2.2.1 ∈ q_Z := q_zt4 (List.mem_of_getElem? (i := 89) rfl) rfl
theorem zw4_196 : Cond.constant RX8 69 (-1000003) ∈ q_Z := q_zt4 (List.mem_of_getElem? (i := 196) rfl) rfl
theorem zw4_197 : Cond.constantLong RX8 70 (255) ∈ q_Z := q_zt4 (List.mem_of_getElem? (i := 197) rfl) rfl
theorem zw4_217 : Cond.constantLong RX8 72 (97) ∈ q_Z := q_zt4 (List.mem_of_getElem? (i := 217) rfl) rfl
theorem zw4_218 : Cond.constantLong RX8 74 (122) ∈ q_Z := q_zt4 (List.mem_of_getElem? (i := 218) rfl) rfl
theorem zw4_219 : Cond.constantLong RX8 76 (48) ∈ q_Z := q_zt4 (List.mem_of_getElem? (i := 219) rfl) rfl
theorem zw4_220 : Cond.constantLong RX8 78 (57) ∈ q_Z := q_zt4 (List.mem_of_getElem? (i := 220) rfl) rfl
theorem zw4_97 : Cond.fieldLink RX8 80 RX8 (TX8 11).2.1 (TX8 11).2.2.1 ∈ q_Z := q_zt4 (List.mem_of_getElem? (i := 97) rfl) rfl
theorem zw4_96 : Cond.fieldLink RX8 83 RX8 (TX8 10).2.1 (TX8 10).2.2.1 ∈ q_Z := q_zt4 (List.mem_of_getElem? (i := 96) rfl) rfl
theorem zw4_213 : Cond.code yX8_byteAt cX8_byteAt 2 (some .int) ∈ q_Z := q_zt4 (List.mem_of_getElem? (i := 213) rfl) rfl
theorem zw4_210 : Cond.methodLink RX8 86 yX8_byteAt ∈ q_Z := q_zt4 (List.mem_of_getElem? (i := 210) rfl) rfl
theorem zw4_212 : Cond.instanceMethod yX8_byteAt ∈ q_Z := q_zt4 (List.mem_of_getElem? (i := 212) rfl) rfl
theorem zs_35 : Cond.selects RX8 yX8_byteAt yX8_byteAt ∈ q_Z := q_zts (List.mem_of_getElem? (i := 35) rfl) rfl
theorem zw4_216 : Cond.code yX8_sortOf cX8_sortOf 1 (some .int) ∈ q_Z := q_zt4 (List.mem_of_getElem? (i := 216) rfl) rfl
theorem zw4_215 : Cond.static yX8_sortOf ∈ q_Z := q_zt4 (List.mem_of_getElem? (i := 215) rfl) rfl
theorem zw4_214 : Cond.methodLink RX8 89 yX8_sortOf ∈ q_Z := q_zt4 (List.mem_of_getElem? (i := 214) rfl) rfl
theorem zw4_98 : Cond.fieldLink RX8 92 RX8 (TX8 12).2.1 (TX8 12).2.2.1 ∈ q_Z := q_zt4 (List.mem_of_getElem? (i := 98) rfl) rfl
theorem zw4_90 : Cond.fieldLink RX8 95 RX8 (TX8 4).2.1 (TX8 4).2.2.1 ∈ q_Z := q_zt4 (List.mem_of_getElem? (i := 90) rfl) rfl
theorem zw4_232 : Cond.code yX8_isWord cX8_isWord 6 (some .boolean) ∈ q_Z := q_zt4 (List.mem_of_getElem? (i := 232) rfl) rfl
theorem zw4_229 : Cond.methodLink RX8 98 yX8_isWord ∈ q_Z := q_zt4 (List.mem_of_getElem? (i := 229) rfl) rfl
theorem zw4_231 : Cond.instanceMethod yX8_isWord ∈ q_Z := q_zt4 (List.mem_of_getElem? (i := 231) rfl) rfl
theorem zs_38 : Cond.selects RX8 yX8_isWord yX8_isWord ∈ q_Z := q_zts (List.mem_of_getElem? (i := 38) rfl) rfl
theorem zw4_236 : Cond.code yX8_isFourth cX8_isFourth 2 (some .boolean) ∈ q_Z := q_zt4 (List.mem_of_getElem? (i := 236) rfl) rfl
theorem zw4_233 : Cond.methodLink RX8 102 yX8_isFourth ∈ q_Z := q_zt4 (List.mem_of_getElem? (i := 233) rfl) rfl
theorem zw4_235 : Cond.instanceMethod yX8_isFourth ∈ q_Z := q_zt4 (List.mem_of_getElem? (i := 235) rfl) rfl
theorem zs_39 : Cond.selects RX8 yX8_isFourth yX8_isFourth ∈ q_Z := q_zts (List.mem_of_getElem? (i := 39) rfl) rfl
theorem zw4_209 : Cond.code yX8_token cX8_token 1 none ∈ q_Z := q_zt4 (List.mem_of_getElem? (i := 209) rfl) rfl
theorem zw4_206 : Cond.methodLink RX8 105 yX8_token ∈ q_Z := q_zt4 (List.mem_of_getElem? (i := 206) rfl) rfl
theorem zw4_208 : Cond.instanceMethod yX8_token ∈ q_Z := q_zt4 (List.mem_of_getElem? (i := 208) rfl) rfl
theorem zs_34 : Cond.selects RX8 yX8_token yX8_token ∈ q_Z := q_zts (List.mem_of_getElem? (i := 34) rfl) rfl
theorem zw4_224 : Cond.code yX8_wrong cX8_wrong 2 (some .boolean) ∈ q_Z := q_zt4 (List.mem_of_getElem? (i := 224) rfl) rfl
theorem zw4_221 : Cond.methodLink RX8 108 yX8_wrong ∈ q_Z := q_zt4 (List.mem_of_getElem? (i := 221) rfl) rfl
theorem zw4_223 : Cond.instanceMethod yX8_wrong ∈ q_Z := q_zt4 (List.mem_of_getElem? (i := 223) rfl) rfl
theorem zs_36 : Cond.selects RX8 yX8_wrong yX8_wrong ∈ q_Z := q_zts (List.mem_of_getElem? (i := 36) rfl) rfl
theorem zw5_8 : Cond.code yX8_sortNow cX8_sortNow 1 (some .int) ∈ q_Z := q_zt5 (List.mem_of_getElem? (i := 8) rfl) rfl
theorem zw5_5 : Cond.methodLink RX8 111 yX8_sortNow ∈ q_Z := q_zt5 (List.mem_of_getElem? (i := 5) rfl) rfl
theorem zw5_7 : Cond.instanceMethod yX8_sortNow ∈ q_Z := q_zt5 (List.mem_of_getElem? (i := 7) rfl) rfl
theorem zs_42 : Cond.selects RX8 yX8_sortNow yX8_sortNow ∈ q_Z := q_zts (List.mem_of_getElem? (i := 42) rfl) rfl
theorem zw5_12 : Cond.code yX8_takesNumber cX8_takesNumber 5 (some .boolean) ∈ q_Z := q_zt5 (List.mem_of_getElem? (i := 12) rfl) rfl
theorem zw5_9 : Cond.methodLink RX8 115 yX8_takesNumber ∈ q_Z := q_zt5 (List.mem_of_getElem? (i := 9) rfl) rfl
theorem zw5_11 : Cond.instanceMethod yX8_takesNumber ∈ q_Z := q_zt5 (List.mem_of_getElem? (i := 11) rfl) rfl
theorem zs_43 : Cond.selects RX8 yX8_takesNumber yX8_takesNumber ∈ q_Z := q_zts (List.mem_of_getElem? (i := 43) rfl) rfl
theorem zw5_16 : Cond.code yX8_stops cX8_stops 1 (some .boolean) ∈ q_Z := q_zt5 (List.mem_of_getElem? (i := 16) rfl) rfl
theorem zw5_13 : Cond.methodLink RX8 119 yX8_stops ∈ q_Z := q_zt5 (List.mem_of_getElem? (i := 13) rfl) rfl
theorem zw5_15 : Cond.instanceMethod yX8_stops ∈ q_Z := q_zt5 (List.mem_of_getElem? (i := 15) rfl) rfl
theorem zs_44 : Cond.selects RX8 yX8_stops yX8_stops ∈ q_Z := q_zts (List.mem_of_getElem? (i := 44) rfl) rfl
theorem zw4_99 : Cond.fieldLink RX8 123 RX8 (TX8 13).2.1 (TX8 13).2.2.1 ∈ q_Z := q_zt4 (List.mem_of_getElem? (i := 99) rfl) rfl
theorem zw4_228 : Cond.code yX8_isGuestWord cX8_isGuestWord 1 (some .boolean) ∈ q_Z := q_zt4 (List.mem_of_getElem? (i := 228) rfl) rfl
theorem zw4_225 : Cond.methodLink RX8 126 yX8_isGuestWord ∈ q_Z := q_zt4 (List.mem_of_getElem? (i := 225) rfl) rfl
theorem zw4_227 : Cond.instanceMethod yX8_isGuestWord ∈ q_Z := q_zt4 (List.mem_of_getElem? (i := 227) rfl) rfl
theorem zs_37 : Cond.selects RX8 yX8_isGuestWord yX8_isGuestWord ∈ q_Z := q_zts (List.mem_of_getElem? (i := 37) rfl) rfl
theorem zw5_0 : Cond.code yX8_isDishWord cX8_isDishWord 1 (some .boolean) ∈ q_Z := q_zt5 (List.mem_of_getElem? (i := 0) rfl) rfl
theorem zw4_237 : Cond.methodLink RX8 129 yX8_isDishWord ∈ q_Z := q_zt4 (List.mem_of_getElem? (i := 237) rfl) rfl
theorem zw4_239 : Cond.instanceMethod yX8_isDishWord ∈ q_Z := q_zt4 (List.mem_of_getElem? (i := 239) rfl) rfl
theorem zs_40 : Cond.selects RX8 yX8_isDishWord yX8_isDishWord ∈ q_Z := q_zts (List.mem_of_getElem? (i := 40) rfl) rfl
theorem zw5_4 : Cond.code yX8_readsGuest cX8_readsGuest 2 (some .boolean) ∈ q_Z := q_zt5 (List.mem_of_getElem? (i := 4) rfl) rfl
theorem zw5_1 : Cond.methodLink RX8 132 yX8_readsGuest ∈ q_Z := q_zt5 (List.mem_of_getElem? (i := 1) rfl) rfl
theorem zw5_3 : Cond.instanceMethod yX8_readsGuest ∈ q_Z := q_zt5 (List.mem_of_getElem? (i := 3) rfl) rfl
theorem zs_41 : Cond.selects RX8 yX8_readsGuest yX8_readsGuest ∈ q_Z := q_zts (List.mem_of_getElem? (i := 41) rfl) rfl
theorem zw5_20 : Cond.code yX8_readsDish cX8_readsDish 1 (some .boolean) ∈ q_Z := q_zt5 (List.mem_of_getElem? (i := 20) rfl) rfl
theorem zw5_17 : Cond.methodLink RX8 135 yX8_readsDish ∈ q_Z := q_zt5 (List.mem_of_getElem? (i := 17) rfl) rfl
theorem zw5_19 : Cond.instanceMethod yX8_readsDish ∈ q_Z := q_zt5 (List.mem_of_getElem? (i := 19) rfl) rfl
theorem zs_45 : Cond.selects RX8 yX8_readsDish yX8_readsDish ∈ q_Z := q_zts (List.mem_of_getElem? (i := 45) rfl) rfl
theorem zw4_205 : Cond.code yX8_reads cX8_reads 4 (some .boolean) ∈ q_Z := q_zt4 (List.mem_of_getElem? (i := 205) rfl) rfl
theorem zw4_202 : Cond.methodLink RX8 138 yX8_reads ∈ q_Z := q_zt4 (List.mem_of_getElem? (i := 202) rfl) rfl
theorem zw4_204 : Cond.instanceMethod yX8_reads ∈ q_Z := q_zt4 (List.mem_of_getElem? (i := 204) rfl) rfl
theorem zs_33 : Cond.selects RX8 yX8_reads yX8_reads ∈ q_Z := q_zts (List.mem_of_getElem? (i := 33) rfl) rfl
theorem zw5_21 : Cond.constant RX8 141 (-1000100) ∈ q_Z := q_zt5 (List.mem_of_getElem? (i := 21) rfl) rfl
theorem zw5_25 : Cond.code yX8_copyRow cX8_copyRow 4 none ∈ q_Z := q_zt5 (List.mem_of_getElem? (i := 25) rfl) rfl
theorem zw5_22 : Cond.methodLink RX8 142 yX8_copyRow ∈ q_Z := q_zt5 (List.mem_of_getElem? (i := 22) rfl) rfl
theorem zw5_24 : Cond.instanceMethod yX8_copyRow ∈ q_Z := q_zt5 (List.mem_of_getElem? (i := 24) rfl) rfl
theorem zs_46 : Cond.selects RX8 yX8_copyRow yX8_copyRow ∈ q_Z := q_zts (List.mem_of_getElem? (i := 46) rfl) rfl
theorem zw4_87 : Cond.fieldLink RX8 146 RX8 (TX8 1).2.1 (TX8 1).2.2.1 ∈ q_Z := q_zt4 (List.mem_of_getElem? (i := 87) rfl) rfl
theorem zw4_100 : Cond.fieldLink RX8 149 RX8 (TX8 14).2.1 (TX8 14).2.2.1 ∈ q_Z := q_zt4 (List.mem_of_getElem? (i := 100) rfl) rfl
theorem zw5_59 : Cond.code yX8_turnBy cX8_turnBy 4 none ∈ q_Z := q_zt5 (List.mem_of_getElem? (i := 59) rfl) rfl
theorem zw5_56 : Cond.methodLink RX8 152 yX8_turnBy ∈ q_Z := q_zt5 (List.mem_of_getElem? (i := 56) rfl) rfl
theorem zw5_58 : Cond.instanceMethod yX8_turnBy ∈ q_Z := q_zt5 (List.mem_of_getElem? (i := 58) rfl) rfl
theorem zs_52 : Cond.selects RX8 yX8_turnBy yX8_turnBy ∈ q_Z := q_zts (List.mem_of_getElem? (i := 52) rfl) rfl
theorem zw5_63 : Cond.code yX8_leftTo cX8_leftTo 4 (some .int) ∈ q_Z := q_zt5 (List.mem_of_getElem? (i := 63) rfl) rfl
theorem zw5_60 : Cond.methodLink RX8 155 yX8_leftTo ∈ q_Z := q_zt5 (List.mem_of_getElem? (i := 60) rfl) rfl
theorem zw5_62 : Cond.instanceMethod yX8_leftTo ∈ q_Z := q_zt5 (List.mem_of_getElem? (i := 62) rfl) rfl
theorem zs_53 : Cond.selects RX8 yX8_leftTo yX8_leftTo ∈ q_Z := q_zts (List.mem_of_getElem? (i := 53) rfl) rfl
theorem zw5_51 : Cond.code yX8_guestAt cX8_guestAt 4 (some .int) ∈ q_Z := q_zt5 (List.mem_of_getElem? (i := 51) rfl) rfl
theorem zw5_48 : Cond.methodLink RX8 159 yX8_guestAt ∈ q_Z := q_zt5 (List.mem_of_getElem? (i := 48) rfl) rfl
theorem zw5_50 : Cond.instanceMethod yX8_guestAt ∈ q_Z := q_zt5 (List.mem_of_getElem? (i := 50) rfl) rfl
theorem zs_50 : Cond.selects RX8 yX8_guestAt yX8_guestAt ∈ q_Z := q_zts (List.mem_of_getElem? (i := 50) rfl) rfl
theorem zw5_55 : Cond.code yX8_pushes cX8_pushes 9 none ∈ q_Z := q_zt5 (List.mem_of_getElem? (i := 55) rfl) rfl
theorem zw5_52 : Cond.methodLink RX8 162 yX8_pushes ∈ q_Z := q_zt5 (List.mem_of_getElem? (i := 52) rfl) rfl
theorem zw5_54 : Cond.instanceMethod yX8_pushes ∈ q_Z := q_zt5 (List.mem_of_getElem? (i := 54) rfl) rfl
theorem zs_51 : Cond.selects RX8 yX8_pushes yX8_pushes ∈ q_Z := q_zts (List.mem_of_getElem? (i := 51) rfl) rfl
theorem zw5_67 : Cond.code yX8_dishBefore cX8_dishBefore 5 (some .int) ∈ q_Z := q_zt5 (List.mem_of_getElem? (i := 67) rfl) rfl
theorem zw5_64 : Cond.methodLink RX8 165 yX8_dishBefore ∈ q_Z := q_zt5 (List.mem_of_getElem? (i := 64) rfl) rfl
theorem zw5_66 : Cond.instanceMethod yX8_dishBefore ∈ q_Z := q_zt5 (List.mem_of_getElem? (i := 66) rfl) rfl
theorem zs_54 : Cond.selects RX8 yX8_dishBefore yX8_dishBefore ∈ q_Z := q_zts (List.mem_of_getElem? (i := 54) rfl) rfl
theorem zw4_101 : Cond.fieldLink RX8 168 RX8 (TX8 15).2.1 (TX8 15).2.2.1 ∈ q_Z := q_zt4 (List.mem_of_getElem? (i := 101) rfl) rfl
theorem zw4_102 : Cond.fieldLink RX8 171 RX8 (TX8 16).2.1 (TX8 16).2.2.1 ∈ q_Z := q_zt4 (List.mem_of_getElem? (i := 102) rfl) rfl
theorem zw4_103 : Cond.fieldLink RX8 174 RX8 (TX8 17).2.1 (TX8 17).2.2.1 ∈ q_Z := q_zt4 (List.mem_of_getElem? (i := 103) rfl) rfl
theorem zw5_37 : Cond.code yX8_isNone cX8_isNone 1 (some .boolean) ∈ q_Z := q_zt5 (List.mem_of_getElem? (i := 37) rfl) rfl
theorem zw5_34 : Cond.methodLink RX8 177 yX8_isNone ∈ q_Z := q_zt5 (List.mem_of_getElem? (i := 34) rfl) rfl
theorem zw5_36 : Cond.instanceMethod yX8_isNone ∈ q_Z := q_zt5 (List.mem_of_getElem? (i := 36) rfl) rfl
theorem zs_47 : Cond.selects RX8 yX8_isNone yX8_isNone ∈ q_Z := q_zts (List.mem_of_getElem? (i := 47) rfl) rfl
theorem zw5_38 : Cond.constant RX8 180 (-1000002) ∈ q_Z := q_zt5 (List.mem_of_getElem? (i := 38) rfl) rfl
theorem zw5_39 : Cond.constantLong RX8 181 (24) ∈ q_Z := q_zt5 (List.mem_of_getElem? (i := 39) rfl) rfl
theorem zw5_43 : Cond.code yX8_minds cX8_minds 2 none ∈ q_Z := q_zt5 (List.mem_of_getElem? (i := 43) rfl) rfl
theorem zw5_40 : Cond.methodLink RX8 183 yX8_minds ∈ q_Z := q_zt5 (List.mem_of_getElem? (i := 40) rfl) rfl
theorem zw5_42 : Cond.instanceMethod yX8_minds ∈ q_Z := q_zt5 (List.mem_of_getElem? (i := 42) rfl) rfl
theorem zs_48 : Cond.selects RX8 yX8_minds yX8_minds ∈ q_Z := q_zts (List.mem_of_getElem? (i := 48) rfl) rfl
theorem zw5_47 : Cond.code yX8_goMinute cX8_goMinute 7 none ∈ q_Z := q_zt5 (List.mem_of_getElem? (i := 47) rfl) rfl
theorem zw5_44 : Cond.methodLink RX8 186 yX8_goMinute ∈ q_Z := q_zt5 (List.mem_of_getElem? (i := 44) rfl) rfl
theorem zw5_46 : Cond.instanceMethod yX8_goMinute ∈ q_Z := q_zt5 (List.mem_of_getElem? (i := 46) rfl) rfl
theorem zs_49 : Cond.selects RX8 yX8_goMinute yX8_goMinute ∈ q_Z := q_zts (List.mem_of_getElem? (i := 49) rfl) rfl
theorem zw5_72 : Cond.constantLong RX8 190 (-9) ∈ q_Z := q_zt5 (List.mem_of_getElem? (i := 72) rfl) rfl
theorem zw5_73 : Cond.constantLong RX8 192 (9) ∈ q_Z := q_zt5 (List.mem_of_getElem? (i := 73) rfl) rfl
theorem zw5_81 : Cond.code yX8_isOne cX8_isOne 2 (some .boolean) ∈ q_Z := q_zt5 (List.mem_of_getElem? (i := 81) rfl) rfl
theorem zw5_78 : Cond.methodLink RX8 194 yX8_isOne ∈ q_Z := q_zt5 (List.mem_of_getElem? (i := 78) rfl) rfl
theorem zw5_80 : Cond.instanceMethod yX8_isOne ∈ q_Z := q_zt5 (List.mem_of_getElem? (i := 80) rfl) rfl
theorem zs_55 : Cond.selects RX8 yX8_isOne yX8_isOne ∈ q_Z := q_zts (List.mem_of_getElem? (i := 55) rfl) rfl
theorem zw5_82 : Cond.constantLong RX8 197 (30) ∈ q_Z := q_zt5 (List.mem_of_getElem? (i := 82) rfl) rfl
theorem zw5_90 : Cond.code yX8_swaps cX8_swaps 5 (some .int) ∈ q_Z := q_zt5 (List.mem_of_getElem? (i := 90) rfl) rfl
theorem zw5_87 : Cond.methodLink RX8 199 yX8_swaps ∈ q_Z := q_zt5 (List.mem_of_getElem? (i := 87) rfl) rfl
theorem zw5_89 : Cond.instanceMethod yX8_swaps ∈ q_Z := q_zt5 (List.mem_of_getElem? (i := 89) rfl) rfl
theorem zs_56 : Cond.selects RX8 yX8_swaps yX8_swaps ∈ q_Z := q_zts (List.mem_of_getElem? (i := 56) rfl) rfl
theorem zw5_103 : Cond.constantLong RX8 203 (3) ∈ q_Z := q_zt5 (List.mem_of_getElem? (i := 103) rfl) rfl
theorem zw4_104 : Cond.fieldLink RX8 205 RX8 (TX8 18).2.1 (TX8 18).2.2.1 ∈ q_Z := q_zt4 (List.mem_of_getElem? (i := 104) rfl) rfl
theorem zw5_115 : Cond.constantLong RX8 208 (99) ∈ q_Z := q_zt5 (List.mem_of_getElem? (i := 115) rfl) rfl
theorem zw5_114 : Cond.code yX8_isLater cX8_isLater 1 (some .boolean) ∈ q_Z := q_zt5 (List.mem_of_getElem? (i := 114) rfl) rfl
theorem zw5_113 : Cond.static yX8_isLater ∈ q_Z := q_zt5 (List.mem_of_getElem? (i := 113) rfl) rfl
theorem zw5_112 : Cond.methodLink RX8 210 yX8_isLater ∈ q_Z := q_zt5 (List.mem_of_getElem? (i := 112) rfl) rfl
theorem zw5_119 : Cond.code yX8_goMinutes cX8_goMinutes 3 none ∈ q_Z := q_zt5 (List.mem_of_getElem? (i := 119) rfl) rfl
theorem zw5_116 : Cond.methodLink RX8 213 yX8_goMinutes ∈ q_Z := q_zt5 (List.mem_of_getElem? (i := 116) rfl) rfl
theorem zw5_118 : Cond.instanceMethod yX8_goMinutes ∈ q_Z := q_zt5 (List.mem_of_getElem? (i := 118) rfl) rfl
theorem zs_57 : Cond.selects RX8 yX8_goMinutes yX8_goMinutes ∈ q_Z := q_zts (List.mem_of_getElem? (i := 57) rfl) rfl
theorem zw5_132 : Cond.constant RX8 216 (-1000000) ∈ q_Z := q_zt5 (List.mem_of_getElem? (i := 132) rfl) rfl
theorem zw5_145 : Cond.constant RX8 217 (1000000) ∈ q_Z := q_zt5 (List.mem_of_getElem? (i := 145) rfl) rfl
theorem zw5_150 : Cond.constantLong RX8 218 (20) ∈ q_Z := q_zt5 (List.mem_of_getElem? (i := 150) rfl) rfl
theorem zw5_151 : Cond.constantLong RX8 220 (-1) ∈ q_Z := q_zt5 (List.mem_of_getElem? (i := 151) rfl) rfl
theorem zw5_155 : Cond.code yX8_laysBy cX8_laysBy 5 (some .boolean) ∈ q_Z := q_zt5 (List.mem_of_getElem? (i := 155) rfl) rfl
theorem zw5_152 : Cond.methodLink RX8 222 yX8_laysBy ∈ q_Z := q_zt5 (List.mem_of_getElem? (i := 152) rfl) rfl
theorem zw5_154 : Cond.instanceMethod yX8_laysBy ∈ q_Z := q_zt5 (List.mem_of_getElem? (i := 154) rfl) rfl
theorem zs_58 : Cond.selects RX8 yX8_laysBy yX8_laysBy ∈ q_Z := q_zts (List.mem_of_getElem? (i := 58) rfl) rfl
theorem zw4_107 : Cond.fieldLink RX8 225 RX8 (TX8 21).2.1 (TX8 21).2.2.1 ∈ q_Z := q_zt4 (List.mem_of_getElem? (i := 107) rfl) rfl
theorem zw5_180 : Cond.constantLong RX8 228 (5) ∈ q_Z := q_zt5 (List.mem_of_getElem? (i := 180) rfl) rfl
theorem zw5_183 : Cond.code yX8_isOf cX8_isOf 2 (some .boolean) ∈ q_Z := q_zt5 (List.mem_of_getElem? (i := 183) rfl) rfl
theorem zw5_182 : Cond.static yX8_isOf ∈ q_Z := q_zt5 (List.mem_of_getElem? (i := 182) rfl) rfl
theorem zw5_181 : Cond.methodLink RX8 230 yX8_isOf ∈ q_Z := q_zt5 (List.mem_of_getElem? (i := 181) rfl) rfl
theorem zw5_195 : Cond.code yX8_leaves cX8_leaves 2 none ∈ q_Z := q_zt5 (List.mem_of_getElem? (i := 195) rfl) rfl
theorem zw5_192 : Cond.methodLink RX8 233 yX8_leaves ∈ q_Z := q_zt5 (List.mem_of_getElem? (i := 192) rfl) rfl
theorem zw5_194 : Cond.instanceMethod yX8_leaves ∈ q_Z := q_zt5 (List.mem_of_getElem? (i := 194) rfl) rfl
theorem zs_60 : Cond.selects RX8 yX8_leaves yX8_leaves ∈ q_Z := q_zts (List.mem_of_getElem? (i := 60) rfl) rfl
theorem zw5_199 : Cond.code yX8_markOfEater cX8_markOfEater 4 (some .int) ∈ q_Z := q_zt5 (List.mem_of_getElem? (i := 199) rfl) rfl
theorem zw5_196 : Cond.methodLink RX8 236 yX8_markOfEater ∈ q_Z := q_zt5 (List.mem_of_getElem? (i := 196) rfl) rfl
theorem zw5_198 : Cond.instanceMethod yX8_markOfEater ∈ q_Z := q_zt5 (List.mem_of_getElem? (i := 198) rfl) rfl
theorem zs_61 : Cond.selects RX8 yX8_markOfEater yX8_markOfEater ∈ q_Z := q_zts (List.mem_of_getElem? (i := 61) rfl) rfl
theorem zw5_191 : Cond.code yX8_sizeOf cX8_sizeOf 5 (some .int) ∈ q_Z := q_zt5 (List.mem_of_getElem? (i := 191) rfl) rfl
theorem zw5_188 : Cond.methodLink RX8 239 yX8_sizeOf ∈ q_Z := q_zt5 (List.mem_of_getElem? (i := 188) rfl) rfl
theorem zw5_190 : Cond.instanceMethod yX8_sizeOf ∈ q_Z := q_zt5 (List.mem_of_getElem? (i := 190) rfl) rfl
theorem zs_59 : Cond.selects RX8 yX8_sizeOf yX8_sizeOf ∈ q_Z := q_zts (List.mem_of_getElem? (i := 59) rfl) rfl
theorem zw5_203 : Cond.code yX8_markOf cX8_markOf 2 (some .int) ∈ q_Z := q_zt5 (List.mem_of_getElem? (i := 203) rfl) rfl
theorem zw5_200 : Cond.methodLink RX8 242 yX8_markOf ∈ q_Z := q_zt5 (List.mem_of_getElem? (i := 200) rfl) rfl
theorem zw5_202 : Cond.instanceMethod yX8_markOf ∈ q_Z := q_zt5 (List.mem_of_getElem? (i := 202) rfl) rfl
theorem zs_62 : Cond.selects RX8 yX8_markOf yX8_markOf ∈ q_Z := q_zts (List.mem_of_getElem? (i := 62) rfl) rfl
theorem us0 : ∀ w ∈ u_ws RX0 TX0 3, w ∈ q_Z := by
  intro w hw
  obtain ⟨k, hk, rfl⟩ := List.mem_map.mp hw
  have hk := List.mem_range.mp hk
  match k, hk with
  | 0, _ => exact zw1_148
  | 1, _ => exact zw1_150
  | 2, _ => exact zw1_152
  | k + 3, hk => omega
theorem us1 : ∀ w ∈ u_ws RX1 TX1 6, w ∈ q_Z := by
  intro w hw
  obtain ⟨k, hk, rfl⟩ := List.mem_map.mp hw
  have hk := List.mem_range.mp hk
  match k, hk with
  | 0, _ => exact zw1_186
  | 1, _ => exact zw1_188
  | 2, _ => exact zw1_190
  | 3, _ => exact zw1_192
  | 4, _ => exact zw1_194
  | 5, _ => exact zw1_196
  | k + 6, hk => omega
theorem us2 : ∀ w ∈ u_ws RX2 TX2 3, w ∈ q_Z := by
  intro w hw
  obtain ⟨k, hk, rfl⟩ := List.mem_map.mp hw
  have hk := List.mem_range.mp hk
  match k, hk with
  | 0, _ => exact zw1_167
  | 1, _ => exact zw1_169
  | 2, _ => exact zw1_171
  | k + 3, hk => omega
theorem us3 : ∀ w ∈ u_ws RX3 TX3 3, w ∈ q_Z := by
  intro w hw
  obtain ⟨k, hk, rfl⟩ := List.mem_map.mp hw
  have hk := List.mem_range.mp hk
  match k, hk with
  | 0, _ => exact zw1_36
  | 1, _ => exact zw1_38
  | 2, _ => exact zw1_40
  | k + 3, hk => omega
theorem us4 : ∀ w ∈ u_ws RX4 TX4 8, w ∈ q_Z := by
  intro w hw
  obtain ⟨k, hk, rfl⟩ := List.mem_map.mp hw
  have hk := List.mem_range.mp hk
  match k, hk with
  | 0, _ => exact zw1_68
  | 1, _ => exact zw1_70
  | 2, _ => exact zw1_72
  | 3, _ => exact zw1_74
  | 4, _ => exact zw1_76
  | 5, _ => exact zw1_78
  | 6, _ => exact zw1_80
  | 7, _ => exact zw1_82
  | k + 8, hk => omega
theorem us5 : ∀ w ∈ u_ws RX5 TX5 8, w ∈ q_Z := by
  intro w hw
  obtain ⟨k, hk, rfl⟩ := List.mem_map.mp hw
  have hk := List.mem_range.mp hk
  match k, hk with
  | 0, _ => exact zw1_119
  | 1, _ => exact zw1_121
  | 2, _ => exact zw1_123
  | 3, _ => exact zw1_125
  | 4, _ => exact zw1_127
  | 5, _ => exact zw1_129
  | 6, _ => exact zw1_131
  | 7, _ => exact zw1_133
  | k + 8, hk => omega
theorem us6 : ∀ w ∈ u_ws RX6 TX6 2, w ∈ q_Z := by
  intro w hw
  obtain ⟨k, hk, rfl⟩ := List.mem_map.mp hw
  have hk := List.mem_range.mp hk
  match k, hk with
  | 0, _ => exact zw1_100
  | 1, _ => exact zw1_102
  | k + 2, hk => omega
theorem us7 : ∀ w ∈ u_ws RX7 TX7 9, w ∈ q_Z := by
  intro w hw
  obtain ⟨k, hk, rfl⟩ := List.mem_map.mp hw
  have hk := List.mem_range.mp hk
  match k, hk with
  | 0, _ => exact zw1_208
  | 1, _ => exact zw1_210
  | 2, _ => exact zw1_212
  | 3, _ => exact zw1_214
  | 4, _ => exact zw1_216
  | 5, _ => exact zw1_218
  | 6, _ => exact zw1_220
  | 7, _ => exact zw1_222
  | 8, _ => exact zw1_224
  | k + 9, hk => omega
theorem us8 : ∀ w ∈ u_ws RX8 TX8 22, w ∈ q_Z := by
  intro w hw
  obtain ⟨k, hk, rfl⟩ := List.mem_map.mp hw
  have hk := List.mem_range.mp hk
  match k, hk with
  | 0, _ => exact zw4_108
  | 1, _ => exact zw4_110
  | 2, _ => exact zw4_112
  | 3, _ => exact zw4_114
  | 4, _ => exact zw4_116
  | 5, _ => exact zw4_118
  | 6, _ => exact zw4_120
  | 7, _ => exact zw4_122
  | 8, _ => exact zw4_124
  | 9, _ => exact zw4_126
  | 10, _ => exact zw4_128
  | 11, _ => exact zw4_130
  | 12, _ => exact zw4_132
  | 13, _ => exact zw4_134
  | 14, _ => exact zw4_136
  | 15, _ => exact zw4_138
  | 16, _ => exact zw4_140
  | 17, _ => exact zw4_142
  | 18, _ => exact zw4_144
  | 19, _ => exact zw4_146
  | 20, _ => exact zw4_148
  | 21, _ => exact zw4_150
  | k + 22, hk => omega
theorem lo0_3 : q_LO RX0 3 := ⟨zw1_141, zw1_22, zw1_23⟩
theorem ff0_11 : q_FF RX0 11 0 0 := ⟨RX0, TX0, 3, tyX0, rfl, by decide, us0, zw1_144, rfl, tyX0_ok, nmX0, rfl, rfl, by first | exact Or.inl ⟨_, rfl⟩ | exact Or.inr ⟨_, rfl⟩⟩
theorem fl0_11 : q_FL RX0 11 0 0 := ⟨RX0, TX0, 3, tyX0, rfl, by decide, us0, Or.inl zw1_144, rfl, tyX0_ok, nmX0⟩
theorem fl0_18 : q_FL RX0 18 0 1 := ⟨RX0, TX0, 3, tyX0, rfl, by decide, us0, Or.inl zw1_145, rfl, tyX0_ok, nmX0⟩
theorem lv0_22 : q_LV RX0 22 0 yX0_at cX0_at 2 (some (.object "TurningDishes$Table")) 1 := ⟨⟨zw2_235, zw2_237, zs_10, zw1_6, zw2_238⟩, ⟨by decide, by decide, by decide +kernel⟩, rfl, by decide, by decide⟩
theorem lv0_26 : q_LV RX0 26 4 yX4_become cX4_become 2 none 1 := ⟨⟨zw2_239, zw2_209, zw2_210, zw1_3, zw2_211⟩, ⟨by decide, by decide, by decide +kernel⟩, rfl, by decide, by decide⟩
theorem ls0_30 : q_LS RX0 30 yX7_leftOver cX7_leftOver 3 (some .int) 2 := ⟨⟨Or.inr ⟨RX7, List.mem_of_getElem? (i := 9) rfl⟩, zw3_1, zw1_1, zw3_2⟩, ⟨by decide, by decide, by decide +kernel⟩, by decide⟩
theorem fp0_18 : q_FP RX0 18 0 1 := ⟨RX0, TX0, 3, tyX0, rfl, by decide, us0, zw1_145, rfl, tyX0_ok, nmX0, rfl, rfl⟩
theorem fl0_34 : q_FL RX0 34 0 2 := ⟨RX0, TX0, 3, tyX0, rfl, by decide, us0, Or.inl zw1_146, rfl, tyX0_ok, nmX0⟩
theorem lm0_37 : q_LM RX0 37 Lib.Math.min.name Lib.Math.min.code 2 := ⟨zw3_3, zw2_9, zw1_10, zw2_10⟩
theorem fp0_34 : q_FP RX0 34 0 2 := ⟨RX0, TX0, 3, tyX0, rfl, by decide, us0, zw1_146, rfl, tyX0_ok, nmX0, rfl, rfl⟩
theorem lo1_3 : q_LO RX1 3 := ⟨zw1_179, zw1_22, zw1_23⟩
theorem ff1_9 : q_FF RX1 9 1 0 := ⟨RX1, TX1, 6, tyX1, rfl, by decide, us1, zw1_180, rfl, tyX1_ok, nmX1, rfl, rfl, by first | exact Or.inl ⟨_, rfl⟩ | exact Or.inr ⟨_, rfl⟩⟩
theorem fp1_15 : q_FP RX1 15 1 1 := ⟨RX1, TX1, 6, tyX1, rfl, by decide, us1, zw1_181, rfl, tyX1_ok, nmX1, rfl, rfl⟩
theorem fp1_19 : q_FP RX1 19 1 2 := ⟨RX1, TX1, 6, tyX1, rfl, by decide, us1, zw1_182, rfl, tyX1_ok, nmX1, rfl, rfl⟩
theorem lv1_24 : q_LV RX1 24 4 yX4_of cX4_of 4 (some .int) 2 := ⟨⟨zw4_2, zw3_10, zw3_11, zw1_3, zw3_12⟩, ⟨by decide, by decide, by decide +kernel⟩, rfl, by decide, by decide⟩
theorem fp1_28 : q_FP RX1 28 1 3 := ⟨RX1, TX1, 6, tyX1, rfl, by decide, us1, zw1_183, rfl, tyX1_ok, nmX1, rfl, rfl⟩
theorem fp1_31 : q_FP RX1 31 1 4 := ⟨RX1, TX1, 6, tyX1, rfl, by decide, us1, zw1_184, rfl, tyX1_ok, nmX1, rfl, rfl⟩
theorem fp1_34 : q_FP RX1 34 1 5 := ⟨RX1, TX1, 6, tyX1, rfl, by decide, us1, zw1_185, rfl, tyX1_ok, nmX1, rfl, rfl⟩
theorem fl1_15 : q_FL RX1 15 1 1 := ⟨RX1, TX1, 6, tyX1, rfl, by decide, us1, Or.inl zw1_181, rfl, tyX1_ok, nmX1⟩
theorem fl1_9 : q_FL RX1 9 1 0 := ⟨RX1, TX1, 6, tyX1, rfl, by decide, us1, Or.inl zw1_180, rfl, tyX1_ok, nmX1⟩
theorem zk1_37 : Cond.constant RX1 37 (-1000000) ∈ q_Z := zw4_63
theorem fl1_28 : q_FL RX1 28 1 3 := ⟨RX1, TX1, 6, tyX1, rfl, by decide, us1, Or.inl zw1_183, rfl, tyX1_ok, nmX1⟩
theorem lv1_38 : q_LV RX1 38 1 yX1_size12 cX1_size12 1 (some .int) 0 := ⟨⟨zw4_7, zw4_9, zs_19, zw1_8, zw4_10⟩, ⟨by decide, by decide, by decide +kernel⟩, rfl, by decide, by decide⟩
theorem lv1_42 : q_LV RX1 42 1 yX1_size13 cX1_size13 1 (some .int) 0 := ⟨⟨zw4_39, zw4_41, zs_27, zw1_8, zw4_42⟩, ⟨by decide, by decide, by decide +kernel⟩, rfl, by decide, by decide⟩
theorem lv1_45 : q_LV RX1 45 1 yX1_size14 cX1_size14 1 (some .int) 0 := ⟨⟨zw4_43, zw4_45, zs_28, zw1_8, zw4_46⟩, ⟨by decide, by decide, by decide +kernel⟩, rfl, by decide, by decide⟩
theorem lv1_48 : q_LV RX1 48 1 yX1_size11 cX1_size11 2 (some .int) 0 := ⟨⟨zw4_15, zw4_17, zs_21, zw1_8, zw4_18⟩, ⟨by decide, by decide, by decide +kernel⟩, rfl, by decide, by decide⟩
theorem lv1_51 : q_LV RX1 51 1 yX1_mark24 cX1_mark24 1 (some .int) 0 := ⟨⟨zw4_23, zw4_25, zs_23, zw1_8, zw4_26⟩, ⟨by decide, by decide, by decide +kernel⟩, rfl, by decide, by decide⟩
theorem lv1_54 : q_LV RX1 54 1 yX1_mark22 cX1_mark22 1 (some .int) 0 := ⟨⟨zw4_35, zw4_37, zs_26, zw1_8, zw4_38⟩, ⟨by decide, by decide, by decide +kernel⟩, rfl, by decide, by decide⟩
theorem lv1_57 : q_LV RX1 57 1 yX1_mark23 cX1_mark23 2 (some .int) 0 := ⟨⟨zw4_51, zw4_53, zs_29, zw1_8, zw4_54⟩, ⟨by decide, by decide, by decide +kernel⟩, rfl, by decide, by decide⟩
theorem lv1_60 : q_LV RX1 60 1 yX1_mark21 cX1_mark21 1 (some .int) 0 := ⟨⟨zw4_27, zw4_29, zs_24, zw1_8, zw4_30⟩, ⟨by decide, by decide, by decide +kernel⟩, rfl, by decide, by decide⟩
theorem lv1_63 : q_LV RX1 63 1 yX1_leave cX1_leave 2 none 1 := ⟨⟨zw4_11, zw4_13, zs_20, zw1_8, zw4_14⟩, ⟨by decide, by decide, by decide +kernel⟩, rfl, by decide, by decide⟩
theorem fl1_34 : q_FL RX1 34 1 5 := ⟨RX1, TX1, 6, tyX1, rfl, by decide, us1, Or.inl zw1_185, rfl, tyX1_ok, nmX1⟩
theorem lv1_67 : q_LV RX1 67 1 yX1_size10 cX1_size10 1 (some .int) 0 := ⟨⟨zw4_19, zw4_21, zs_22, zw1_8, zw4_22⟩, ⟨by decide, by decide, by decide +kernel⟩, rfl, by decide, by decide⟩
theorem fl1_19 : q_FL RX1 19 1 2 := ⟨RX1, TX1, 6, tyX1, rfl, by decide, us1, Or.inl zw1_182, rfl, tyX1_ok, nmX1⟩
theorem lv1_70 : q_LV RX1 70 1 yX1_mark20 cX1_mark20 1 (some .int) 0 := ⟨⟨zw4_31, zw4_33, zs_25, zw1_8, zw4_34⟩, ⟨by decide, by decide, by decide +kernel⟩, rfl, by decide, by decide⟩
theorem fl1_31 : q_FL RX1 31 1 4 := ⟨RX1, TX1, 6, tyX1, rfl, by decide, us1, Or.inl zw1_184, rfl, tyX1_ok, nmX1⟩
theorem lo2_3 : q_LO RX2 3 := ⟨zw1_160, zw1_22, zw1_23⟩
theorem ff2_12 : q_FF RX2 12 2 0 := ⟨RX2, TX2, 3, tyX2, rfl, by decide, us2, zw1_163, rfl, tyX2_ok, nmX2, rfl, rfl, by first | exact Or.inl ⟨_, rfl⟩ | exact Or.inr ⟨_, rfl⟩⟩
theorem ff2_18 : q_FF RX2 18 2 1 := ⟨RX2, TX2, 3, tyX2, rfl, by decide, us2, zw1_165, rfl, tyX2_ok, nmX2, rfl, rfl, by first | exact Or.inl ⟨_, rfl⟩ | exact Or.inr ⟨_, rfl⟩⟩
theorem ff2_22 : q_FF RX2 22 2 2 := ⟨RX2, TX2, 3, tyX2, rfl, by decide, us2, zw1_166, rfl, tyX2_ok, nmX2, rfl, rfl, by first | exact Or.inl ⟨_, rfl⟩ | exact Or.inr ⟨_, rfl⟩⟩
theorem fl2_12 : q_FL RX2 12 2 0 := ⟨RX2, TX2, 3, tyX2, rfl, by decide, us2, Or.inl zw1_163, rfl, tyX2_ok, nmX2⟩
theorem lv2_25 : q_LV RX2 25 4 yX4_become cX4_become 2 none 1 := ⟨⟨zw3_99, zw2_209, zw2_210, zw1_3, zw2_211⟩, ⟨by decide, by decide, by decide +kernel⟩, rfl, by decide, by decide⟩
theorem zk2_29 : Cond.constant RX2 29 (1000000) ∈ q_Z := zw3_100
theorem lv2_30 : q_LV RX2 30 2 yX2_passMinutes cX2_passMinutes 5 (some .int) 2 := ⟨⟨zw3_101, zw3_103, zs_13, zw1_7, zw3_104⟩, ⟨by decide, by decide, by decide +kernel⟩, rfl, by decide, by decide⟩
theorem lv2_34 : q_LV RX2 34 4 yX4_passMinute cX4_passMinute 2 none 0 := ⟨⟨zw3_105, zw3_5, zw3_6, zw1_3, zw3_7⟩, ⟨by decide, by decide, by decide +kernel⟩, rfl, by decide, by decide⟩
theorem fl2_37 : q_FL RX2 37 4 5 := ⟨RX4, TX4, 8, tyX4, rfl, by decide, us4, Or.inr ⟨RX7, List.mem_of_getElem? (i := 8) rfl⟩, rfl, tyX4_ok, nmX4⟩
theorem lv2_41 : q_LV RX2 41 4 yX4_swapSeats cX4_swapSeats 5 none 2 := ⟨⟨zw3_118, zw3_63, zw3_64, zw1_3, zw3_65⟩, ⟨by decide, by decide, by decide +kernel⟩, rfl, by decide, by decide⟩
theorem lv2_45 : q_LV RX2 45 4 yX4_of cX4_of 4 (some .int) 2 := ⟨⟨zw3_119, zw3_10, zw3_11, zw1_3, zw3_12⟩, ⟨by decide, by decide, by decide +kernel⟩, rfl, by decide, by decide⟩
theorem fl2_48 : q_FL RX2 48 4 1 := ⟨RX4, TX4, 8, tyX4, rfl, by decide, us4, Or.inr ⟨RX7, List.mem_of_getElem? (i := 3) rfl⟩, rfl, tyX4_ok, nmX4⟩
theorem lv2_51 : q_LV RX2 51 2 yX2_eatsSeatedAs cX2_eatsSeatedAs 5 (some .int) 4 := ⟨⟨zw3_210, zw3_115, zw3_116, zw1_7, zw3_117⟩, ⟨by decide, by decide, by decide +kernel⟩, rfl, by decide, by decide⟩
theorem fl2_55 : q_FL RX2 55 4 7 := ⟨RX4, TX4, 8, tyX4, rfl, by decide, us4, Or.inr ⟨RX7, List.mem_of_getElem? (i := 10) rfl⟩, rfl, tyX4_ok, nmX4⟩
theorem fl2_58 : q_FL RX2 58 4 6 := ⟨RX4, TX4, 8, tyX4, rfl, by decide, us4, Or.inr ⟨RX7, List.mem_of_getElem? (i := 9) rfl⟩, rfl, tyX4_ok, nmX4⟩
theorem zk2_61 : Cond.constant RX2 61 (-1000000) ∈ q_Z := zw3_128
theorem ls2_62 : q_LS RX2 62 yX2_toTheRightForOthers cX2_toTheRightForOthers 6 (some .int) 2 := ⟨⟨Or.inl zw3_154, zw3_155, zw1_7, zw3_156⟩, ⟨by decide, by decide, by decide +kernel⟩, by decide⟩
theorem lm2_66 : q_LM RX2 66 Lib.Math.min.name Lib.Math.min.code 2 := ⟨zw3_160, zw2_9, zw1_10, zw2_10⟩
theorem lv2_71 : q_LV RX2 71 4 yX4_toTheLeft cX4_toTheLeft 3 (some .int) 2 := ⟨⟨zw3_157, zw3_23, zw3_24, zw1_3, zw3_25⟩, ⟨by decide, by decide, by decide +kernel⟩, rfl, by decide, by decide⟩
theorem lv2_74 : q_LV RX2 74 4 yX4_has cX4_has 2 (some .boolean) 1 := ⟨⟨zw3_158, zw3_18, zw3_19, zw1_3, zw3_20⟩, ⟨by decide, by decide, by decide +kernel⟩, rfl, by decide, by decide⟩
theorem lm2_78 : q_LM RX2 78 Lib.Math.max.name Lib.Math.max.code 2 := ⟨zw3_159, zw2_12, zw1_10, zw2_13⟩
theorem fl2_18 : q_FL RX2 18 2 1 := ⟨RX2, TX2, 3, tyX2, rfl, by decide, us2, Or.inl zw1_165, rfl, tyX2_ok, nmX2⟩
theorem lv2_81 : q_LV RX2 81 2 yX2_layAsTried cX2_layAsTried 2 none 0 := ⟨⟨zw3_169, zw3_171, zs_14, zw1_7, zw3_172⟩, ⟨by decide, by decide, by decide +kernel⟩, rfl, by decide, by decide⟩
theorem fl2_22 : q_FL RX2 22 2 2 := ⟨RX2, TX2, 3, tyX2, rfl, by decide, us2, Or.inl zw1_166, rfl, tyX2_ok, nmX2⟩
theorem ly2_84 : q_LY RX2 84 := ⟨zw3_174, zw2_49, zw2_48, zw1_11⟩
theorem lv2_90 : q_LV RX2 90 2 yX2_toNextOrder cX2_toNextOrder 6 (some .boolean) 1 := ⟨⟨zw3_175, zw3_177, zs_15, zw1_7, zw3_178⟩, ⟨by decide, by decide, by decide +kernel⟩, rfl, by decide, by decide⟩
theorem lv2_93 : q_LV RX2 93 4 yX4_layIn cX4_layIn 3 none 2 := ⟨⟨zw3_173, zw2_194, zw2_195, zw1_3, zw2_196⟩, ⟨by decide, by decide, by decide +kernel⟩, rfl, by decide, by decide⟩
theorem lv2_96 : q_LV RX2 96 2 yX2_swapTried cX2_swapTried 4 none 2 := ⟨⟨zw3_179, zw3_181, zs_16, zw1_7, zw3_182⟩, ⟨by decide, by decide, by decide +kernel⟩, rfl, by decide, by decide⟩
theorem ls2_99 : q_LS RX2 99 yX7_within cX7_within 3 (some .boolean) 3 := ⟨⟨Or.inr ⟨RX7, List.mem_of_getElem? (i := 11) rfl⟩, zw1_236, zw1_1, zw1_237⟩, ⟨by decide, by decide, by decide +kernel⟩, by decide⟩
theorem lv2_103 : q_LV RX2 103 4 yX4_put cX4_put 5 none 3 := ⟨⟨zw3_196, zw2_190, zw2_191, zw1_3, zw2_192⟩, ⟨by decide, by decide, by decide +kernel⟩, rfl, by decide, by decide⟩
theorem lv2_107 : q_LV RX2 107 2 yX2_isLeft cX2_isLeft 4 (some .boolean) 2 := ⟨⟨zw3_197, zw3_199, zs_17, zw1_7, zw3_200⟩, ⟨by decide, by decide, by decide +kernel⟩, rfl, by decide, by decide⟩
theorem lv2_111 : q_LV RX2 111 3 yX3_item cX3_item 2 (some .int) 1 := ⟨⟨zw3_201, zw2_35, zw2_36, zw1_2, zw2_37⟩, ⟨by decide, by decide, by decide +kernel⟩, rfl, by decide, by decide⟩
theorem lo3_3 : q_LO RX3 3 := ⟨zw1_30, zw1_22, zw1_23⟩
theorem ff3_9 : q_FF RX3 9 3 0 := ⟨RX3, TX3, 3, tyX3, rfl, by decide, us3, zw1_31, rfl, tyX3_ok, nmX3, rfl, rfl, by first | exact Or.inl ⟨_, rfl⟩ | exact Or.inr ⟨_, rfl⟩⟩
theorem fp3_15 : q_FP RX3 15 3 1 := ⟨RX3, TX3, 3, tyX3, rfl, by decide, us3, zw1_32, rfl, tyX3_ok, nmX3, rfl, rfl⟩
theorem fl3_15 : q_FL RX3 15 3 1 := ⟨RX3, TX3, 3, tyX3, rfl, by decide, us3, Or.inl zw1_32, rfl, tyX3_ok, nmX3⟩
theorem fl3_9 : q_FL RX3 9 3 0 := ⟨RX3, TX3, 3, tyX3, rfl, by decide, us3, Or.inl zw1_31, rfl, tyX3_ok, nmX3⟩
theorem lm3_19 : q_LM RX3 19 Lib.Math.min.name Lib.Math.min.code 2 := ⟨zw2_8, zw2_9, zw1_10, zw2_10⟩
theorem lm3_25 : q_LM RX3 25 Lib.Math.max.name Lib.Math.max.code 2 := ⟨zw2_11, zw2_12, zw1_10, zw2_13⟩
theorem fp3_28 : q_FP RX3 28 3 2 := ⟨RX3, TX3, 3, tyX3, rfl, by decide, us3, zw1_34, rfl, tyX3_ok, nmX3, rfl, rfl⟩
theorem fl3_28 : q_FL RX3 28 3 2 := ⟨RX3, TX3, 3, tyX3, rfl, by decide, us3, Or.inl zw1_34, rfl, tyX3_ok, nmX3⟩
theorem lv3_31 : q_LV RX3 31 3 yX3_hasPlaces cX3_hasPlaces 3 (some .boolean) 2 := ⟨⟨zw2_46, zw2_27, zw2_28, zw1_2, zw2_29⟩, ⟨by decide, by decide, by decide +kernel⟩, rfl, by decide, by decide⟩
theorem ly3_35 : q_LY RX3 35 := ⟨zw2_47, zw2_49, zw2_48, zw1_11⟩
theorem lo4_3 : q_LO RX4 3 := ⟨zw1_50, zw1_22, zw1_23⟩
theorem ff4_11 : q_FF RX4 11 4 0 := ⟨RX4, TX4, 8, tyX4, rfl, by decide, us4, zw1_51, rfl, tyX4_ok, nmX4, rfl, rfl, by first | exact Or.inl ⟨_, rfl⟩ | exact Or.inr ⟨_, rfl⟩⟩
theorem fl4_11 : q_FL RX4 11 4 0 := ⟨RX4, TX4, 8, tyX4, rfl, by decide, us4, Or.inl zw1_51, rfl, tyX4_ok, nmX4⟩
theorem lv4_15 : q_LV RX4 15 4 yX4_of cX4_of 4 (some .int) 2 := ⟨⟨zw3_9, zw3_10, zw3_11, zw1_3, zw3_12⟩, ⟨by decide, by decide, by decide +kernel⟩, rfl, by decide, by decide⟩
theorem lv4_19 : q_LV RX4 19 4 yX4_put cX4_put 5 none 3 := ⟨⟨zw2_189, zw2_190, zw2_191, zw1_3, zw2_192⟩, ⟨by decide, by decide, by decide +kernel⟩, rfl, by decide, by decide⟩
theorem fl4_23 : q_FL RX4 23 4 1 := ⟨RX4, TX4, 8, tyX4, rfl, by decide, us4, Or.inl zw1_53, rfl, tyX4_ok, nmX4⟩
theorem fp4_23 : q_FP RX4 23 4 1 := ⟨RX4, TX4, 8, tyX4, rfl, by decide, us4, zw1_53, rfl, tyX4_ok, nmX4, rfl, rfl⟩
theorem fp4_27 : q_FP RX4 27 4 2 := ⟨RX4, TX4, 8, tyX4, rfl, by decide, us4, zw1_56, rfl, tyX4_ok, nmX4, rfl, rfl⟩
theorem fp4_30 : q_FP RX4 30 4 3 := ⟨RX4, TX4, 8, tyX4, rfl, by decide, us4, zw1_58, rfl, tyX4_ok, nmX4, rfl, rfl⟩
theorem ly4_33 : q_LY RX4 33 := ⟨zw2_212, zw2_49, zw2_48, zw1_11⟩
theorem fl4_27 : q_FL RX4 27 4 2 := ⟨RX4, TX4, 8, tyX4, rfl, by decide, us4, Or.inl zw1_56, rfl, tyX4_ok, nmX4⟩
theorem fl4_30 : q_FL RX4 30 4 3 := ⟨RX4, TX4, 8, tyX4, rfl, by decide, us4, Or.inl zw1_58, rfl, tyX4_ok, nmX4⟩
theorem lv4_39 : q_LV RX4 39 4 yX4_layIn cX4_layIn 3 none 2 := ⟨⟨zw2_193, zw2_194, zw2_195, zw1_3, zw2_196⟩, ⟨by decide, by decide, by decide +kernel⟩, rfl, by decide, by decide⟩
theorem ls4_43 : q_LS RX4 43 yX7_leftOver cX7_leftOver 3 (some .int) 2 := ⟨⟨Or.inr ⟨RX7, List.mem_of_getElem? (i := 10) rfl⟩, zw3_1, zw1_1, zw3_2⟩, ⟨by decide, by decide, by decide +kernel⟩, by decide⟩
theorem fp4_46 : q_FP RX4 46 4 4 := ⟨RX4, TX4, 8, tyX4, rfl, by decide, us4, zw1_60, rfl, tyX4_ok, nmX4, rfl, rfl⟩
theorem fl4_46 : q_FL RX4 46 4 4 := ⟨RX4, TX4, 8, tyX4, rfl, by decide, us4, Or.inl zw1_60, rfl, tyX4_ok, nmX4⟩
theorem lv4_49 : q_LV RX4 49 4 yX4_pushBy cX4_pushBy 7 (some .int) 1 := ⟨⟨zw3_13, zw3_15, zs_11, zw1_3, zw3_16⟩, ⟨by decide, by decide, by decide +kernel⟩, rfl, by decide, by decide⟩
theorem lm4_53 : q_LM RX4 53 Lib.Math.abs.name Lib.Math.abs.code 1 := ⟨zw3_27, zw3_28, zw1_10, zw3_29⟩
theorem fp4_58 : q_FP RX4 58 4 5 := ⟨RX4, TX4, 8, tyX4, rfl, by decide, us4, zw1_63, rfl, tyX4_ok, nmX4, rfl, rfl⟩
theorem lv4_61 : q_LV RX4 61 4 yX4_turnLeft cX4_turnLeft 2 none 1 := ⟨⟨zw3_30, zw3_31, zw3_32, zw1_3, zw3_33⟩, ⟨by decide, by decide, by decide +kernel⟩, rfl, by decide, by decide⟩
theorem lv4_65 : q_LV RX4 65 4 yX4_dishBefore cX4_dishBefore 2 (some .int) 1 := ⟨⟨zw3_34, zw3_35, zw3_36, zw1_3, zw3_37⟩, ⟨by decide, by decide, by decide +kernel⟩, rfl, by decide, by decide⟩
theorem fp4_68 : q_FP RX4 68 4 6 := ⟨RX4, TX4, 8, tyX4, rfl, by decide, us4, zw1_65, rfl, tyX4_ok, nmX4, rfl, rfl⟩
theorem fl4_68 : q_FL RX4 68 4 6 := ⟨RX4, TX4, 8, tyX4, rfl, by decide, us4, Or.inl zw1_65, rfl, tyX4_ok, nmX4⟩
theorem lv4_71 : q_LV RX4 71 4 yX4_biteOf cX4_biteOf 6 (some .int) 2 := ⟨⟨zw3_38, zw3_40, zs_12, zw1_3, zw3_41⟩, ⟨by decide, by decide, by decide +kernel⟩, rfl, by decide, by decide⟩
theorem fp4_74 : q_FP RX4 74 4 7 := ⟨RX4, TX4, 8, tyX4, rfl, by decide, us4, zw1_67, rfl, tyX4_ok, nmX4, rfl, rfl⟩
theorem fl4_74 : q_FL RX4 74 4 7 := ⟨RX4, TX4, 8, tyX4, rfl, by decide, us4, Or.inl zw1_67, rfl, tyX4_ok, nmX4⟩
theorem lv4_77 : q_LV RX4 77 4 yX4_add cX4_add 4 none 3 := ⟨⟨zw3_42, zw3_43, zw3_44, zw1_3, zw3_45⟩, ⟨by decide, by decide, by decide +kernel⟩, rfl, by decide, by decide⟩
theorem lv4_80 : q_LV RX4 80 4 yX4_has cX4_has 2 (some .boolean) 1 := ⟨⟨zw3_17, zw3_18, zw3_19, zw1_3, zw3_20⟩, ⟨by decide, by decide, by decide +kernel⟩, rfl, by decide, by decide⟩
theorem lm4_84 : q_LM RX4 84 Lib.Math.max.name Lib.Math.max.code 2 := ⟨zw3_21, zw2_12, zw1_10, zw2_13⟩
theorem lv4_87 : q_LV RX4 87 4 yX4_toTheLeft cX4_toTheLeft 3 (some .int) 2 := ⟨⟨zw3_22, zw3_23, zw3_24, zw1_3, zw3_25⟩, ⟨by decide, by decide, by decide +kernel⟩, rfl, by decide, by decide⟩
theorem lm4_90 : q_LM RX4 90 Lib.Math.min.name Lib.Math.min.code 2 := ⟨zw3_26, zw2_9, zw1_10, zw2_10⟩
theorem lo5_3 : q_LO RX5 3 := ⟨zw1_90, zw1_22, zw1_23⟩
theorem ff5_12 : q_FF RX5 12 5 0 := ⟨RX5, TX5, 8, tyX5, rfl, by decide, us5, zw1_107, rfl, tyX5_ok, nmX5, rfl, rfl, by first | exact Or.inl ⟨_, rfl⟩ | exact Or.inr ⟨_, rfl⟩⟩
theorem ff5_21 : q_FF RX5 21 5 1 := ⟨RX5, TX5, 8, tyX5, rfl, by decide, us5, zw1_109, rfl, tyX5_ok, nmX5, rfl, rfl, by first | exact Or.inl ⟨_, rfl⟩ | exact Or.inr ⟨_, rfl⟩⟩
theorem fl5_21 : q_FL RX5 21 5 1 := ⟨RX5, TX5, 8, tyX5, rfl, by decide, us5, Or.inl zw1_109, rfl, tyX5_ok, nmX5⟩
theorem lv5_25 : q_LV RX5 25 4 yX4_clear cX4_clear 2 none 0 := ⟨⟨zw2_75, zw2_76, zw2_77, zw1_3, zw2_78⟩, ⟨by decide, by decide, by decide +kernel⟩, rfl, by decide, by decide⟩
theorem fp5_28 : q_FP RX5 28 5 4 := ⟨RX5, TX5, 8, tyX5, rfl, by decide, us5, zw1_114, rfl, tyX5_ok, nmX5, rfl, rfl⟩
theorem fp5_32 : q_FP RX5 32 5 6 := ⟨RX5, TX5, 8, tyX5, rfl, by decide, us5, zw1_116, rfl, tyX5_ok, nmX5, rfl, rfl⟩
theorem lv5_35 : q_LV RX5 35 5 yX5_next cX5_next 2 none 0 := ⟨⟨zw2_79, zw2_81, zs_3, zw1_4, zw2_82⟩, ⟨by decide, by decide, by decide +kernel⟩, rfl, by decide, by decide⟩
theorem lv5_40 : q_LV RX5 40 5 yX5_isWord cX5_isWord 3 (some .boolean) 1 := ⟨⟨zw2_116, zw2_118, zs_5, zw1_4, zw2_119⟩, ⟨by decide, by decide, by decide +kernel⟩, rfl, by decide, by decide⟩
theorem fp5_44 : q_FP RX5 44 5 7 := ⟨RX5, TX5, 8, tyX5, rfl, by decide, us5, zw1_117, rfl, tyX5_ok, nmX5, rfl, rfl⟩
theorem fl5_44 : q_FL RX5 44 5 7 := ⟨RX5, TX5, 8, tyX5, rfl, by decide, us5, Or.inl zw1_117, rfl, tyX5_ok, nmX5⟩
theorem lv5_47 : q_LV RX5 47 5 yX5_readGuest cX5_readGuest 3 none 0 := ⟨⟨zw2_168, zw2_170, zs_6, zw1_4, zw2_171⟩, ⟨by decide, by decide, by decide +kernel⟩, rfl, by decide, by decide⟩
theorem lv5_52 : q_LV RX5 52 5 yX5_readDish cX5_readDish 2 none 0 := ⟨⟨zw2_198, zw2_200, zs_9, zw1_4, zw2_201⟩, ⟨by decide, by decide, by decide +kernel⟩, rfl, by decide, by decide⟩
theorem fl5_55 : q_FL RX5 55 5 2 := ⟨RX5, TX5, 8, tyX5, rfl, by decide, us5, Or.inl zw1_111, rfl, tyX5_ok, nmX5⟩
theorem fl5_58 : q_FL RX5 58 4 1 := ⟨RX4, TX4, 8, tyX4, rfl, by decide, us4, Or.inr ⟨RX7, List.mem_of_getElem? (i := 2) rfl⟩, rfl, tyX4_ok, nmX4⟩
theorem lv5_61 : q_LV RX5 61 5 yX5_sortNamed cX5_sortNamed 1 (some .int) 0 := ⟨⟨zw2_172, zw2_174, zs_7, zw1_4, zw2_175⟩, ⟨by decide, by decide, by decide +kernel⟩, rfl, by decide, by decide⟩
theorem lv5_65 : q_LV RX5 65 5 yX5_readNumberAndEnd cX5_readNumberAndEnd 3 (some .int) 1 := ⟨⟨zw2_181, zw2_183, zs_8, zw1_4, zw2_184⟩, ⟨by decide, by decide, by decide +kernel⟩, rfl, by decide, by decide⟩
theorem lv5_69 : q_LV RX5 69 4 yX4_seat cX4_seat 3 none 2 := ⟨⟨zw2_185, zw2_186, zw2_187, zw1_3, zw2_188⟩, ⟨by decide, by decide, by decide +kernel⟩, rfl, by decide, by decide⟩
theorem fl5_32 : q_FL RX5 32 5 6 := ⟨RX5, TX5, 8, tyX5, rfl, by decide, us5, Or.inl zw1_116, rfl, tyX5_ok, nmX5⟩
theorem lv5_73 : q_LV RX5 73 4 yX4_put cX4_put 5 none 3 := ⟨⟨zw2_202, zw2_190, zw2_191, zw1_3, zw2_192⟩, ⟨by decide, by decide, by decide +kernel⟩, rfl, by decide, by decide⟩
theorem fl5_77 : q_FL RX5 77 5 5 := ⟨RX5, TX5, 8, tyX5, rfl, by decide, us5, Or.inl zw1_115, rfl, tyX5_ok, nmX5⟩
theorem fl5_28 : q_FL RX5 28 5 4 := ⟨RX5, TX5, 8, tyX5, rfl, by decide, us5, Or.inl zw1_114, rfl, tyX5_ok, nmX5⟩
theorem fl5_90 : q_FL RX5 90 5 3 := ⟨RX5, TX5, 8, tyX5, rfl, by decide, us5, Or.inl zw1_112, rfl, tyX5_ok, nmX5⟩
theorem fl5_12 : q_FL RX5 12 5 0 := ⟨RX5, TX5, 8, tyX5, rfl, by decide, us5, Or.inl zw1_107, rfl, tyX5_ok, nmX5⟩
theorem lv5_98 : q_LV RX5 98 6 yX6_at cX6_at 2 (some .int) 1 := ⟨⟨zw2_94, zw2_88, zw2_89, zw1_5, zw2_90⟩, ⟨by decide, by decide, by decide +kernel⟩, rfl, by decide, by decide⟩
theorem lv5_105 : q_LV RX5 105 6 yX6_endOfBlanks cX6_endOfBlanks 3 (some .int) 1 := ⟨⟨zw2_83, zw2_84, zw2_85, zw1_5, zw2_86⟩, ⟨by decide, by decide, by decide +kernel⟩, rfl, by decide, by decide⟩
theorem fp5_90 : q_FP RX5 90 5 3 := ⟨RX5, TX5, 8, tyX5, rfl, by decide, us5, zw1_112, rfl, tyX5_ok, nmX5, rfl, rfl⟩
theorem fp5_55 : q_FP RX5 55 5 2 := ⟨RX5, TX5, 8, tyX5, rfl, by decide, us5, zw1_111, rfl, tyX5_ok, nmX5, rfl, rfl⟩
theorem ls5_108 : q_LS RX5 108 yX6_isLetter cX6_isLetter 1 (some .boolean) 1 := ⟨⟨Or.inl zw2_95, zw2_96, zw1_5, zw2_97⟩, ⟨by decide, by decide, by decide +kernel⟩, by decide⟩
theorem lv5_112 : q_LV RX5 112 6 yX6_endOfLetters cX6_endOfLetters 3 (some .int) 1 := ⟨⟨zw2_98, zw2_99, zw2_100, zw1_5, zw2_101⟩, ⟨by decide, by decide, by decide +kernel⟩, rfl, by decide, by decide⟩
theorem ls5_115 : q_LS RX5 115 yX6_isFigure cX6_isFigure 1 (some .boolean) 1 := ⟨⟨Or.inl zw2_103, zw2_104, zw1_5, zw2_105⟩, ⟨by decide, by decide, by decide +kernel⟩, by decide⟩
theorem lv5_118 : q_LV RX5 118 6 yX6_endOfFigures cX6_endOfFigures 3 (some .int) 1 := ⟨⟨zw2_106, zw2_107, zw2_108, zw1_5, zw2_109⟩, ⟨by decide, by decide, by decide +kernel⟩, rfl, by decide, by decide⟩
theorem lv5_121 : q_LV RX5 121 5 yX5_valueOfFigures cX5_valueOfFigures 3 (some .int) 0 := ⟨⟨zw2_111, zw2_113, zs_4, zw1_4, zw2_114⟩, ⟨by decide, by decide, by decide +kernel⟩, rfl, by decide, by decide⟩
theorem fp5_77 : q_FP RX5 77 5 5 := ⟨RX5, TX5, 8, tyX5, rfl, by decide, us5, zw1_115, rfl, tyX5_ok, nmX5, rfl, rfl⟩
theorem lo6_3 : q_LO RX6 3 := ⟨zw1_96, zw1_22, zw1_23⟩
theorem ff6_9 : q_FF RX6 9 6 0 := ⟨RX6, TX6, 2, tyX6, rfl, by decide, us6, zw1_97, rfl, tyX6_ok, nmX6, rfl, rfl, by first | exact Or.inl ⟨_, rfl⟩ | exact Or.inr ⟨_, rfl⟩⟩
theorem fl6_15 : q_FL RX6 15 6 1 := ⟨RX6, TX6, 2, tyX6, rfl, by decide, us6, Or.inl zw1_98, rfl, tyX6_ok, nmX6⟩
theorem fl6_9 : q_FL RX6 9 6 0 := ⟨RX6, TX6, 2, tyX6, rfl, by decide, us6, Or.inl zw1_97, rfl, tyX6_ok, nmX6⟩
theorem fp6_15 : q_FP RX6 15 6 1 := ⟨RX6, TX6, 2, tyX6, rfl, by decide, us6, zw1_98, rfl, tyX6_ok, nmX6, rfl, rfl⟩
theorem lv6_19 : q_LV RX6 19 6 yX6_at cX6_at 2 (some .int) 1 := ⟨⟨zw2_87, zw2_88, zw2_89, zw1_5, zw2_90⟩, ⟨by decide, by decide, by decide +kernel⟩, rfl, by decide, by decide⟩
theorem ls6_23 : q_LS RX6 23 yX6_isBlank cX6_isBlank 1 (some .boolean) 1 := ⟨⟨Or.inl zw2_91, zw2_92, zw1_5, zw2_93⟩, ⟨by decide, by decide, by decide +kernel⟩, by decide⟩
theorem ls6_27 : q_LS RX6 27 yX6_isLetter cX6_isLetter 1 (some .boolean) 1 := ⟨⟨Or.inl zw2_102, zw2_96, zw1_5, zw2_97⟩, ⟨by decide, by decide, by decide +kernel⟩, by decide⟩
theorem ls6_30 : q_LS RX6 30 yX6_isFigure cX6_isFigure 1 (some .boolean) 1 := ⟨⟨Or.inl zw2_110, zw2_104, zw1_5, zw2_105⟩, ⟨by decide, by decide, by decide +kernel⟩, by decide⟩
theorem lo7_1 : q_LO RX7 1 := ⟨zw1_21, zw1_22, zw1_23⟩
theorem ff7_11 : q_FF RX7 11 7 0 := ⟨RX7, TX7, 9, tyX7, rfl, by decide, us7, zw1_199, rfl, tyX7_ok, nmX7, rfl, rfl, by first | exact Or.inl ⟨_, rfl⟩ | exact Or.inr ⟨_, rfl⟩⟩
theorem fl7_11 : q_FL RX7 11 7 0 := ⟨RX7, TX7, 9, tyX7, rfl, by decide, us7, Or.inl zw1_199, rfl, tyX7_ok, nmX7⟩
theorem ff7_18 : q_FF RX7 18 7 4 := ⟨RX7, TX7, 9, tyX7, rfl, by decide, us7, zw1_203, rfl, tyX7_ok, nmX7, rfl, rfl, by first | exact Or.inl ⟨_, rfl⟩ | exact Or.inr ⟨_, rfl⟩⟩
theorem fl7_18 : q_FL RX7 18 7 4 := ⟨RX7, TX7, 9, tyX7, rfl, by decide, us7, Or.inl zw1_203, rfl, tyX7_ok, nmX7⟩
theorem ff7_26 : q_FF RX7 26 7 1 := ⟨RX7, TX7, 9, tyX7, rfl, by decide, us7, zw1_200, rfl, tyX7_ok, nmX7, rfl, rfl, by first | exact Or.inl ⟨_, rfl⟩ | exact Or.inr ⟨_, rfl⟩⟩
theorem ff7_30 : q_FF RX7 30 7 2 := ⟨RX7, TX7, 9, tyX7, rfl, by decide, us7, zw1_201, rfl, tyX7_ok, nmX7, rfl, rfl, by first | exact Or.inl ⟨_, rfl⟩ | exact Or.inr ⟨_, rfl⟩⟩
theorem ff7_37 : q_FF RX7 37 7 3 := ⟨RX7, TX7, 9, tyX7, rfl, by decide, us7, zw1_202, rfl, tyX7_ok, nmX7, rfl, rfl, by first | exact Or.inl ⟨_, rfl⟩ | exact Or.inr ⟨_, rfl⟩⟩
theorem ff7_44 : q_FF RX7 44 7 5 := ⟨RX7, TX7, 9, tyX7, rfl, by decide, us7, zw1_204, rfl, tyX7_ok, nmX7, rfl, rfl, by first | exact Or.inl ⟨_, rfl⟩ | exact Or.inr ⟨_, rfl⟩⟩
theorem ff7_51 : q_FF RX7 51 7 6 := ⟨RX7, TX7, 9, tyX7, rfl, by decide, us7, zw1_205, rfl, tyX7_ok, nmX7, rfl, rfl, by first | exact Or.inl ⟨_, rfl⟩ | exact Or.inr ⟨_, rfl⟩⟩
theorem lv7_55 : q_LV RX7 55 7 yX7_rowAt cX7_rowAt 2 (some (.object "TurningDishes$Row")) 1 := ⟨⟨zw1_231, zw1_233, zs_0, zw1_1, zw1_234⟩, ⟨by decide, by decide, by decide +kernel⟩, rfl, by decide, by decide⟩
theorem ls7_59 : q_LS RX7 59 yX7_within cX7_within 3 (some .boolean) 3 := ⟨⟨Or.inl zw1_235, zw1_236, zw1_1, zw1_237⟩, ⟨by decide, by decide, by decide +kernel⟩, by decide⟩
theorem zk7_63 : Cond.constant RX7 63 (-1000001) ∈ q_Z := zw1_238
theorem lv7_64 : q_LV RX7 64 7 yX7_found cX7_found 2 (some .int) 1 := ⟨⟨zw1_239, zw2_1, zs_1, zw1_1, zw2_2⟩, ⟨by decide, by decide, by decide +kernel⟩, rfl, by decide, by decide⟩
theorem lv7_68 : q_LV RX7 68 3 yX3_begin cX3_begin 4 none 2 := ⟨⟨zw2_4, zw2_5, zw2_6, zw1_2, zw2_7⟩, ⟨by decide, by decide, by decide +kernel⟩, rfl, by decide, by decide⟩
theorem lv7_72 : q_LV RX7 72 7 yX7_fine cX7_fine 2 (some .int) 1 := ⟨⟨zw2_14, zw2_16, zs_2, zw1_1, zw2_17⟩, ⟨by decide, by decide, by decide +kernel⟩, rfl, by decide, by decide⟩
theorem lv7_75 : q_LV RX7 75 3 yX3_isMissing cX3_isMissing 1 (some .boolean) 0 := ⟨⟨zw2_22, zw2_23, zw2_24, zw1_2, zw2_25⟩, ⟨by decide, by decide, by decide +kernel⟩, rfl, by decide, by decide⟩
theorem lv7_79 : q_LV RX7 79 3 yX3_hasPlaces cX3_hasPlaces 3 (some .boolean) 2 := ⟨⟨zw2_26, zw2_27, zw2_28, zw1_2, zw2_29⟩, ⟨by decide, by decide, by decide +kernel⟩, rfl, by decide, by decide⟩
theorem lv7_83 : q_LV RX7 83 3 yX3_store cX3_store 3 none 2 := ⟨⟨zw2_30, zw2_31, zw2_32, zw1_2, zw2_33⟩, ⟨by decide, by decide, by decide +kernel⟩, rfl, by decide, by decide⟩
theorem lv7_86 : q_LV RX7 86 3 yX3_item cX3_item 2 (some .int) 1 := ⟨⟨zw2_34, zw2_35, zw2_36, zw1_2, zw2_37⟩, ⟨by decide, by decide, by decide +kernel⟩, rfl, by decide, by decide⟩
theorem fl7_89 : q_FL RX7 89 3 1 := ⟨RX3, TX3, 3, tyX3, rfl, by decide, us3, Or.inr ⟨RX7, List.mem_of_getElem? (i := 0) rfl⟩, rfl, tyX3_ok, nmX3⟩
theorem lv7_93 : q_LV RX7 93 3 yX3_take cX3_take 5 none 4 := ⟨⟨zw2_42, zw2_43, zw2_44, zw1_2, zw2_45⟩, ⟨by decide, by decide, by decide +kernel⟩, rfl, by decide, by decide⟩
theorem fl7_97 : q_FL RX7 97 3 2 := ⟨RX3, TX3, 3, tyX3, rfl, by decide, us3, Or.inr ⟨RX7, List.mem_of_getElem? (i := 1) rfl⟩, rfl, tyX3_ok, nmX3⟩
theorem lv7_100 : q_LV RX7 100 3 yX3_end cX3_end 1 none 0 := ⟨⟨zw2_54, zw2_55, zw2_56, zw1_2, zw2_57⟩, ⟨by decide, by decide, by decide +kernel⟩, rfl, by decide, by decide⟩
theorem fl7_26 : q_FL RX7 26 7 1 := ⟨RX7, TX7, 9, tyX7, rfl, by decide, us7, Or.inl zw1_200, rfl, tyX7_ok, nmX7⟩
theorem fl7_103 : q_FL RX7 103 5 0 := ⟨RX5, TX5, 8, tyX5, rfl, by decide, us5, Or.inr ⟨RX7, List.mem_of_getElem? (i := 12) rfl⟩, rfl, tyX5_ok, nmX5⟩
theorem fl7_107 : q_FL RX7 107 6 1 := ⟨RX6, TX6, 2, tyX6, rfl, by decide, us6, Or.inr ⟨RX7, List.mem_of_getElem? (i := 11) rfl⟩, rfl, tyX6_ok, nmX6⟩
theorem zk7_110 : Cond.constant RX7 110 (-1000003) ∈ q_Z := zw2_62
theorem lv7_111 : q_LV RX7 111 6 yX6_add cX6_add 2 none 1 := ⟨⟨zw2_63, zw2_64, zw2_65, zw1_5, zw2_66⟩, ⟨by decide, by decide, by decide +kernel⟩, rfl, by decide, by decide⟩
theorem lv7_115 : q_LV RX7 115 5 yX5_read cX5_read 2 none 0 := ⟨⟨zw2_71, zw2_72, zw2_73, zw1_4, zw2_74⟩, ⟨by decide, by decide, by decide +kernel⟩, rfl, by decide, by decide⟩
theorem lv7_118 : q_LV RX7 118 6 yX6_clear cX6_clear 1 none 0 := ⟨⟨zw2_203, zw2_204, zw2_205, zw1_5, zw2_206⟩, ⟨by decide, by decide, by decide +kernel⟩, rfl, by decide, by decide⟩
theorem fl7_121 : q_FL RX7 121 5 7 := ⟨RX5, TX5, 8, tyX5, rfl, by decide, us5, Or.inr ⟨RX7, List.mem_of_getElem? (i := 15) rfl⟩, rfl, tyX5_ok, nmX5⟩
theorem fp7_124 : q_FP RX7 124 7 7 := ⟨RX7, TX7, 9, tyX7, rfl, by decide, us7, zw1_206, rfl, tyX7_ok, nmX7, rfl, rfl⟩
theorem zk7_127 : Cond.constant RX7 127 (-1000100) ∈ q_Z := zw2_207
theorem fl7_128 : q_FL RX7 128 5 3 := ⟨RX5, TX5, 8, tyX5, rfl, by decide, us5, Or.inr ⟨RX7, List.mem_of_getElem? (i := 14) rfl⟩, rfl, tyX5_ok, nmX5⟩
theorem fl7_30 : q_FL RX7 30 7 2 := ⟨RX7, TX7, 9, tyX7, rfl, by decide, us7, Or.inl zw1_201, rfl, tyX7_ok, nmX7⟩
theorem fl7_131 : q_FL RX7 131 5 1 := ⟨RX5, TX5, 8, tyX5, rfl, by decide, us5, Or.inr ⟨RX7, List.mem_of_getElem? (i := 13) rfl⟩, rfl, tyX5_ok, nmX5⟩
theorem lv7_134 : q_LV RX7 134 4 yX4_become cX4_become 2 none 1 := ⟨⟨zw2_208, zw2_209, zw2_210, zw1_3, zw2_211⟩, ⟨by decide, by decide, by decide +kernel⟩, rfl, by decide, by decide⟩
theorem fl7_37 : q_FL RX7 37 7 3 := ⟨RX7, TX7, 9, tyX7, rfl, by decide, us7, Or.inl zw1_202, rfl, tyX7_ok, nmX7⟩
theorem lv7_138 : q_LV RX7 138 0 yX0_forget cX0_forget 1 none 0 := ⟨⟨zw2_213, zw2_214, zw2_215, zw1_6, zw2_216⟩, ⟨by decide, by decide, by decide +kernel⟩, rfl, by decide, by decide⟩
theorem fl7_141 : q_FL RX7 141 4 1 := ⟨RX4, TX4, 8, tyX4, rfl, by decide, us4, Or.inr ⟨RX7, List.mem_of_getElem? (i := 4) rfl⟩, rfl, tyX4_ok, nmX4⟩
theorem fl7_124 : q_FL RX7 124 7 7 := ⟨RX7, TX7, 9, tyX7, rfl, by decide, us7, Or.inl zw1_206, rfl, tyX7_ok, nmX7⟩
theorem lv7_144 : q_LV RX7 144 4 yX4_stands cX4_stands 1 (some .boolean) 0 := ⟨⟨zw2_226, zw2_227, zw2_228, zw1_3, zw2_229⟩, ⟨by decide, by decide, by decide +kernel⟩, rfl, by decide, by decide⟩
theorem zk7_147 : Cond.constant RX7 147 (-1000002) ∈ q_Z := zw2_230
theorem fl7_148 : q_FL RX7 148 4 3 := ⟨RX4, TX4, 8, tyX4, rfl, by decide, us4, Or.inr ⟨RX7, List.mem_of_getElem? (i := 6) rfl⟩, rfl, tyX4_ok, nmX4⟩
theorem lv7_151 : q_LV RX7 151 0 yX0_keep cX0_keep 3 none 1 := ⟨⟨zw2_231, zw2_232, zw2_233, zw1_6, zw2_234⟩, ⟨by decide, by decide, by decide +kernel⟩, rfl, by decide, by decide⟩
theorem lv7_154 : q_LV RX7 154 4 yX4_passMinute cX4_passMinute 2 none 0 := ⟨⟨zw3_4, zw3_5, zw3_6, zw1_3, zw3_7⟩, ⟨by decide, by decide, by decide +kernel⟩, rfl, by decide, by decide⟩
theorem fl7_157 : q_FL RX7 157 4 2 := ⟨RX4, TX4, 8, tyX4, rfl, by decide, us4, Or.inr ⟨RX7, List.mem_of_getElem? (i := 5) rfl⟩, rfl, tyX4_ok, nmX4⟩
theorem lv7_160 : q_LV RX7 160 4 yX4_turnLeft cX4_turnLeft 2 none 1 := ⟨⟨zw3_50, zw3_31, zw3_32, zw1_3, zw3_33⟩, ⟨by decide, by decide, by decide +kernel⟩, rfl, by decide, by decide⟩
theorem lv7_163 : q_LV RX7 163 4 yX4_has cX4_has 2 (some .boolean) 1 := ⟨⟨zw3_55, zw3_18, zw3_19, zw1_3, zw3_20⟩, ⟨by decide, by decide, by decide +kernel⟩, rfl, by decide, by decide⟩
theorem lv7_167 : q_LV RX7 167 4 yX4_of cX4_of 4 (some .int) 2 := ⟨⟨zw3_56, zw3_10, zw3_11, zw1_3, zw3_12⟩, ⟨by decide, by decide, by decide +kernel⟩, rfl, by decide, by decide⟩
theorem lv7_171 : q_LV RX7 171 4 yX4_add cX4_add 4 none 3 := ⟨⟨zw3_57, zw3_43, zw3_44, zw1_3, zw3_45⟩, ⟨by decide, by decide, by decide +kernel⟩, rfl, by decide, by decide⟩
theorem lv7_174 : q_LV RX7 174 4 yX4_swapSeats cX4_swapSeats 5 none 2 := ⟨⟨zw3_62, zw3_63, zw3_64, zw1_3, zw3_65⟩, ⟨by decide, by decide, by decide +kernel⟩, rfl, by decide, by decide⟩
theorem lv7_177 : q_LV RX7 177 4 yX4_swapSlots cX4_swapSlots 4 none 2 := ⟨⟨zw3_70, zw3_71, zw3_72, zw1_3, zw3_73⟩, ⟨by decide, by decide, by decide +kernel⟩, rfl, by decide, by decide⟩
theorem fl7_180 : q_FL RX7 180 0 2 := ⟨RX0, TX0, 3, tyX0, rfl, by decide, us0, Or.inr ⟨RX7, List.mem_of_getElem? (i := 16) rfl⟩, rfl, tyX0_ok, nmX0⟩
theorem lv7_183 : q_LV RX7 183 0 yX0_giveBack cX0_giveBack 2 none 1 := ⟨⟨zw3_78, zw3_79, zw3_80, zw1_6, zw3_81⟩, ⟨by decide, by decide, by decide +kernel⟩, rfl, by decide, by decide⟩
theorem lv7_186 : q_LV RX7 186 4 yX4_dishBefore cX4_dishBefore 2 (some .int) 1 := ⟨⟨zw3_86, zw3_35, zw3_36, zw1_3, zw3_37⟩, ⟨by decide, by decide, by decide +kernel⟩, rfl, by decide, by decide⟩
theorem fl7_44 : q_FL RX7 44 7 5 := ⟨RX7, TX7, 9, tyX7, rfl, by decide, us7, Or.inl zw1_204, rfl, tyX7_ok, nmX7⟩
theorem lv7_189 : q_LV RX7 189 2 yX2_look cX2_look 3 (some .int) 2 := ⟨⟨zw3_95, zw3_96, zw3_97, zw1_7, zw3_98⟩, ⟨by decide, by decide, by decide +kernel⟩, rfl, by decide, by decide⟩
theorem fl7_193 : q_FL RX7 193 2 0 := ⟨RX2, TX2, 3, tyX2, rfl, by decide, us2, Or.inr ⟨RX7, List.mem_of_getElem? (i := 17) rfl⟩, rfl, tyX2_ok, nmX2⟩
theorem lv7_196 : q_LV RX7 196 2 yX2_eatsSeatedAs cX2_eatsSeatedAs 5 (some .int) 4 := ⟨⟨zw3_114, zw3_115, zw3_116, zw1_7, zw3_117⟩, ⟨by decide, by decide, by decide +kernel⟩, rfl, by decide, by decide⟩
theorem lv7_200 : q_LV RX7 200 2 yX2_minuteOfLastPortion cX2_minuteOfLastPortion 5 (some .int) 2 := ⟨⟨zw3_124, zw3_125, zw3_126, zw1_7, zw3_127⟩, ⟨by decide, by decide, by decide +kernel⟩, rfl, by decide, by decide⟩
theorem zk7_203 : Cond.constant RX7 203 (-1000000) ∈ q_Z := zw3_129
theorem fl7_204 : q_FL RX7 204 4 4 := ⟨RX4, TX4, 8, tyX4, rfl, by decide, us4, Or.inr ⟨RX7, List.mem_of_getElem? (i := 7) rfl⟩, rfl, tyX4_ok, nmX4⟩
theorem lv7_207 : q_LV RX7 207 4 yX4_whoAteNothing cX4_whoAteNothing 3 (some .int) 0 := ⟨⟨zw3_134, zw3_135, zw3_136, zw1_3, zw3_137⟩, ⟨by decide, by decide, by decide +kernel⟩, rfl, by decide, by decide⟩
theorem lv7_211 : q_LV RX7 211 2 yX2_minutesToRest cX2_minutesToRest 4 (some .int) 1 := ⟨⟨zw3_142, zw3_143, zw3_144, zw1_7, zw3_145⟩, ⟨by decide, by decide, by decide +kernel⟩, rfl, by decide, by decide⟩
theorem lv7_215 : q_LV RX7 215 2 yX2_turnsToServe cX2_turnsToServe 5 (some .int) 1 := ⟨⟨zw3_150, zw3_151, zw3_152, zw1_7, zw3_153⟩, ⟨by decide, by decide, by decide +kernel⟩, rfl, by decide, by decide⟩
theorem lv7_218 : q_LV RX7 218 2 yX2_findBestSlots cX2_findBestSlots 7 (some .int) 2 := ⟨⟨zw3_165, zw3_166, zw3_167, zw1_7, zw3_168⟩, ⟨by decide, by decide, by decide +kernel⟩, rfl, by decide, by decide⟩
theorem lv7_221 : q_LV RX7 221 2 yX2_bestSlot cX2_bestSlot 2 (some .int) 1 := ⟨⟨zw3_184, zw3_185, zw3_186, zw1_7, zw3_187⟩, ⟨by decide, by decide, by decide +kernel⟩, rfl, by decide, by decide⟩
theorem lv7_224 : q_LV RX7 224 2 yX2_dishesToWant cX2_dishesToWant 8 (some .int) 5 := ⟨⟨zw3_192, zw3_193, zw3_194, zw1_7, zw3_195⟩, ⟨by decide, by decide, by decide +kernel⟩, rfl, by decide, by decide⟩
theorem lv7_228 : q_LV RX7 228 2 yX2_bestToSitAs cX2_bestToSitAs 8 (some .int) 3 := ⟨⟨zw3_206, zw3_207, zw3_208, zw1_7, zw3_209⟩, ⟨by decide, by decide, by decide +kernel⟩, rfl, by decide, by decide⟩
theorem lv7_232 : q_LV RX7 232 7 yX7_imageAt cX7_imageAt 2 (some (.object "TurningDishes$Table")) 1 := ⟨⟨zw3_215, zw3_217, zs_18, zw1_1, zw3_218⟩, ⟨by decide, by decide, by decide +kernel⟩, rfl, by decide, by decide⟩
theorem ls7_236 : q_LS RX7 236 yX7_isOne cX7_isOne 2 (some .boolean) 2 := ⟨⟨Or.inl zw3_231, zw3_232, zw1_1, zw3_233⟩, ⟨by decide, by decide, by decide +kernel⟩, by decide⟩
theorem fl7_51 : q_FL RX7 51 7 6 := ⟨RX7, TX7, 9, tyX7, rfl, by decide, us7, Or.inl zw1_205, rfl, tyX7_ok, nmX7⟩
theorem lv7_239 : q_LV RX7 239 1 yX1_begin cX1_begin 3 none 2 := ⟨⟨zw3_238, zw3_239, zw4_0, zw1_8, zw4_1⟩, ⟨by decide, by decide, by decide +kernel⟩, rfl, by decide, by decide⟩
theorem lv7_242 : q_LV RX7 242 1 yX1_size cX1_size 1 (some .int) 0 := ⟨⟨zw4_3, zw4_4, zw4_5, zw1_8, zw4_6⟩, ⟨by decide, by decide, by decide +kernel⟩, rfl, by decide, by decide⟩
theorem lv7_245 : q_LV RX7 245 1 yX1_mark cX1_mark 1 (some .int) 0 := ⟨⟨zw4_47, zw4_48, zw4_49, zw1_8, zw4_50⟩, ⟨by decide, by decide, by decide +kernel⟩, rfl, by decide, by decide⟩
theorem lv7_248 : q_LV RX7 248 1 yX1_traced cX1_traced 2 (some .int) 1 := ⟨⟨zw4_59, zw4_60, zw4_61, zw1_8, zw4_62⟩, ⟨by decide, by decide, by decide +kernel⟩, rfl, by decide, by decide⟩
theorem lv7_251 : q_LV RX7 251 7 yX7_rowsThere cX7_rowsThere 4 (some .int) 0 := ⟨⟨zw4_68, zw4_70, zs_30, zw1_1, zw4_71⟩, ⟨by decide, by decide, by decide +kernel⟩, rfl, by decide, by decide⟩
theorem lv7_254 : q_LV RX7 254 4 yX4_portionsOfAll cX4_portionsOfAll 3 (some .int) 0 := ⟨⟨zw4_72, zw4_73, zw4_74, zw1_3, zw4_75⟩, ⟨by decide, by decide, by decide +kernel⟩, rfl, by decide, by decide⟩
theorem fl7_257 : q_FL RX7 257 7 8 := ⟨RX7, TX7, 9, tyX7, rfl, by decide, us7, Or.inl zw1_207, rfl, tyX7_ok, nmX7⟩
theorem fp7_257 : q_FP RX7 257 7 8 := ⟨RX7, TX7, 9, tyX7, rfl, by decide, us7, zw1_207, rfl, tyX7_ok, nmX7, rfl, rfl⟩
theorem zk7_260 : Cond.constant RX7 260 (-1000010) ∈ q_Z := zw2_3
theorem lo8_1 : q_LO RX8 1 := ⟨zw4_85, zw1_22, zw1_23⟩
theorem ff8_7 : q_FF RX8 7 8 0 := ⟨RX8, TX8, 22, tyX8, rfl, by decide, us8, zw4_86, rfl, tyX8_ok, nmX8, rfl, rfl, by first | exact Or.inl ⟨_, rfl⟩ | exact Or.inr ⟨_, rfl⟩⟩
theorem ff8_13 : q_FF RX8 13 8 2 := ⟨RX8, TX8, 22, tyX8, rfl, by decide, us8, zw4_88, rfl, tyX8_ok, nmX8, rfl, rfl, by first | exact Or.inl ⟨_, rfl⟩ | exact Or.inr ⟨_, rfl⟩⟩
theorem ff8_16 : q_FF RX8 16 8 6 := ⟨RX8, TX8, 22, tyX8, rfl, by decide, us8, zw4_92, rfl, tyX8_ok, nmX8, rfl, rfl, by first | exact Or.inl ⟨_, rfl⟩ | exact Or.inr ⟨_, rfl⟩⟩
theorem ff8_19 : q_FF RX8 19 8 7 := ⟨RX8, TX8, 22, tyX8, rfl, by decide, us8, zw4_93, rfl, tyX8_ok, nmX8, rfl, rfl, by first | exact Or.inl ⟨_, rfl⟩ | exact Or.inr ⟨_, rfl⟩⟩
theorem ff8_22 : q_FF RX8 22 8 8 := ⟨RX8, TX8, 22, tyX8, rfl, by decide, us8, zw4_94, rfl, tyX8_ok, nmX8, rfl, rfl, by first | exact Or.inl ⟨_, rfl⟩ | exact Or.inr ⟨_, rfl⟩⟩
theorem ff8_25 : q_FF RX8 25 8 9 := ⟨RX8, TX8, 22, tyX8, rfl, by decide, us8, zw4_95, rfl, tyX8_ok, nmX8, rfl, rfl, by first | exact Or.inl ⟨_, rfl⟩ | exact Or.inr ⟨_, rfl⟩⟩
theorem ff8_28 : q_FF RX8 28 8 19 := ⟨RX8, TX8, 22, tyX8, rfl, by decide, us8, zw4_105, rfl, tyX8_ok, nmX8, rfl, rfl, by first | exact Or.inl ⟨_, rfl⟩ | exact Or.inr ⟨_, rfl⟩⟩
theorem ff8_32 : q_FF RX8 32 8 20 := ⟨RX8, TX8, 22, tyX8, rfl, by decide, us8, zw4_106, rfl, tyX8_ok, nmX8, rfl, rfl, by first | exact Or.inl ⟨_, rfl⟩ | exact Or.inr ⟨_, rfl⟩⟩
theorem fl8_16 : q_FL RX8 16 8 6 := ⟨RX8, TX8, 22, tyX8, rfl, by decide, us8, Or.inl zw4_92, rfl, tyX8_ok, nmX8⟩
theorem fl8_7 : q_FL RX8 7 8 0 := ⟨RX8, TX8, 22, tyX8, rfl, by decide, us8, Or.inl zw4_86, rfl, tyX8_ok, nmX8⟩
theorem zk8_35 : Cond.constantLong RX8 35 (7) ∈ q_Z := zw4_161
theorem ls8_37 : q_LS RX8 37 yX8_in cX8_in 6 (some .boolean) 3 := ⟨⟨Or.inl zw4_162, zw4_163, zw1_9, zw4_164⟩, ⟨by decide, by decide, by decide +kernel⟩, by decide⟩
theorem fp8_41 : q_FP RX8 41 8 5 := ⟨RX8, TX8, 22, tyX8, rfl, by decide, us8, zw4_91, rfl, tyX8_ok, nmX8, rfl, rfl⟩
theorem zk8_45 : Cond.constant RX8 45 (-1000010) ∈ q_Z := zw4_171
theorem ls8_46 : q_LS RX8 46 yX8_isRow cX8_isRow 1 (some .boolean) 1 := ⟨⟨Or.inl zw4_158, zw4_159, zw1_9, zw4_160⟩, ⟨by decide, by decide, by decide +kernel⟩, by decide⟩
theorem zk8_50 : Cond.constantLong RX8 50 (2) ∈ q_Z := zw4_165
theorem zk8_52 : Cond.constant RX8 52 (-1000001) ∈ q_Z := zw4_166
theorem lv8_53 : q_LV RX8 53 8 yX8_found cX8_found 2 (some .int) 1 := ⟨⟨zw4_167, zw4_169, zs_31, zw1_9, zw4_170⟩, ⟨by decide, by decide, by decide +kernel⟩, rfl, by decide, by decide⟩
theorem fl8_19 : q_FL RX8 19 8 7 := ⟨RX8, TX8, 22, tyX8, rfl, by decide, us8, Or.inl zw4_93, rfl, tyX8_ok, nmX8⟩
theorem fl8_22 : q_FL RX8 22 8 8 := ⟨RX8, TX8, 22, tyX8, rfl, by decide, us8, Or.inl zw4_94, rfl, tyX8_ok, nmX8⟩
theorem lv8_57 : q_LV RX8 57 8 yX8_well cX8_well 2 (some .int) 1 := ⟨⟨zw4_172, zw4_174, zs_32, zw1_9, zw4_175⟩, ⟨by decide, by decide, by decide +kernel⟩, rfl, by decide, by decide⟩
theorem ls8_60 : q_LS RX8 60 yX8_isPart cX8_isPart 3 (some .boolean) 3 := ⟨⟨Or.inl zw4_184, zw4_185, zw1_9, zw4_186⟩, ⟨by decide, by decide, by decide +kernel⟩, by decide⟩
theorem fl8_25 : q_FL RX8 25 8 9 := ⟨RX8, TX8, 22, tyX8, rfl, by decide, us8, Or.inl zw4_95, rfl, tyX8_ok, nmX8⟩
theorem zk8_64 : Cond.constantLong RX8 64 (8) ∈ q_Z := zw4_195
theorem fl8_66 : q_FL RX8 66 8 3 := ⟨RX8, TX8, 22, tyX8, rfl, by decide, us8, Or.inl zw4_89, rfl, tyX8_ok, nmX8⟩
theorem zk8_69 : Cond.constant RX8 69 (-1000003) ∈ q_Z := zw4_196
theorem fl8_13 : q_FL RX8 13 8 2 := ⟨RX8, TX8, 22, tyX8, rfl, by decide, us8, Or.inl zw4_88, rfl, tyX8_ok, nmX8⟩
theorem zk8_70 : Cond.constantLong RX8 70 (255) ∈ q_Z := zw4_197
theorem fp8_66 : q_FP RX8 66 8 3 := ⟨RX8, TX8, 22, tyX8, rfl, by decide, us8, zw4_89, rfl, tyX8_ok, nmX8, rfl, rfl⟩
theorem zk8_72 : Cond.constantLong RX8 72 (97) ∈ q_Z := zw4_217
theorem zk8_74 : Cond.constantLong RX8 74 (122) ∈ q_Z := zw4_218
theorem zk8_76 : Cond.constantLong RX8 76 (48) ∈ q_Z := zw4_219
theorem zk8_78 : Cond.constantLong RX8 78 (57) ∈ q_Z := zw4_220
theorem fl8_80 : q_FL RX8 80 8 11 := ⟨RX8, TX8, 22, tyX8, rfl, by decide, us8, Or.inl zw4_97, rfl, tyX8_ok, nmX8⟩
theorem fp8_83 : q_FP RX8 83 8 10 := ⟨RX8, TX8, 22, tyX8, rfl, by decide, us8, zw4_96, rfl, tyX8_ok, nmX8, rfl, rfl⟩
theorem fl8_83 : q_FL RX8 83 8 10 := ⟨RX8, TX8, 22, tyX8, rfl, by decide, us8, Or.inl zw4_96, rfl, tyX8_ok, nmX8⟩
theorem lv8_86 : q_LV RX8 86 8 yX8_byteAt cX8_byteAt 2 (some .int) 1 := ⟨⟨zw4_210, zw4_212, zs_35, zw1_9, zw4_213⟩, ⟨by decide, by decide, by decide +kernel⟩, rfl, by decide, by decide⟩
theorem ls8_89 : q_LS RX8 89 yX8_sortOf cX8_sortOf 1 (some .int) 1 := ⟨⟨Or.inl zw4_214, zw4_215, zw1_9, zw4_216⟩, ⟨by decide, by decide, by decide +kernel⟩, by decide⟩
theorem fp8_92 : q_FP RX8 92 8 12 := ⟨RX8, TX8, 22, tyX8, rfl, by decide, us8, zw4_98, rfl, tyX8_ok, nmX8, rfl, rfl⟩
theorem fl8_92 : q_FL RX8 92 8 12 := ⟨RX8, TX8, 22, tyX8, rfl, by decide, us8, Or.inl zw4_98, rfl, tyX8_ok, nmX8⟩
theorem fp8_80 : q_FP RX8 80 8 11 := ⟨RX8, TX8, 22, tyX8, rfl, by decide, us8, zw4_97, rfl, tyX8_ok, nmX8, rfl, rfl⟩
theorem fp8_95 : q_FP RX8 95 8 4 := ⟨RX8, TX8, 22, tyX8, rfl, by decide, us8, zw4_90, rfl, tyX8_ok, nmX8, rfl, rfl⟩
theorem lv8_98 : q_LV RX8 98 8 yX8_isWord cX8_isWord 6 (some .boolean) 5 := ⟨⟨zw4_229, zw4_231, zs_38, zw1_9, zw4_232⟩, ⟨by decide, by decide, by decide +kernel⟩, rfl, by decide, by decide⟩
theorem lv8_102 : q_LV RX8 102 8 yX8_isFourth cX8_isFourth 2 (some .boolean) 1 := ⟨⟨zw4_233, zw4_235, zs_39, zw1_9, zw4_236⟩, ⟨by decide, by decide, by decide +kernel⟩, rfl, by decide, by decide⟩
theorem lv8_105 : q_LV RX8 105 8 yX8_token cX8_token 1 none 0 := ⟨⟨zw4_206, zw4_208, zs_34, zw1_9, zw4_209⟩, ⟨by decide, by decide, by decide +kernel⟩, rfl, by decide, by decide⟩
theorem lv8_108 : q_LV RX8 108 8 yX8_wrong cX8_wrong 2 (some .boolean) 1 := ⟨⟨zw4_221, zw4_223, zs_36, zw1_9, zw4_224⟩, ⟨by decide, by decide, by decide +kernel⟩, rfl, by decide, by decide⟩
theorem lv8_111 : q_LV RX8 111 8 yX8_sortNow cX8_sortNow 1 (some .int) 0 := ⟨⟨zw5_5, zw5_7, zs_42, zw1_9, zw5_8⟩, ⟨by decide, by decide, by decide +kernel⟩, rfl, by decide, by decide⟩
theorem lv8_115 : q_LV RX8 115 8 yX8_takesNumber cX8_takesNumber 5 (some .boolean) 2 := ⟨⟨zw5_9, zw5_11, zs_43, zw1_9, zw5_12⟩, ⟨by decide, by decide, by decide +kernel⟩, rfl, by decide, by decide⟩
theorem lv8_119 : q_LV RX8 119 8 yX8_stops cX8_stops 1 (some .boolean) 0 := ⟨⟨zw5_13, zw5_15, zs_44, zw1_9, zw5_16⟩, ⟨by decide, by decide, by decide +kernel⟩, rfl, by decide, by decide⟩
theorem fl8_123 : q_FL RX8 123 8 13 := ⟨RX8, TX8, 22, tyX8, rfl, by decide, us8, Or.inl zw4_99, rfl, tyX8_ok, nmX8⟩
theorem fp8_123 : q_FP RX8 123 8 13 := ⟨RX8, TX8, 22, tyX8, rfl, by decide, us8, zw4_99, rfl, tyX8_ok, nmX8, rfl, rfl⟩
theorem lv8_126 : q_LV RX8 126 8 yX8_isGuestWord cX8_isGuestWord 1 (some .boolean) 0 := ⟨⟨zw4_225, zw4_227, zs_37, zw1_9, zw4_228⟩, ⟨by decide, by decide, by decide +kernel⟩, rfl, by decide, by decide⟩
theorem lv8_129 : q_LV RX8 129 8 yX8_isDishWord cX8_isDishWord 1 (some .boolean) 0 := ⟨⟨zw4_237, zw4_239, zs_40, zw1_9, zw5_0⟩, ⟨by decide, by decide, by decide +kernel⟩, rfl, by decide, by decide⟩
theorem lv8_132 : q_LV RX8 132 8 yX8_readsGuest cX8_readsGuest 2 (some .boolean) 0 := ⟨⟨zw5_1, zw5_3, zs_41, zw1_9, zw5_4⟩, ⟨by decide, by decide, by decide +kernel⟩, rfl, by decide, by decide⟩
theorem lv8_135 : q_LV RX8 135 8 yX8_readsDish cX8_readsDish 1 (some .boolean) 0 := ⟨⟨zw5_17, zw5_19, zs_45, zw1_9, zw5_20⟩, ⟨by decide, by decide, by decide +kernel⟩, rfl, by decide, by decide⟩
theorem lv8_138 : q_LV RX8 138 8 yX8_reads cX8_reads 4 (some .boolean) 0 := ⟨⟨zw4_202, zw4_204, zs_33, zw1_9, zw4_205⟩, ⟨by decide, by decide, by decide +kernel⟩, rfl, by decide, by decide⟩
theorem zk8_141 : Cond.constant RX8 141 (-1000100) ∈ q_Z := zw5_21
theorem lv8_142 : q_LV RX8 142 8 yX8_copyRow cX8_copyRow 4 none 2 := ⟨⟨zw5_22, zw5_24, zs_46, zw1_9, zw5_25⟩, ⟨by decide, by decide, by decide +kernel⟩, rfl, by decide, by decide⟩
theorem fp8_146 : q_FP RX8 146 8 1 := ⟨RX8, TX8, 22, tyX8, rfl, by decide, us8, zw4_87, rfl, tyX8_ok, nmX8, rfl, rfl⟩
theorem fl8_95 : q_FL RX8 95 8 4 := ⟨RX8, TX8, 22, tyX8, rfl, by decide, us8, Or.inl zw4_90, rfl, tyX8_ok, nmX8⟩
theorem fp8_149 : q_FP RX8 149 8 14 := ⟨RX8, TX8, 22, tyX8, rfl, by decide, us8, zw4_100, rfl, tyX8_ok, nmX8, rfl, rfl⟩
theorem lv8_152 : q_LV RX8 152 8 yX8_turnBy cX8_turnBy 4 none 2 := ⟨⟨zw5_56, zw5_58, zs_52, zw1_9, zw5_59⟩, ⟨by decide, by decide, by decide +kernel⟩, rfl, by decide, by decide⟩
theorem lv8_155 : q_LV RX8 155 8 yX8_leftTo cX8_leftTo 4 (some .int) 2 := ⟨⟨zw5_60, zw5_62, zs_53, zw1_9, zw5_63⟩, ⟨by decide, by decide, by decide +kernel⟩, rfl, by decide, by decide⟩
theorem fl8_149 : q_FL RX8 149 8 14 := ⟨RX8, TX8, 22, tyX8, rfl, by decide, us8, Or.inl zw4_100, rfl, tyX8_ok, nmX8⟩
theorem lv8_159 : q_LV RX8 159 8 yX8_guestAt cX8_guestAt 4 (some .int) 2 := ⟨⟨zw5_48, zw5_50, zs_50, zw1_9, zw5_51⟩, ⟨by decide, by decide, by decide +kernel⟩, rfl, by decide, by decide⟩
theorem lv8_162 : q_LV RX8 162 8 yX8_pushes cX8_pushes 9 none 2 := ⟨⟨zw5_52, zw5_54, zs_51, zw1_9, zw5_55⟩, ⟨by decide, by decide, by decide +kernel⟩, rfl, by decide, by decide⟩
theorem lv8_165 : q_LV RX8 165 8 yX8_dishBefore cX8_dishBefore 5 (some .int) 2 := ⟨⟨zw5_64, zw5_66, zs_54, zw1_9, zw5_67⟩, ⟨by decide, by decide, by decide +kernel⟩, rfl, by decide, by decide⟩
theorem fp8_168 : q_FP RX8 168 8 15 := ⟨RX8, TX8, 22, tyX8, rfl, by decide, us8, zw4_101, rfl, tyX8_ok, nmX8, rfl, rfl⟩
theorem fl8_168 : q_FL RX8 168 8 15 := ⟨RX8, TX8, 22, tyX8, rfl, by decide, us8, Or.inl zw4_101, rfl, tyX8_ok, nmX8⟩
theorem fp8_171 : q_FP RX8 171 8 16 := ⟨RX8, TX8, 22, tyX8, rfl, by decide, us8, zw4_102, rfl, tyX8_ok, nmX8, rfl, rfl⟩
theorem fp8_174 : q_FP RX8 174 8 17 := ⟨RX8, TX8, 22, tyX8, rfl, by decide, us8, zw4_103, rfl, tyX8_ok, nmX8, rfl, rfl⟩
theorem fl8_146 : q_FL RX8 146 8 1 := ⟨RX8, TX8, 22, tyX8, rfl, by decide, us8, Or.inl zw4_87, rfl, tyX8_ok, nmX8⟩
theorem lv8_177 : q_LV RX8 177 8 yX8_isNone cX8_isNone 1 (some .boolean) 0 := ⟨⟨zw5_34, zw5_36, zs_47, zw1_9, zw5_37⟩, ⟨by decide, by decide, by decide +kernel⟩, rfl, by decide, by decide⟩
theorem zk8_180 : Cond.constant RX8 180 (-1000002) ∈ q_Z := zw5_38
theorem zk8_181 : Cond.constantLong RX8 181 (24) ∈ q_Z := zw5_39
theorem lv8_183 : q_LV RX8 183 8 yX8_minds cX8_minds 2 none 0 := ⟨⟨zw5_40, zw5_42, zs_48, zw1_9, zw5_43⟩, ⟨by decide, by decide, by decide +kernel⟩, rfl, by decide, by decide⟩
theorem lv8_186 : q_LV RX8 186 8 yX8_goMinute cX8_goMinute 7 none 1 := ⟨⟨zw5_44, zw5_46, zs_49, zw1_9, zw5_47⟩, ⟨by decide, by decide, by decide +kernel⟩, rfl, by decide, by decide⟩
theorem zk8_190 : Cond.constantLong RX8 190 (-9) ∈ q_Z := zw5_72
theorem zk8_192 : Cond.constantLong RX8 192 (9) ∈ q_Z := zw5_73
theorem lv8_194 : q_LV RX8 194 8 yX8_isOne cX8_isOne 2 (some .boolean) 1 := ⟨⟨zw5_78, zw5_80, zs_55, zw1_9, zw5_81⟩, ⟨by decide, by decide, by decide +kernel⟩, rfl, by decide, by decide⟩
theorem zk8_197 : Cond.constantLong RX8 197 (30) ∈ q_Z := zw5_82
theorem lv8_199 : q_LV RX8 199 8 yX8_swaps cX8_swaps 5 (some .int) 3 := ⟨⟨zw5_87, zw5_89, zs_56, zw1_9, zw5_90⟩, ⟨by decide, by decide, by decide +kernel⟩, rfl, by decide, by decide⟩
theorem zk8_203 : Cond.constantLong RX8 203 (3) ∈ q_Z := zw5_103
theorem fp8_205 : q_FP RX8 205 8 18 := ⟨RX8, TX8, 22, tyX8, rfl, by decide, us8, zw4_104, rfl, tyX8_ok, nmX8, rfl, rfl⟩
theorem fl8_205 : q_FL RX8 205 8 18 := ⟨RX8, TX8, 22, tyX8, rfl, by decide, us8, Or.inl zw4_104, rfl, tyX8_ok, nmX8⟩
theorem zk8_208 : Cond.constantLong RX8 208 (99) ∈ q_Z := zw5_115
theorem ls8_210 : q_LS RX8 210 yX8_isLater cX8_isLater 1 (some .boolean) 1 := ⟨⟨Or.inl zw5_112, zw5_113, zw1_9, zw5_114⟩, ⟨by decide, by decide, by decide +kernel⟩, by decide⟩
theorem lv8_213 : q_LV RX8 213 8 yX8_goMinutes cX8_goMinutes 3 none 1 := ⟨⟨zw5_116, zw5_118, zs_57, zw1_9, zw5_119⟩, ⟨by decide, by decide, by decide +kernel⟩, rfl, by decide, by decide⟩
theorem fl8_174 : q_FL RX8 174 8 17 := ⟨RX8, TX8, 22, tyX8, rfl, by decide, us8, Or.inl zw4_103, rfl, tyX8_ok, nmX8⟩
theorem fl8_171 : q_FL RX8 171 8 16 := ⟨RX8, TX8, 22, tyX8, rfl, by decide, us8, Or.inl zw4_102, rfl, tyX8_ok, nmX8⟩
theorem zk8_216 : Cond.constant RX8 216 (-1000000) ∈ q_Z := zw5_132
theorem zk8_217 : Cond.constant RX8 217 (1000000) ∈ q_Z := zw5_145
theorem zk8_218 : Cond.constantLong RX8 218 (20) ∈ q_Z := zw5_150
theorem zk8_220 : Cond.constantLong RX8 220 (-1) ∈ q_Z := zw5_151
theorem lv8_222 : q_LV RX8 222 8 yX8_laysBy cX8_laysBy 5 (some .boolean) 1 := ⟨⟨zw5_152, zw5_154, zs_58, zw1_9, zw5_155⟩, ⟨by decide, by decide, by decide +kernel⟩, rfl, by decide, by decide⟩
theorem fl8_28 : q_FL RX8 28 8 19 := ⟨RX8, TX8, 22, tyX8, rfl, by decide, us8, Or.inl zw4_105, rfl, tyX8_ok, nmX8⟩
theorem fl8_225 : q_FL RX8 225 8 21 := ⟨RX8, TX8, 22, tyX8, rfl, by decide, us8, Or.inl zw4_107, rfl, tyX8_ok, nmX8⟩
theorem fl8_32 : q_FL RX8 32 8 20 := ⟨RX8, TX8, 22, tyX8, rfl, by decide, us8, Or.inl zw4_106, rfl, tyX8_ok, nmX8⟩
theorem fp8_225 : q_FP RX8 225 8 21 := ⟨RX8, TX8, 22, tyX8, rfl, by decide, us8, zw4_107, rfl, tyX8_ok, nmX8, rfl, rfl⟩
theorem zk8_228 : Cond.constantLong RX8 228 (5) ∈ q_Z := zw5_180
theorem ls8_230 : q_LS RX8 230 yX8_isOf cX8_isOf 2 (some .boolean) 2 := ⟨⟨Or.inl zw5_181, zw5_182, zw1_9, zw5_183⟩, ⟨by decide, by decide, by decide +kernel⟩, by decide⟩
theorem lv8_233 : q_LV RX8 233 8 yX8_leaves cX8_leaves 2 none 1 := ⟨⟨zw5_192, zw5_194, zs_60, zw1_9, zw5_195⟩, ⟨by decide, by decide, by decide +kernel⟩, rfl, by decide, by decide⟩
theorem lv8_236 : q_LV RX8 236 8 yX8_markOfEater cX8_markOfEater 4 (some .int) 1 := ⟨⟨zw5_196, zw5_198, zs_61, zw1_9, zw5_199⟩, ⟨by decide, by decide, by decide +kernel⟩, rfl, by decide, by decide⟩
theorem lv8_239 : q_LV RX8 239 8 yX8_sizeOf cX8_sizeOf 5 (some .int) 1 := ⟨⟨zw5_188, zw5_190, zs_59, zw1_9, zw5_191⟩, ⟨by decide, by decide, by decide +kernel⟩, rfl, by decide, by decide⟩
theorem lv8_242 : q_LV RX8 242 8 yX8_markOf cX8_markOf 2 (some .int) 1 := ⟨⟨zw5_200, zw5_202, zs_62, zw1_9, zw5_203⟩, ⟨by decide, by decide, by decide +kernel⟩, rfl, by decide, by decide⟩
theorem fl8_41 : q_FL RX8 41 8 5 := ⟨RX8, TX8, 22, tyX8, rfl, by decide, us8, Or.inl zw4_91, rfl, tyX8_ok, nmX8⟩
