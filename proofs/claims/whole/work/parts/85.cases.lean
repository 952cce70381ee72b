/-! The law's 33 cases: each goes from its place to 2639 and keeps what class and model hold. -/
abbrev uL_law_ : List Cond := Cond.initialized RX10 :: uT
theorem ml_L_113 : Cond.methodLink RL 113 yX10_feed ∈ uT := uM2 (List.mem_of_getElem? (i := 118) rfl) rfl
theorem im_yX10_feed : Cond.instanceMethod yX10_feed ∈ uT := uM2 (List.mem_of_getElem? (i := 119) rfl) rfl
theorem se_yX10_feed : Cond.selects yX10_feed.cls yX10_feed yX10_feed ∈ uT := uM2 (List.mem_of_getElem? (i := 120) rfl) rfl
theorem ml_L_117 : Cond.methodLink RL 117 yX11_feed ∈ uT := uM5 (List.mem_of_getElem? (i := 228) rfl) rfl
theorem im_yX11_feed : Cond.instanceMethod yX11_feed ∈ uT := uM5 (List.mem_of_getElem? (i := 229) rfl) rfl
theorem se_yX11_feed : Cond.selects yX11_feed.cls yX11_feed yX11_feed ∈ uT := uM5 (List.mem_of_getElem? (i := 230) rfl) rfl
theorem ml_L_118 : Cond.methodLink RL 118 yL_law ∈ uT := uM2 (List.mem_of_getElem? (i := 191) rfl) rfl
theorem st_yL_law : Cond.static yL_law ∈ uT := uM2 (List.mem_of_getElem? (i := 192) rfl) rfl
theorem ini_L : Cond.initialized RL ∈ uT := uM1 (List.mem_of_getElem? (i := 0) rfl) rfl
theorem ml_L_123 : Cond.methodLink RL 123 yX11_law ∈ uT := uM5 (List.mem_of_getElem? (i := 232) rfl) rfl
theorem im_yX11_law : Cond.instanceMethod yX11_law ∈ uT := uM5 (List.mem_of_getElem? (i := 233) rfl) rfl
theorem se_yX11_law : Cond.selects yX11_law.cls yX11_law yX11_law ∈ uT := uM5 (List.mem_of_getElem? (i := 234) rfl) rfl
theorem ml_L_124 : Cond.methodLink RL 124 yX11_thrown ∈ uT := uM5 (List.mem_of_getElem? (i := 224) rfl) rfl
theorem im_yX11_thrown : Cond.instanceMethod yX11_thrown ∈ uT := uM5 (List.mem_of_getElem? (i := 225) rfl) rfl
theorem se_yX11_thrown : Cond.selects yX11_thrown.cls yX11_thrown yX11_thrown ∈ uT := uM5 (List.mem_of_getElem? (i := 226) rfl) rfl
theorem ml_L_128 : Cond.methodLink RL 128 yX10_fault ∈ uT := uM2 (List.mem_of_getElem? (i := 127) rfl) rfl
theorem im_yX10_fault : Cond.instanceMethod yX10_fault ∈ uT := uM2 (List.mem_of_getElem? (i := 128) rfl) rfl
theorem se_yX10_fault : Cond.selects yX10_fault.cls yX10_fault yX10_fault ∈ uT := uM2 (List.mem_of_getElem? (i := 129) rfl) rfl
theorem ml_L_131 : Cond.methodLink RL 131 yX11_fault ∈ uT := uM6 (List.mem_of_getElem? (i := 82) rfl) rfl
theorem im_yX11_fault : Cond.instanceMethod yX11_fault ∈ uT := uM6 (List.mem_of_getElem? (i := 83) rfl) rfl
theorem se_yX11_fault : Cond.selects yX11_fault.cls yX11_fault yX11_fault ∈ uT := uM6 (List.mem_of_getElem? (i := 84) rfl) rfl
theorem ml_L_132 : Cond.methodLink RL 132 yL_deck ∈ uT := uM3 (List.mem_of_getElem? (i := 150) rfl) rfl
theorem st_yL_deck : Cond.static yL_deck ∈ uT := uM3 (List.mem_of_getElem? (i := 151) rfl) rfl
theorem ml_L_134 : Cond.methodLink RL 134 yX11_deck ∈ uT := uM6 (List.mem_of_getElem? (i := 86) rfl) rfl
theorem im_yX11_deck : Cond.instanceMethod yX11_deck ∈ uT := uM6 (List.mem_of_getElem? (i := 87) rfl) rfl
theorem se_yX11_deck : Cond.selects yX11_deck.cls yX11_deck yX11_deck ∈ uT := uM6 (List.mem_of_getElem? (i := 88) rfl) rfl
theorem ml_L_135 : Cond.methodLink RL 135 yL_set ∈ uT := uM3 (List.mem_of_getElem? (i := 158) rfl) rfl
theorem st_yL_set : Cond.static yL_set ∈ uT := uM3 (List.mem_of_getElem? (i := 159) rfl) rfl
theorem ml_L_138 : Cond.methodLink RL 138 yX11_set ∈ uT := uM6 (List.mem_of_getElem? (i := 90) rfl) rfl
theorem im_yX11_set : Cond.instanceMethod yX11_set ∈ uT := uM6 (List.mem_of_getElem? (i := 91) rfl) rfl
theorem se_yX11_set : Cond.selects yX11_set.cls yX11_set yX11_set ∈ uT := uM6 (List.mem_of_getElem? (i := 92) rfl) rfl
theorem ml_L_139 : Cond.methodLink RL 139 yL_stay ∈ uT := uM3 (List.mem_of_getElem? (i := 175) rfl) rfl
theorem st_yL_stay : Cond.static yL_stay ∈ uT := uM3 (List.mem_of_getElem? (i := 176) rfl) rfl
theorem ml_L_142 : Cond.methodLink RL 142 yX11_stay ∈ uT := uM6 (List.mem_of_getElem? (i := 101) rfl) rfl
theorem im_yX11_stay : Cond.instanceMethod yX11_stay ∈ uT := uM6 (List.mem_of_getElem? (i := 102) rfl) rfl
theorem se_yX11_stay : Cond.selects yX11_stay.cls yX11_stay yX11_stay ∈ uT := uM6 (List.mem_of_getElem? (i := 103) rfl) rfl
theorem ml_L_143 : Cond.methodLink RL 143 yL_shape ∈ uT := uM3 (List.mem_of_getElem? (i := 203) rfl) rfl
theorem st_yL_shape : Cond.static yL_shape ∈ uT := uM3 (List.mem_of_getElem? (i := 204) rfl) rfl
theorem ml_L_146 : Cond.methodLink RL 146 yX11_shape ∈ uT := uM6 (List.mem_of_getElem? (i := 109) rfl) rfl
theorem im_yX11_shape : Cond.instanceMethod yX11_shape ∈ uT := uM6 (List.mem_of_getElem? (i := 110) rfl) rfl
theorem se_yX11_shape : Cond.selects yX11_shape.cls yX11_shape yX11_shape ∈ uT := uM6 (List.mem_of_getElem? (i := 111) rfl) rfl
theorem ml_L_147 : Cond.methodLink RL 147 yL_go ∈ uT := uM3 (List.mem_of_getElem? (i := 225) rfl) rfl
theorem st_yL_go : Cond.static yL_go ∈ uT := uM3 (List.mem_of_getElem? (i := 226) rfl) rfl
theorem ml_L_149 : Cond.methodLink RL 149 yX11_go ∈ uT := uM6 (List.mem_of_getElem? (i := 127) rfl) rfl
theorem im_yX11_go : Cond.instanceMethod yX11_go ∈ uT := uM6 (List.mem_of_getElem? (i := 128) rfl) rfl
theorem se_yX11_go : Cond.selects yX11_go.cls yX11_go yX11_go ∈ uT := uM6 (List.mem_of_getElem? (i := 129) rfl) rfl
theorem ml_L_150 : Cond.methodLink RL 150 yL_piece ∈ uT := uM4 (List.mem_of_getElem? (i := 59) rfl) rfl
theorem st_yL_piece : Cond.static yL_piece ∈ uT := uM4 (List.mem_of_getElem? (i := 60) rfl) rfl
theorem ml_L_152 : Cond.methodLink RL 152 yX11_piece ∈ uT := uM6 (List.mem_of_getElem? (i := 164) rfl) rfl
theorem im_yX11_piece : Cond.instanceMethod yX11_piece ∈ uT := uM6 (List.mem_of_getElem? (i := 165) rfl) rfl
theorem se_yX11_piece : Cond.selects yX11_piece.cls yX11_piece yX11_piece ∈ uT := uM6 (List.mem_of_getElem? (i := 166) rfl) rfl
theorem ml_L_153 : Cond.methodLink RL 153 yL_push ∈ uT := uM4 (List.mem_of_getElem? (i := 67) rfl) rfl
theorem st_yL_push : Cond.static yL_push ∈ uT := uM4 (List.mem_of_getElem? (i := 68) rfl) rfl
theorem ml_L_156 : Cond.methodLink RL 156 yX11_push ∈ uT := uM6 (List.mem_of_getElem? (i := 168) rfl) rfl
theorem im_yX11_push : Cond.instanceMethod yX11_push ∈ uT := uM6 (List.mem_of_getElem? (i := 169) rfl) rfl
theorem se_yX11_push : Cond.selects yX11_push.cls yX11_push yX11_push ∈ uT := uM6 (List.mem_of_getElem? (i := 170) rfl) rfl
theorem ml_L_157 : Cond.methodLink RL 157 yL_grows ∈ uT := uM4 (List.mem_of_getElem? (i := 76) rfl) rfl
theorem st_yL_grows : Cond.static yL_grows ∈ uT := uM4 (List.mem_of_getElem? (i := 77) rfl) rfl
theorem ml_L_160 : Cond.methodLink RL 160 yX11_grows ∈ uT := uM6 (List.mem_of_getElem? (i := 172) rfl) rfl
theorem im_yX11_grows : Cond.instanceMethod yX11_grows ∈ uT := uM6 (List.mem_of_getElem? (i := 173) rfl) rfl
theorem se_yX11_grows : Cond.selects yX11_grows.cls yX11_grows yX11_grows ∈ uT := uM6 (List.mem_of_getElem? (i := 174) rfl) rfl
theorem ml_L_161 : Cond.methodLink RL 161 yL_line ∈ uT := uM4 (List.mem_of_getElem? (i := 93) rfl) rfl
theorem st_yL_line : Cond.static yL_line ∈ uT := uM4 (List.mem_of_getElem? (i := 94) rfl) rfl
theorem ml_L_163 : Cond.methodLink RL 163 yX11_line ∈ uT := uM6 (List.mem_of_getElem? (i := 196) rfl) rfl
theorem im_yX11_line : Cond.instanceMethod yX11_line ∈ uT := uM6 (List.mem_of_getElem? (i := 197) rfl) rfl
theorem se_yX11_line : Cond.selects yX11_line.cls yX11_line yX11_line ∈ uT := uM6 (List.mem_of_getElem? (i := 198) rfl) rfl
theorem ml_L_164 : Cond.methodLink RL 164 yL_why ∈ uT := uM4 (List.mem_of_getElem? (i := 104) rfl) rfl
theorem st_yL_why : Cond.static yL_why ∈ uT := uM4 (List.mem_of_getElem? (i := 105) rfl) rfl
theorem ml_L_166 : Cond.methodLink RL 166 yX11_why ∈ uT := uM6 (List.mem_of_getElem? (i := 204) rfl) rfl
theorem im_yX11_why : Cond.instanceMethod yX11_why ∈ uT := uM6 (List.mem_of_getElem? (i := 205) rfl) rfl
theorem se_yX11_why : Cond.selects yX11_why.cls yX11_why yX11_why ∈ uT := uM6 (List.mem_of_getElem? (i := 206) rfl) rfl
theorem ml_L_167 : Cond.methodLink RL 167 yL_first ∈ uT := uM4 (List.mem_of_getElem? (i := 111) rfl) rfl
theorem st_yL_first : Cond.static yL_first ∈ uT := uM4 (List.mem_of_getElem? (i := 112) rfl) rfl
theorem ml_L_170 : Cond.methodLink RL 170 yX11_first ∈ uT := uM6 (List.mem_of_getElem? (i := 208) rfl) rfl
theorem im_yX11_first : Cond.instanceMethod yX11_first ∈ uT := uM6 (List.mem_of_getElem? (i := 209) rfl) rfl
theorem se_yX11_first : Cond.selects yX11_first.cls yX11_first yX11_first ∈ uT := uM6 (List.mem_of_getElem? (i := 210) rfl) rfl
theorem ml_L_171 : Cond.methodLink RL 171 yL_where ∈ uT := uM4 (List.mem_of_getElem? (i := 126) rfl) rfl
theorem st_yL_where : Cond.static yL_where ∈ uT := uM4 (List.mem_of_getElem? (i := 127) rfl) rfl
theorem ml_L_173 : Cond.methodLink RL 173 yX11_where ∈ uT := uM6 (List.mem_of_getElem? (i := 220) rfl) rfl
theorem im_yX11_where : Cond.instanceMethod yX11_where ∈ uT := uM6 (List.mem_of_getElem? (i := 221) rfl) rfl
theorem se_yX11_where : Cond.selects yX11_where.cls yX11_where yX11_where ∈ uT := uM6 (List.mem_of_getElem? (i := 222) rfl) rfl
theorem ml_L_174 : Cond.methodLink RL 174 yL_slip ∈ uT := uM4 (List.mem_of_getElem? (i := 133) rfl) rfl
theorem st_yL_slip : Cond.static yL_slip ∈ uT := uM4 (List.mem_of_getElem? (i := 134) rfl) rfl
theorem ml_L_176 : Cond.methodLink RL 176 yX11_slip ∈ uT := uM6 (List.mem_of_getElem? (i := 224) rfl) rfl
theorem im_yX11_slip : Cond.instanceMethod yX11_slip ∈ uT := uM6 (List.mem_of_getElem? (i := 225) rfl) rfl
theorem se_yX11_slip : Cond.selects yX11_slip.cls yX11_slip yX11_slip ∈ uT := uM6 (List.mem_of_getElem? (i := 226) rfl) rfl
theorem ml_L_177 : Cond.methodLink RL 177 yL_film ∈ uT := uM4 (List.mem_of_getElem? (i := 144) rfl) rfl
theorem st_yL_film : Cond.static yL_film ∈ uT := uM4 (List.mem_of_getElem? (i := 145) rfl) rfl
theorem ml_L_179 : Cond.methodLink RL 179 yX11_film ∈ uT := uM6 (List.mem_of_getElem? (i := 228) rfl) rfl
theorem im_yX11_film : Cond.instanceMethod yX11_film ∈ uT := uM6 (List.mem_of_getElem? (i := 229) rfl) rfl
theorem se_yX11_film : Cond.selects yX11_film.cls yX11_film yX11_film ∈ uT := uM6 (List.mem_of_getElem? (i := 230) rfl) rfl
theorem ml_L_180 : Cond.methodLink RL 180 yL_barred ∈ uT := uM4 (List.mem_of_getElem? (i := 158) rfl) rfl
theorem st_yL_barred : Cond.static yL_barred ∈ uT := uM4 (List.mem_of_getElem? (i := 159) rfl) rfl
theorem ml_L_183 : Cond.methodLink RL 183 yX11_barred ∈ uT := uM6 (List.mem_of_getElem? (i := 232) rfl) rfl
theorem im_yX11_barred : Cond.instanceMethod yX11_barred ∈ uT := uM6 (List.mem_of_getElem? (i := 233) rfl) rfl
theorem se_yX11_barred : Cond.selects yX11_barred.cls yX11_barred yX11_barred ∈ uT := uM6 (List.mem_of_getElem? (i := 234) rfl) rfl
theorem ml_L_184 : Cond.methodLink RL 184 yL_mend ∈ uT := uM4 (List.mem_of_getElem? (i := 171) rfl) rfl
theorem st_yL_mend : Cond.static yL_mend ∈ uT := uM4 (List.mem_of_getElem? (i := 172) rfl) rfl
theorem ml_L_186 : Cond.methodLink RL 186 yX11_mend ∈ uT := uM7 (List.mem_of_getElem? (i := 0) rfl) rfl
theorem im_yX11_mend : Cond.instanceMethod yX11_mend ∈ uT := uM7 (List.mem_of_getElem? (i := 1) rfl) rfl
theorem se_yX11_mend : Cond.selects yX11_mend.cls yX11_mend yX11_mend ∈ uT := uM7 (List.mem_of_getElem? (i := 2) rfl) rfl
theorem ml_L_187 : Cond.methodLink RL 187 yL_calm ∈ uT := uM4 (List.mem_of_getElem? (i := 185) rfl) rfl
theorem st_yL_calm : Cond.static yL_calm ∈ uT := uM4 (List.mem_of_getElem? (i := 186) rfl) rfl
theorem ml_L_189 : Cond.methodLink RL 189 yX11_calm ∈ uT := uM7 (List.mem_of_getElem? (i := 5) rfl) rfl
theorem im_yX11_calm : Cond.instanceMethod yX11_calm ∈ uT := uM7 (List.mem_of_getElem? (i := 6) rfl) rfl
theorem se_yX11_calm : Cond.selects yX11_calm.cls yX11_calm yX11_calm ∈ uT := uM7 (List.mem_of_getElem? (i := 7) rfl) rfl
theorem ml_L_190 : Cond.methodLink RL 190 yL_mended ∈ uT := uM4 (List.mem_of_getElem? (i := 196) rfl) rfl
theorem st_yL_mended : Cond.static yL_mended ∈ uT := uM4 (List.mem_of_getElem? (i := 197) rfl) rfl
theorem ml_L_192 : Cond.methodLink RL 192 yX11_mended ∈ uT := uM7 (List.mem_of_getElem? (i := 13) rfl) rfl
theorem im_yX11_mended : Cond.instanceMethod yX11_mended ∈ uT := uM7 (List.mem_of_getElem? (i := 14) rfl) rfl
theorem se_yX11_mended : Cond.selects yX11_mended.cls yX11_mended yX11_mended ∈ uT := uM7 (List.mem_of_getElem? (i := 15) rfl) rfl
theorem ml_L_193 : Cond.methodLink RL 193 yL_week ∈ uT := uM4 (List.mem_of_getElem? (i := 223) rfl) rfl
theorem st_yL_week : Cond.static yL_week ∈ uT := uM4 (List.mem_of_getElem? (i := 224) rfl) rfl
theorem ml_L_195 : Cond.methodLink RL 195 yX11_week ∈ uT := uM7 (List.mem_of_getElem? (i := 21) rfl) rfl
theorem im_yX11_week : Cond.instanceMethod yX11_week ∈ uT := uM7 (List.mem_of_getElem? (i := 22) rfl) rfl
theorem se_yX11_week : Cond.selects yX11_week.cls yX11_week yX11_week ∈ uT := uM7 (List.mem_of_getElem? (i := 23) rfl) rfl
theorem ml_L_196 : Cond.methodLink RL 196 yL_span ∈ uT := uM4 (List.mem_of_getElem? (i := 235) rfl) rfl
theorem st_yL_span : Cond.static yL_span ∈ uT := uM4 (List.mem_of_getElem? (i := 236) rfl) rfl
theorem ml_L_198 : Cond.methodLink RL 198 yX11_span ∈ uT := uM7 (List.mem_of_getElem? (i := 29) rfl) rfl
theorem im_yX11_span : Cond.instanceMethod yX11_span ∈ uT := uM7 (List.mem_of_getElem? (i := 30) rfl) rfl
theorem se_yX11_span : Cond.selects yX11_span.cls yX11_span yX11_span ∈ uT := uM7 (List.mem_of_getElem? (i := 31) rfl) rfl
theorem ml_L_199 : Cond.methodLink RL 199 yL_bridge ∈ uT := uM5 (List.mem_of_getElem? (i := 5) rfl) rfl
theorem st_yL_bridge : Cond.static yL_bridge ∈ uT := uM5 (List.mem_of_getElem? (i := 6) rfl) rfl
theorem ml_L_201 : Cond.methodLink RL 201 yX11_bridge ∈ uT := uM7 (List.mem_of_getElem? (i := 33) rfl) rfl
theorem im_yX11_bridge : Cond.instanceMethod yX11_bridge ∈ uT := uM7 (List.mem_of_getElem? (i := 34) rfl) rfl
theorem se_yX11_bridge : Cond.selects yX11_bridge.cls yX11_bridge yX11_bridge ∈ uT := uM7 (List.mem_of_getElem? (i := 35) rfl) rfl
theorem ml_L_202 : Cond.methodLink RL 202 yL_blows ∈ uT := uM5 (List.mem_of_getElem? (i := 17) rfl) rfl
theorem st_yL_blows : Cond.static yL_blows ∈ uT := uM5 (List.mem_of_getElem? (i := 18) rfl) rfl
theorem ml_L_204 : Cond.methodLink RL 204 yX11_blows ∈ uT := uM7 (List.mem_of_getElem? (i := 37) rfl) rfl
theorem im_yX11_blows : Cond.instanceMethod yX11_blows ∈ uT := uM7 (List.mem_of_getElem? (i := 38) rfl) rfl
theorem se_yX11_blows : Cond.selects yX11_blows.cls yX11_blows yX11_blows ∈ uT := uM7 (List.mem_of_getElem? (i := 39) rfl) rfl
theorem ml_L_205 : Cond.methodLink RL 205 yL_hours ∈ uT := uM5 (List.mem_of_getElem? (i := 34) rfl) rfl
theorem st_yL_hours : Cond.static yL_hours ∈ uT := uM5 (List.mem_of_getElem? (i := 35) rfl) rfl
theorem ml_L_207 : Cond.methodLink RL 207 yX11_hours ∈ uT := uM7 (List.mem_of_getElem? (i := 45) rfl) rfl
theorem im_yX11_hours : Cond.instanceMethod yX11_hours ∈ uT := uM7 (List.mem_of_getElem? (i := 46) rfl) rfl
theorem se_yX11_hours : Cond.selects yX11_hours.cls yX11_hours yX11_hours ∈ uT := uM7 (List.mem_of_getElem? (i := 47) rfl) rfl
theorem ml_L_208 : Cond.methodLink RL 208 yL_paper ∈ uT := uM5 (List.mem_of_getElem? (i := 45) rfl) rfl
theorem st_yL_paper : Cond.static yL_paper ∈ uT := uM5 (List.mem_of_getElem? (i := 46) rfl) rfl
theorem ml_L_210 : Cond.methodLink RL 210 yX11_paper ∈ uT := uM7 (List.mem_of_getElem? (i := 49) rfl) rfl
theorem im_yX11_paper : Cond.instanceMethod yX11_paper ∈ uT := uM7 (List.mem_of_getElem? (i := 50) rfl) rfl
theorem se_yX11_paper : Cond.selects yX11_paper.cls yX11_paper yX11_paper ∈ uT := uM7 (List.mem_of_getElem? (i := 51) rfl) rfl
theorem ml_L_211 : Cond.methodLink RL 211 yL_known ∈ uT := uM5 (List.mem_of_getElem? (i := 57) rfl) rfl
theorem st_yL_known : Cond.static yL_known ∈ uT := uM5 (List.mem_of_getElem? (i := 58) rfl) rfl
theorem ml_L_213 : Cond.methodLink RL 213 yX11_known ∈ uT := uM7 (List.mem_of_getElem? (i := 53) rfl) rfl
theorem im_yX11_known : Cond.instanceMethod yX11_known ∈ uT := uM7 (List.mem_of_getElem? (i := 54) rfl) rfl
theorem se_yX11_known : Cond.selects yX11_known.cls yX11_known yX11_known ∈ uT := uM7 (List.mem_of_getElem? (i := 55) rfl) rfl
theorem ml_L_214 : Cond.methodLink RL 214 yL_could ∈ uT := uM5 (List.mem_of_getElem? (i := 69) rfl) rfl
theorem st_yL_could : Cond.static yL_could ∈ uT := uM5 (List.mem_of_getElem? (i := 70) rfl) rfl
theorem ml_L_216 : Cond.methodLink RL 216 yX11_could ∈ uT := uM7 (List.mem_of_getElem? (i := 61) rfl) rfl
theorem im_yX11_could : Cond.instanceMethod yX11_could ∈ uT := uM7 (List.mem_of_getElem? (i := 62) rfl) rfl
theorem se_yX11_could : Cond.selects yX11_could.cls yX11_could yX11_could ∈ uT := uM7 (List.mem_of_getElem? (i := 63) rfl) rfl
theorem ml_L_217 : Cond.methodLink RL 217 yL_shut ∈ uT := uM5 (List.mem_of_getElem? (i := 81) rfl) rfl
theorem st_yL_shut : Cond.static yL_shut ∈ uT := uM5 (List.mem_of_getElem? (i := 82) rfl) rfl
theorem ml_L_219 : Cond.methodLink RL 219 yX11_shut ∈ uT := uM6 (List.mem_of_getElem? (i := 236) rfl) rfl
theorem im_yX11_shut : Cond.instanceMethod yX11_shut ∈ uT := uM6 (List.mem_of_getElem? (i := 237) rfl) rfl
theorem se_yX11_shut : Cond.selects yX11_shut.cls yX11_shut yX11_shut ∈ uT := uM6 (List.mem_of_getElem? (i := 238) rfl) rfl
theorem ml_L_220 : Cond.methodLink RL 220 yX10_image ∈ uT := uM2 (List.mem_of_getElem? (i := 131) rfl) rfl
theorem im_yX10_image : Cond.instanceMethod yX10_image ∈ uT := uM2 (List.mem_of_getElem? (i := 132) rfl) rfl
theorem se_yX10_image : Cond.selects yX10_image.cls yX10_image yX10_image ∈ uT := uM2 (List.mem_of_getElem? (i := 133) rfl) rfl
theorem ml_L_223 : Cond.methodLink RL 223 yX11_image ∈ uT := uM7 (List.mem_of_getElem? (i := 65) rfl) rfl
theorem im_yX11_image : Cond.instanceMethod yX11_image ∈ uT := uM7 (List.mem_of_getElem? (i := 66) rfl) rfl
theorem se_yX11_image : Cond.selects yX11_image.cls yX11_image yX11_image ∈ uT := uM7 (List.mem_of_getElem? (i := 67) rfl) rfl
theorem ml_L_224 : Cond.methodLink RL 224 yX10_restore ∈ uT := uM2 (List.mem_of_getElem? (i := 167) rfl) rfl
theorem im_yX10_restore : Cond.instanceMethod yX10_restore ∈ uT := uM2 (List.mem_of_getElem? (i := 168) rfl) rfl
theorem se_yX10_restore : Cond.selects yX10_restore.cls yX10_restore yX10_restore ∈ uT := uM2 (List.mem_of_getElem? (i := 169) rfl) rfl
theorem ml_L_227 : Cond.methodLink RL 227 yX11_restore ∈ uT := uM7 (List.mem_of_getElem? (i := 81) rfl) rfl
theorem im_yX11_restore : Cond.instanceMethod yX11_restore ∈ uT := uM7 (List.mem_of_getElem? (i := 82) rfl) rfl
theorem se_yX11_restore : Cond.selects yX11_restore.cls yX11_restore yX11_restore ∈ uT := uM7 (List.mem_of_getElem? (i := 83) rfl) rfl
theorem ml_L_228 : Cond.methodLink RL 228 yX10_count ∈ uT := uM2 (List.mem_of_getElem? (i := 171) rfl) rfl
theorem im_yX10_count : Cond.instanceMethod yX10_count ∈ uT := uM2 (List.mem_of_getElem? (i := 172) rfl) rfl
theorem se_yX10_count : Cond.selects yX10_count.cls yX10_count yX10_count ∈ uT := uM2 (List.mem_of_getElem? (i := 173) rfl) rfl
theorem ml_L_231 : Cond.methodLink RL 231 yX11_count ∈ uT := uM7 (List.mem_of_getElem? (i := 85) rfl) rfl
theorem im_yX11_count : Cond.instanceMethod yX11_count ∈ uT := uM7 (List.mem_of_getElem? (i := 86) rfl) rfl
theorem se_yX11_count : Cond.selects yX11_count.cls yX11_count yX11_count ∈ uT := uM7 (List.mem_of_getElem? (i := 87) rfl) rfl
set_option maxHeartbeats 4000000 in
set_option maxRecDepth 100000 in
theorem lc_0 {g : gT} {p : Program} {l : Launch} {e : Env} {s : State} {m : MethodId} {args : Array Value} {below : List Frame} {meth : Method} {c9 : Code} {cells slots : Nat} {Q : State → Prop} {b L n : Nat} {xs : Nat → Int32} {M : Mem} {st : St} (F : Fx g p s m args c9 cL_law_ 7 uL_law_ RL) (hb : gB g = s.heap.size) (hst : l.stackTraces = false) (tX : Ty g 10 0) (tM : Ty g 11 250) (tO : Ty g 17 331) (h332 : 332 ∉ gL g) (h333 : 333 ∉ gL g) (hX : va_X b L xs s s.heap) (hbl : b < s.heap.size) (hn : n + 7 ≤ L) (hL : L < 100000) (hI : Inv M st) (hC : cells + 10 ≤ 601024) (hD : slots + 60 ≤ 7293034) (kk : ∀ M' st', Inv M' st' → V g p l e room_1 s m args below meth c9 7 (cells + 10) (slots + 60) Q 2639 [(4, .int (nI n)), (3, .ref (gAd g 331)), (2, .ref (gAd g 250)), (1, .ref (gAd g 0)), (0, .ref b)] [] M') : V g p l e room_1 s m args below meth c9 7 cells slots Q 188 [(4, .int (nI n)), (3, .ref (gAd g 331)), (2, .ref (gAd g 250)), (1, .ref (gAd g 0)), (0, .ref b)] [] M := by
  obtain ⟨r, M1, M2, e1, e2, hI2⟩ := cb_feed hI (xs (n + 1)) (xs (n + 2)) (xs (n + 3)) (xs (n + 4)) (xs (n + 5))
  dsimp only at e2
  refine v_aload_n F dL_law__188 rfl 3 rfl ?_
  refine v_arg F hb hX hbl 1 (by omega) hL 4 0 rfl rfl dL_law__189 dL_law__190 dL_law__192 (by decide) dL_law__193 dL_law__194 ?_
  refine v_arg F hb hX hbl 2 (by omega) hL 4 0 rfl rfl dL_law__195 dL_law__196 dL_law__198 (by decide) dL_law__199 dL_law__200 ?_
  refine v_arg F hb hX hbl 3 (by omega) hL 4 0 rfl rfl dL_law__201 dL_law__202 dL_law__204 (by decide) dL_law__205 dL_law__206 ?_
  refine v_arg F hb hX hbl 4 (by omega) hL 4 0 rfl rfl dL_law__207 dL_law__208 dL_law__210 (by decide) dL_law__211 dL_law__212 ?_
  refine v_arg F hb hX hbl 5 (by omega) hL 4 0 rfl rfl dL_law__213 dL_law__214 dL_law__216 (by decide) dL_law__217 dL_law__218 ?_
  refine v_callVi (As := [.int (xs (n + 1)), .int (xs (n + 2)), .int (xs (n + 3)), .int (xs (n + 4)), .int (xs (n + 5))]) (rest := []) F (c_X10_feed l F.2.2.1 tX e1) (cwV 5 F.1.2.2.2.2 (gU_V ml_L_113 im_yX10_feed se_yX10_feed ini_X10 cd_X10_feed) rfl rfl rfl (by decide +kernel) ⟨Nat.le_of_ble_eq_true rfl, Nat.le_of_ble_eq_true rfl⟩) tX (by decide) rfl rfl rfl (Nat.le_of_ble_eq_true rfl) dL_law__219 ⟨by show _ ≤ 601024; omega, by show _ ≤ 7293034; omega⟩ ?_
  refine v_aload_n F dL_law__222 rfl 2 rfl ?_
  refine v_arg F hb hX hbl 1 (by omega) hL 4 0 rfl rfl dL_law__223 dL_law__224 dL_law__226 (by decide) dL_law__227 dL_law__228 ?_
  refine v_arg F hb hX hbl 2 (by omega) hL 4 0 rfl rfl dL_law__229 dL_law__230 dL_law__232 (by decide) dL_law__233 dL_law__234 ?_
  refine v_arg F hb hX hbl 3 (by omega) hL 4 0 rfl rfl dL_law__235 dL_law__236 dL_law__238 (by decide) dL_law__239 dL_law__240 ?_
  refine v_arg F hb hX hbl 4 (by omega) hL 4 0 rfl rfl dL_law__241 dL_law__242 dL_law__244 (by decide) dL_law__245 dL_law__246 ?_
  refine v_arg F hb hX hbl 5 (by omega) hL 4 0 rfl rfl dL_law__247 dL_law__248 dL_law__250 (by decide) dL_law__251 dL_law__252 ?_
  refine v_callVi (As := [.int (xs (n + 1)), .int (xs (n + 2)), .int (xs (n + 3)), .int (xs (n + 4)), .int (xs (n + 5))]) (rest := [.int r]) F (c_X11_feed l F.2.2.1 tM e2) (cwV 5 F.1.2.2.2.2 (gU_V ml_L_117 im_yX11_feed se_yX11_feed ini_X11 cd_X11_feed) rfl rfl rfl (by decide +kernel) ⟨Nat.le_of_ble_eq_true rfl, Nat.le_of_ble_eq_true rfl⟩) tM (by decide) rfl rfl rfl (Nat.le_of_ble_eq_true rfl) dL_law__253 ⟨by show _ ≤ 601024; omega, by show _ ≤ 7293034; omega⟩ ?_
  refine v_icmp_eq (tgt := 2639) F dL_law__256 (by decide) (fun _ => ?_) (fun h => absurd rfl h)
  refine v_widen (k := cells + 10) (n := slots + 60) (by omega) (by omega) ?_
  exact kk _ _ hI2
set_option maxHeartbeats 4000000 in
set_option maxRecDepth 100000 in
theorem lc_1 {g : gT} {p : Program} {l : Launch} {e : Env} {s : State} {m : MethodId} {args : Array Value} {below : List Frame} {meth : Method} {c9 : Code} {cells slots : Nat} {Q : State → Prop} {b L n : Nat} {xs : Nat → Int32} {M : Mem} {st : St} (F : Fx g p s m args c9 cL_law_ 7 uL_law_ RL) (hb : gB g = s.heap.size) (hst : l.stackTraces = false) (tX : Ty g 10 0) (tM : Ty g 11 250) (tO : Ty g 17 331) (h332 : 332 ∉ gL g) (h333 : 333 ∉ gL g) (hX : va_X b L xs s s.heap) (hbl : b < s.heap.size) (hn : n + 7 ≤ L) (hL : L < 100000) (hI : Inv M st) (hC : cells + 10 ≤ 601024) (hD : slots + 60 ≤ 7293034) (kk : ∀ M' st', Inv M' st' → V g p l e room_1 s m args below meth c9 7 (cells + 10) (slots + 60) Q 2639 [(4, .int (nI n)), (3, .ref (gAd g 331)), (2, .ref (gAd g 250)), (1, .ref (gAd g 0)), (0, .ref b)] [] M') : V g p l e room_1 s m args below meth c9 7 cells slots Q 261 [(4, .int (nI n)), (3, .ref (gAd g 331)), (2, .ref (gAd g 250)), (1, .ref (gAd g 0)), (0, .ref b)] [] M := by
  obtain ⟨t, M1, r, M2, e1, e2, e3, e4, hI2⟩ := cb_law hI (xs (n + 1))
  dsimp only at e2
  refine v_aload_n F dL_law__261 rfl 3 rfl ?_
  refine v_arg F hb hX hbl 1 (by omega) hL 4 0 rfl rfl dL_law__262 dL_law__263 dL_law__265 (by decide) dL_law__266 dL_law__267 ?_
  refine v_aload_n F dL_law__268 rfl 1 rfl ?_
  refine v_callSXi (As := [.ref (gAd g 0), .int (xs (n + 1)), .ref (gAd g 331)]) (rest := []) F (c_L_law l hst F.2.2.1 tX tO e1) (vx_cwSW 3 F.1.2.2.2.2 (gU_SX ml_L_118 st_yL_law ini_L cd_L_law) rfl rfl rfl (by decide +kernel) ⟨Nat.le_of_ble_eq_true rfl, Nat.le_of_ble_eq_true rfl⟩) rfl rfl (Nat.le_of_ble_eq_true rfl) dL_law__269 ⟨by show _ ≤ 601024; omega, by show _ ≤ 7293034; omega⟩ ?_
  refine v_istore (lv' := [(5, .int t), (4, .int (nI n)), (3, .ref (gAd g 331)), (2, .ref (gAd g 250)), (1, .ref (gAd g 0)), (0, .ref b)]) F dL_law__272 (by decide) rfl ?_
  refine v_aload_n F dL_law__274 rfl 3 rfl ?_
  refine v_arg F hb hX hbl 1 (by omega) hL 5 1 rfl rfl dL_law__275 dL_law__276 dL_law__278 (by decide) dL_law__279 dL_law__280 ?_
  refine v_callVi (As := [.int (xs (n + 1))]) (rest := []) F (c_X11_law l F.2.2.1 tM e2) (cwV 1 F.1.2.2.2.2 (gU_V ml_L_123 im_yX11_law se_yX11_law ini_X11 cd_X11_law) rfl rfl rfl (by decide +kernel) ⟨Nat.le_of_ble_eq_true rfl, Nat.le_of_ble_eq_true rfl⟩) tM (by decide) rfl rfl rfl (Nat.le_of_ble_eq_true rfl) dL_law__281 ⟨by show _ ≤ 601024; omega, by show _ ≤ 7293034; omega⟩ ?_
  refine v_istore (lv' := [(6, .int r), (5, .int t), (4, .int (nI n)), (3, .ref (gAd g 331)), (2, .ref (gAd g 250)), (1, .ref (gAd g 0)), (0, .ref b)]) F dL_law__284 (by decide) rfl ?_
  refine v_aload_n F dL_law__286 rfl 4 rfl ?_
  refine v_callVi (As := []) (rest := []) F (c_X11_thrown l F.2.2.1 tM (rfl : f_X11_thrown M2 250 = some (M2 250 0, M2))) (cwV 0 F.1.2.2.2.2 (gU_V ml_L_124 im_yX11_thrown se_yX11_thrown ini_X11 cd_X11_thrown) rfl rfl rfl (by decide +kernel) ⟨Nat.le_of_ble_eq_true rfl, Nat.le_of_ble_eq_true rfl⟩) tM (by decide) rfl rfl rfl (Nat.le_of_ble_eq_true rfl) dL_law__287 ⟨by show _ ≤ 601024; omega, by show _ ≤ 7293034; omega⟩ ?_
  refine v_iload F dL_law__290 1 rfl ?_
  refine v_icmp_eq (tgt := 297) F dL_law__292 (by decide) (fun _ => ?_) (fun h => absurd e3 h)
  refine v_iload F dL_law__297 1 rfl ?_
  refine v_if_ne (tgt := 314) F dL_law__299 (by decide) (fun _ => ?_) (fun ht => ?_)
  · refine v_goto (tgt := 2639) F dL_law__314 (by decide) ?_
    refine v_widen (k := cells + 10) (n := slots + 60) (by omega) (by omega) ?_
    exact v_sub (fun ls h9 => lv_sub h9 [2, 3, 4, 5, 6] rfl) (kk _ _ hI2)
  · refine v_aload_n F dL_law__302 rfl 3 rfl ?_
    refine v_iconst (v := 0) F dL_law__303 (by decide) ?_
    refine v_lald F tO out_in dL_law__304 ?_
    refine v_iload F dL_law__305 0 rfl ?_
    refine v_i2l F dL_law__307 rfl ?_
    rw [show (M2 250 0, M2).snd 331 (0 : Int32).toNatClampNeg = r from e4 ht]
    refine v_lcmp F dL_law__308 ?_
    rw [cmp_eq]
    refine v_if_eq (tgt := 314) F dL_law__309 (by decide) (fun _ => ?_) (fun h => absurd rfl h)
    refine v_goto (tgt := 2639) F dL_law__314 (by decide) ?_
    refine v_widen (k := cells + 10) (n := slots + 60) (by omega) (by omega) ?_
    exact v_sub (fun ls h9 => lv_sub h9 [2, 3, 4, 5, 6] rfl) (kk _ _ hI2)
set_option maxHeartbeats 4000000 in
set_option maxRecDepth 100000 in
theorem lc_2 {g : gT} {p : Program} {l : Launch} {e : Env} {s : State} {m : MethodId} {args : Array Value} {below : List Frame} {meth : Method} {c9 : Code} {cells slots : Nat} {Q : State → Prop} {b L n : Nat} {xs : Nat → Int32} {M : Mem} {st : St} (F : Fx g p s m args c9 cL_law_ 7 uL_law_ RL) (hb : gB g = s.heap.size) (hst : l.stackTraces = false) (tX : Ty g 10 0) (tM : Ty g 11 250) (tO : Ty g 17 331) (h332 : 332 ∉ gL g) (h333 : 333 ∉ gL g) (hX : va_X b L xs s s.heap) (hbl : b < s.heap.size) (hn : n + 7 ≤ L) (hL : L < 100000) (hI : Inv M st) (hC : cells + 10 ≤ 601024) (hD : slots + 60 ≤ 7293034) (kk : ∀ M' st', Inv M' st' → V g p l e room_1 s m args below meth c9 7 (cells + 10) (slots + 60) Q 2639 [(4, .int (nI n)), (3, .ref (gAd g 331)), (2, .ref (gAd g 250)), (1, .ref (gAd g 0)), (0, .ref b)] [] M') : V g p l e room_1 s m args below meth c9 7 cells slots Q 317 [(4, .int (nI n)), (3, .ref (gAd g 331)), (2, .ref (gAd g 250)), (1, .ref (gAd g 0)), (0, .ref b)] [] M := by
  obtain ⟨r, M1, M2, e1, e2, hI2⟩ := cb_fault hI 
  dsimp only at e2
  refine v_aload_n F dL_law__317 rfl 3 rfl ?_
  refine v_callVi (As := []) (rest := []) F (c_X10_fault l F.2.2.1 tX e1) (cwV 0 F.1.2.2.2.2 (gU_V ml_L_128 im_yX10_fault se_yX10_fault ini_X10 cd_X10_fault) rfl rfl rfl (by decide +kernel) ⟨Nat.le_of_ble_eq_true rfl, Nat.le_of_ble_eq_true rfl⟩) tX (by decide) rfl rfl rfl (Nat.le_of_ble_eq_true rfl) dL_law__318 ⟨by show _ ≤ 601024; omega, by show _ ≤ 7293034; omega⟩ ?_
  refine v_aload_n F dL_law__321 rfl 2 rfl ?_
  refine v_callVi (As := []) (rest := [.int r]) F (c_X11_fault l F.2.2.1 tM e2) (cwV 0 F.1.2.2.2.2 (gU_V ml_L_131 im_yX11_fault se_yX11_fault ini_X11 cd_X11_fault) rfl rfl rfl (by decide +kernel) ⟨Nat.le_of_ble_eq_true rfl, Nat.le_of_ble_eq_true rfl⟩) tM (by decide) rfl rfl rfl (Nat.le_of_ble_eq_true rfl) dL_law__322 ⟨by show _ ≤ 601024; omega, by show _ ≤ 7293034; omega⟩ ?_
  refine v_icmp_eq (tgt := 2639) F dL_law__325 (by decide) (fun _ => ?_) (fun h => absurd rfl h)
  refine v_widen (k := cells + 10) (n := slots + 60) (by omega) (by omega) ?_
  exact kk _ _ hI2
set_option maxHeartbeats 4000000 in
set_option maxRecDepth 100000 in
theorem lc_3 {g : gT} {p : Program} {l : Launch} {e : Env} {s : State} {m : MethodId} {args : Array Value} {below : List Frame} {meth : Method} {c9 : Code} {cells slots : Nat} {Q : State → Prop} {b L n : Nat} {xs : Nat → Int32} {M : Mem} {st : St} (F : Fx g p s m args c9 cL_law_ 7 uL_law_ RL) (hb : gB g = s.heap.size) (hst : l.stackTraces = false) (tX : Ty g 10 0) (tM : Ty g 11 250) (tO : Ty g 17 331) (h332 : 332 ∉ gL g) (h333 : 333 ∉ gL g) (hX : va_X b L xs s s.heap) (hbl : b < s.heap.size) (hn : n + 7 ≤ L) (hL : L < 100000) (hI : Inv M st) (hC : cells + 10 ≤ 601024) (hD : slots + 60 ≤ 7293034) (kk : ∀ M' st', Inv M' st' → V g p l e room_1 s m args below meth c9 7 (cells + 10) (slots + 60) Q 2639 [(4, .int (nI n)), (3, .ref (gAd g 331)), (2, .ref (gAd g 250)), (1, .ref (gAd g 0)), (0, .ref b)] [] M') : V g p l e room_1 s m args below meth c9 7 cells slots Q 330 [(4, .int (nI n)), (3, .ref (gAd g 331)), (2, .ref (gAd g 250)), (1, .ref (gAd g 0)), (0, .ref b)] [] M := by
  obtain ⟨t, M1, r, M2, e1, e2, e3, e4, hI2⟩ := cb_deck hI (xs (n + 1))
  dsimp only at e2
  refine v_aload_n F dL_law__330 rfl 3 rfl ?_
  refine v_arg F hb hX hbl 1 (by omega) hL 4 0 rfl rfl dL_law__331 dL_law__332 dL_law__334 (by decide) dL_law__335 dL_law__336 ?_
  refine v_aload_n F dL_law__337 rfl 1 rfl ?_
  refine v_callSXi (As := [.ref (gAd g 0), .int (xs (n + 1)), .ref (gAd g 331)]) (rest := []) F (c_L_deck l hst F.2.2.1 tX tO e1) (vx_cwSW 3 F.1.2.2.2.2 (gU_SX ml_L_132 st_yL_deck ini_L cd_L_deck) rfl rfl rfl (by decide +kernel) ⟨Nat.le_of_ble_eq_true rfl, Nat.le_of_ble_eq_true rfl⟩) rfl rfl (Nat.le_of_ble_eq_true rfl) dL_law__338 ⟨by show _ ≤ 601024; omega, by show _ ≤ 7293034; omega⟩ ?_
  refine v_istore (lv' := [(5, .int t), (4, .int (nI n)), (3, .ref (gAd g 331)), (2, .ref (gAd g 250)), (1, .ref (gAd g 0)), (0, .ref b)]) F dL_law__341 (by decide) rfl ?_
  refine v_aload_n F dL_law__343 rfl 3 rfl ?_
  refine v_arg F hb hX hbl 1 (by omega) hL 5 1 rfl rfl dL_law__344 dL_law__345 dL_law__347 (by decide) dL_law__348 dL_law__349 ?_
  refine v_callVi (As := [.int (xs (n + 1))]) (rest := []) F (c_X11_deck l F.2.2.1 tM e2) (cwV 1 F.1.2.2.2.2 (gU_V ml_L_134 im_yX11_deck se_yX11_deck ini_X11 cd_X11_deck) rfl rfl rfl (by decide +kernel) ⟨Nat.le_of_ble_eq_true rfl, Nat.le_of_ble_eq_true rfl⟩) tM (by decide) rfl rfl rfl (Nat.le_of_ble_eq_true rfl) dL_law__350 ⟨by show _ ≤ 601024; omega, by show _ ≤ 7293034; omega⟩ ?_
  refine v_istore (lv' := [(6, .int r), (5, .int t), (4, .int (nI n)), (3, .ref (gAd g 331)), (2, .ref (gAd g 250)), (1, .ref (gAd g 0)), (0, .ref b)]) F dL_law__353 (by decide) rfl ?_
  refine v_aload_n F dL_law__355 rfl 4 rfl ?_
  refine v_callVi (As := []) (rest := []) F (c_X11_thrown l F.2.2.1 tM (rfl : f_X11_thrown M2 250 = some (M2 250 0, M2))) (cwV 0 F.1.2.2.2.2 (gU_V ml_L_124 im_yX11_thrown se_yX11_thrown ini_X11 cd_X11_thrown) rfl rfl rfl (by decide +kernel) ⟨Nat.le_of_ble_eq_true rfl, Nat.le_of_ble_eq_true rfl⟩) tM (by decide) rfl rfl rfl (Nat.le_of_ble_eq_true rfl) dL_law__356 ⟨by show _ ≤ 601024; omega, by show _ ≤ 7293034; omega⟩ ?_
  refine v_iload F dL_law__359 1 rfl ?_
  refine v_icmp_eq (tgt := 366) F dL_law__361 (by decide) (fun _ => ?_) (fun h => absurd e3 h)
  refine v_iload F dL_law__366 1 rfl ?_
  refine v_if_ne (tgt := 383) F dL_law__368 (by decide) (fun _ => ?_) (fun ht => ?_)
  · refine v_goto (tgt := 2639) F dL_law__383 (by decide) ?_
    refine v_widen (k := cells + 10) (n := slots + 60) (by omega) (by omega) ?_
    exact v_sub (fun ls h9 => lv_sub h9 [2, 3, 4, 5, 6] rfl) (kk _ _ hI2)
  · refine v_aload_n F dL_law__371 rfl 3 rfl ?_
    refine v_iconst (v := 0) F dL_law__372 (by decide) ?_
    refine v_lald F tO out_in dL_law__373 ?_
    refine v_iload F dL_law__374 0 rfl ?_
    refine v_i2l F dL_law__376 rfl ?_
    rw [show (M2 250 0, M2).snd 331 (0 : Int32).toNatClampNeg = r from e4 ht]
    refine v_lcmp F dL_law__377 ?_
    rw [cmp_eq]
    refine v_if_eq (tgt := 383) F dL_law__378 (by decide) (fun _ => ?_) (fun h => absurd rfl h)
    refine v_goto (tgt := 2639) F dL_law__383 (by decide) ?_
    refine v_widen (k := cells + 10) (n := slots + 60) (by omega) (by omega) ?_
    exact v_sub (fun ls h9 => lv_sub h9 [2, 3, 4, 5, 6] rfl) (kk _ _ hI2)
set_option maxHeartbeats 4000000 in
set_option maxRecDepth 100000 in
theorem lc_4 {g : gT} {p : Program} {l : Launch} {e : Env} {s : State} {m : MethodId} {args : Array Value} {below : List Frame} {meth : Method} {c9 : Code} {cells slots : Nat} {Q : State → Prop} {b L n : Nat} {xs : Nat → Int32} {M : Mem} {st : St} (F : Fx g p s m args c9 cL_law_ 7 uL_law_ RL) (hb : gB g = s.heap.size) (hst : l.stackTraces = false) (tX : Ty g 10 0) (tM : Ty g 11 250) (tO : Ty g 17 331) (h332 : 332 ∉ gL g) (h333 : 333 ∉ gL g) (hX : va_X b L xs s s.heap) (hbl : b < s.heap.size) (hn : n + 7 ≤ L) (hL : L < 100000) (hI : Inv M st) (hC : cells + 10 ≤ 601024) (hD : slots + 60 ≤ 7293034) (kk : ∀ M' st', Inv M' st' → V g p l e room_1 s m args below meth c9 7 (cells + 10) (slots + 60) Q 2639 [(4, .int (nI n)), (3, .ref (gAd g 331)), (2, .ref (gAd g 250)), (1, .ref (gAd g 0)), (0, .ref b)] [] M') : V g p l e room_1 s m args below meth c9 7 cells slots Q 386 [(4, .int (nI n)), (3, .ref (gAd g 331)), (2, .ref (gAd g 250)), (1, .ref (gAd g 0)), (0, .ref b)] [] M := by
  obtain ⟨t, M1, r, M2, e1, e2, e3, e4, hI2⟩ := cb_set hI (xs (n + 1)) (xs (n + 2))
  dsimp only at e2
  refine v_aload_n F dL_law__386 rfl 3 rfl ?_
  refine v_arg F hb hX hbl 1 (by omega) hL 4 0 rfl rfl dL_law__387 dL_law__388 dL_law__390 (by decide) dL_law__391 dL_law__392 ?_
  refine v_arg F hb hX hbl 2 (by omega) hL 4 0 rfl rfl dL_law__393 dL_law__394 dL_law__396 (by decide) dL_law__397 dL_law__398 ?_
  refine v_aload_n F dL_law__399 rfl 1 rfl ?_
  refine v_callSXi (As := [.ref (gAd g 0), .int (xs (n + 1)), .int (xs (n + 2)), .ref (gAd g 331)]) (rest := []) F (c_L_set l hst F.2.2.1 tX tO e1) (vx_cwSW 4 F.1.2.2.2.2 (gU_SX ml_L_135 st_yL_set ini_L cd_L_set) rfl rfl rfl (by decide +kernel) ⟨Nat.le_of_ble_eq_true rfl, Nat.le_of_ble_eq_true rfl⟩) rfl rfl (Nat.le_of_ble_eq_true rfl) dL_law__400 ⟨by show _ ≤ 601024; omega, by show _ ≤ 7293034; omega⟩ ?_
  refine v_istore (lv' := [(5, .int t), (4, .int (nI n)), (3, .ref (gAd g 331)), (2, .ref (gAd g 250)), (1, .ref (gAd g 0)), (0, .ref b)]) F dL_law__403 (by decide) rfl ?_
  refine v_aload_n F dL_law__405 rfl 3 rfl ?_
  refine v_arg F hb hX hbl 1 (by omega) hL 5 1 rfl rfl dL_law__406 dL_law__407 dL_law__409 (by decide) dL_law__410 dL_law__411 ?_
  refine v_arg F hb hX hbl 2 (by omega) hL 5 1 rfl rfl dL_law__412 dL_law__413 dL_law__415 (by decide) dL_law__416 dL_law__417 ?_
  refine v_callVi (As := [.int (xs (n + 1)), .int (xs (n + 2))]) (rest := []) F (c_X11_set l F.2.2.1 tM e2) (cwV 2 F.1.2.2.2.2 (gU_V ml_L_138 im_yX11_set se_yX11_set ini_X11 cd_X11_set) rfl rfl rfl (by decide +kernel) ⟨Nat.le_of_ble_eq_true rfl, Nat.le_of_ble_eq_true rfl⟩) tM (by decide) rfl rfl rfl (Nat.le_of_ble_eq_true rfl) dL_law__418 ⟨by show _ ≤ 601024; omega, by show _ ≤ 7293034; omega⟩ ?_
  refine v_istore (lv' := [(6, .int r), (5, .int t), (4, .int (nI n)), (3, .ref (gAd g 331)), (2, .ref (gAd g 250)), (1, .ref (gAd g 0)), (0, .ref b)]) F dL_law__421 (by decide) rfl ?_
  refine v_aload_n F dL_law__423 rfl 4 rfl ?_
  refine v_callVi (As := []) (rest := []) F (c_X11_thrown l F.2.2.1 tM (rfl : f_X11_thrown M2 250 = some (M2 250 0, M2))) (cwV 0 F.1.2.2.2.2 (gU_V ml_L_124 im_yX11_thrown se_yX11_thrown ini_X11 cd_X11_thrown) rfl rfl rfl (by decide +kernel) ⟨Nat.le_of_ble_eq_true rfl, Nat.le_of_ble_eq_true rfl⟩) tM (by decide) rfl rfl rfl (Nat.le_of_ble_eq_true rfl) dL_law__424 ⟨by show _ ≤ 601024; omega, by show _ ≤ 7293034; omega⟩ ?_
  refine v_iload F dL_law__427 1 rfl ?_
  refine v_icmp_eq (tgt := 434) F dL_law__429 (by decide) (fun _ => ?_) (fun h => absurd e3 h)
  refine v_iload F dL_law__434 1 rfl ?_
  refine v_if_ne (tgt := 451) F dL_law__436 (by decide) (fun _ => ?_) (fun ht => ?_)
  · refine v_goto (tgt := 2639) F dL_law__451 (by decide) ?_
    refine v_widen (k := cells + 10) (n := slots + 60) (by omega) (by omega) ?_
    exact v_sub (fun ls h9 => lv_sub h9 [2, 3, 4, 5, 6] rfl) (kk _ _ hI2)
  · refine v_aload_n F dL_law__439 rfl 3 rfl ?_
    refine v_iconst (v := 0) F dL_law__440 (by decide) ?_
    refine v_lald F tO out_in dL_law__441 ?_
    refine v_iload F dL_law__442 0 rfl ?_
    refine v_i2l F dL_law__444 rfl ?_
    rw [show (M2 250 0, M2).snd 331 (0 : Int32).toNatClampNeg = r from e4 ht]
    refine v_lcmp F dL_law__445 ?_
    rw [cmp_eq]
    refine v_if_eq (tgt := 451) F dL_law__446 (by decide) (fun _ => ?_) (fun h => absurd rfl h)
    refine v_goto (tgt := 2639) F dL_law__451 (by decide) ?_
    refine v_widen (k := cells + 10) (n := slots + 60) (by omega) (by omega) ?_
    exact v_sub (fun ls h9 => lv_sub h9 [2, 3, 4, 5, 6] rfl) (kk _ _ hI2)
set_option maxHeartbeats 4000000 in
set_option maxRecDepth 100000 in
theorem lc_5z {g : gT} {p : Program} {l : Launch} {e : Env} {s : State} {m : MethodId} {args : Array Value} {below : List Frame} {meth : Method} {c9 : Code} {cells slots : Nat} {Q : State → Prop} {b L n : Nat} {xs : Nat → Int32} {M : Mem} {st : St} (F : Fx g p s m args c9 cL_law_ 7 uL_law_ RL) (hb : gB g = s.heap.size) (hst : l.stackTraces = false) (tX : Ty g 10 0) (tM : Ty g 11 250) (tO : Ty g 17 331) (h332 : 332 ∉ gL g) (h333 : 333 ∉ gL g) (hX : va_X b L xs s s.heap) (hbl : b < s.heap.size) (hn : n + 7 ≤ L) (hL : L < 100000) (hI : Inv M st) (hC : cells + 10 ≤ 601024) (hD : slots + 60 ≤ 7293034) (kk : ∀ M' st', Inv M' st' → V g p l e room_1 s m args below meth c9 7 (cells + 10) (slots + 60) Q 2639 [(4, .int (nI n)), (3, .ref (gAd g 331)), (2, .ref (gAd g 250)), (1, .ref (gAd g 0)), (0, .ref b)] [] M') (hz : xs (n + 2) = 0) : V g p l e room_1 s m args below meth c9 7 cells slots Q 454 [(4, .int (nI n)), (3, .ref (gAd g 331)), (2, .ref (gAd g 250)), (1, .ref (gAd g 0)), (0, .ref b)] [] M := by
  obtain ⟨t, M1, r, M2, e1, e2, e3, e4, hI2⟩ := cb_stay hI (xs (n + 1)) (0) (Or.inl rfl)
  dsimp only at e2
  refine v_aload_n F dL_law__454 rfl 3 rfl ?_
  refine v_arg F hb hX hbl 1 (by omega) hL 4 0 rfl rfl dL_law__455 dL_law__456 dL_law__458 (by decide) dL_law__459 dL_law__460 ?_
  refine v_arg F hb hX hbl 2 (by omega) hL 4 0 rfl rfl dL_law__461 dL_law__462 dL_law__464 (by decide) dL_law__465 dL_law__466 ?_
  refine v_if_eq (tgt := 474) F dL_law__467 (by decide) (fun _ => ?_) (fun h => absurd hz h)
  refine v_iconst (v := 0) F dL_law__474 (by decide) ?_
  refine v_aload_n F dL_law__475 rfl 1 rfl ?_
  refine v_callSXi (As := [.ref (gAd g 0), .int (xs (n + 1)), .int (0), .ref (gAd g 331)]) (rest := []) F (c_L_stay l hst F.2.2.1 tX tO e1) (vx_cwSW 4 F.1.2.2.2.2 (gU_SX ml_L_139 st_yL_stay ini_L cd_L_stay) rfl rfl rfl (by decide +kernel) ⟨Nat.le_of_ble_eq_true rfl, Nat.le_of_ble_eq_true rfl⟩) rfl rfl (Nat.le_of_ble_eq_true rfl) dL_law__476 ⟨by show _ ≤ 601024; omega, by show _ ≤ 7293034; omega⟩ ?_
  refine v_istore (lv' := [(5, .int t), (4, .int (nI n)), (3, .ref (gAd g 331)), (2, .ref (gAd g 250)), (1, .ref (gAd g 0)), (0, .ref b)]) F dL_law__479 (by decide) rfl ?_
  refine v_aload_n F dL_law__481 rfl 3 rfl ?_
  refine v_arg F hb hX hbl 1 (by omega) hL 5 1 rfl rfl dL_law__482 dL_law__483 dL_law__485 (by decide) dL_law__486 dL_law__487 ?_
  refine v_arg F hb hX hbl 2 (by omega) hL 5 1 rfl rfl dL_law__488 dL_law__489 dL_law__491 (by decide) dL_law__492 dL_law__493 ?_
  refine v_if_eq (tgt := 501) F dL_law__494 (by decide) (fun _ => ?_) (fun h => absurd hz h)
  refine v_iconst (v := 0) F dL_law__501 (by decide) ?_
  refine v_callVi (As := [.int (xs (n + 1)), .int (0)]) (rest := []) F (c_X11_stay l F.2.2.1 tM e2) (cwV 2 F.1.2.2.2.2 (gU_V ml_L_142 im_yX11_stay se_yX11_stay ini_X11 cd_X11_stay) rfl rfl rfl (by decide +kernel) ⟨Nat.le_of_ble_eq_true rfl, Nat.le_of_ble_eq_true rfl⟩) tM (by decide) rfl rfl rfl (Nat.le_of_ble_eq_true rfl) dL_law__502 ⟨by show _ ≤ 601024; omega, by show _ ≤ 7293034; omega⟩ ?_
  refine v_istore (lv' := [(6, .int r), (5, .int t), (4, .int (nI n)), (3, .ref (gAd g 331)), (2, .ref (gAd g 250)), (1, .ref (gAd g 0)), (0, .ref b)]) F dL_law__505 (by decide) rfl ?_
  refine v_aload_n F dL_law__507 rfl 4 rfl ?_
  refine v_callVi (As := []) (rest := []) F (c_X11_thrown l F.2.2.1 tM (rfl : f_X11_thrown M2 250 = some (M2 250 0, M2))) (cwV 0 F.1.2.2.2.2 (gU_V ml_L_124 im_yX11_thrown se_yX11_thrown ini_X11 cd_X11_thrown) rfl rfl rfl (by decide +kernel) ⟨Nat.le_of_ble_eq_true rfl, Nat.le_of_ble_eq_true rfl⟩) tM (by decide) rfl rfl rfl (Nat.le_of_ble_eq_true rfl) dL_law__508 ⟨by show _ ≤ 601024; omega, by show _ ≤ 7293034; omega⟩ ?_
  refine v_iload F dL_law__511 1 rfl ?_
  refine v_icmp_eq (tgt := 518) F dL_law__513 (by decide) (fun _ => ?_) (fun h => absurd e3 h)
  refine v_iload F dL_law__518 1 rfl ?_
  refine v_if_ne (tgt := 535) F dL_law__520 (by decide) (fun _ => ?_) (fun ht => ?_)
  · refine v_goto (tgt := 2639) F dL_law__535 (by decide) ?_
    refine v_widen (k := cells + 10) (n := slots + 60) (by omega) (by omega) ?_
    exact v_sub (fun ls h9 => lv_sub h9 [2, 3, 4, 5, 6] rfl) (kk _ _ hI2)
  · refine v_aload_n F dL_law__523 rfl 3 rfl ?_
    refine v_iconst (v := 0) F dL_law__524 (by decide) ?_
    refine v_lald F tO out_in dL_law__525 ?_
    refine v_iload F dL_law__526 0 rfl ?_
    refine v_i2l F dL_law__528 rfl ?_
    rw [show (M2 250 0, M2).snd 331 (0 : Int32).toNatClampNeg = r from e4 ht]
    refine v_lcmp F dL_law__529 ?_
    rw [cmp_eq]
    refine v_if_eq (tgt := 535) F dL_law__530 (by decide) (fun _ => ?_) (fun h => absurd rfl h)
    refine v_goto (tgt := 2639) F dL_law__535 (by decide) ?_
    refine v_widen (k := cells + 10) (n := slots + 60) (by omega) (by omega) ?_
    exact v_sub (fun ls h9 => lv_sub h9 [2, 3, 4, 5, 6] rfl) (kk _ _ hI2)
set_option maxHeartbeats 4000000 in
set_option maxRecDepth 100000 in
theorem lc_5n {g : gT} {p : Program} {l : Launch} {e : Env} {s : State} {m : MethodId} {args : Array Value} {below : List Frame} {meth : Method} {c9 : Code} {cells slots : Nat} {Q : State → Prop} {b L n : Nat} {xs : Nat → Int32} {M : Mem} {st : St} (F : Fx g p s m args c9 cL_law_ 7 uL_law_ RL) (hb : gB g = s.heap.size) (hst : l.stackTraces = false) (tX : Ty g 10 0) (tM : Ty g 11 250) (tO : Ty g 17 331) (h332 : 332 ∉ gL g) (h333 : 333 ∉ gL g) (hX : va_X b L xs s s.heap) (hbl : b < s.heap.size) (hn : n + 7 ≤ L) (hL : L < 100000) (hI : Inv M st) (hC : cells + 10 ≤ 601024) (hD : slots + 60 ≤ 7293034) (kk : ∀ M' st', Inv M' st' → V g p l e room_1 s m args below meth c9 7 (cells + 10) (slots + 60) Q 2639 [(4, .int (nI n)), (3, .ref (gAd g 331)), (2, .ref (gAd g 250)), (1, .ref (gAd g 0)), (0, .ref b)] [] M') (hz : ¬ xs (n + 2) = 0) : V g p l e room_1 s m args below meth c9 7 cells slots Q 454 [(4, .int (nI n)), (3, .ref (gAd g 331)), (2, .ref (gAd g 250)), (1, .ref (gAd g 0)), (0, .ref b)] [] M := by
  obtain ⟨t, M1, r, M2, e1, e2, e3, e4, hI2⟩ := cb_stay hI (xs (n + 1)) (1) (Or.inr rfl)
  dsimp only at e2
  refine v_aload_n F dL_law__454 rfl 3 rfl ?_
  refine v_arg F hb hX hbl 1 (by omega) hL 4 0 rfl rfl dL_law__455 dL_law__456 dL_law__458 (by decide) dL_law__459 dL_law__460 ?_
  refine v_arg F hb hX hbl 2 (by omega) hL 4 0 rfl rfl dL_law__461 dL_law__462 dL_law__464 (by decide) dL_law__465 dL_law__466 ?_
  refine v_if_eq (tgt := 474) F dL_law__467 (by decide) (fun h => absurd h hz) (fun _ => ?_)
  refine v_iconst (v := 1) F dL_law__470 (by decide) ?_
  refine v_goto (tgt := 475) F dL_law__471 (by decide) ?_
  refine v_aload_n F dL_law__475 rfl 1 rfl ?_
  refine v_callSXi (As := [.ref (gAd g 0), .int (xs (n + 1)), .int (1), .ref (gAd g 331)]) (rest := []) F (c_L_stay l hst F.2.2.1 tX tO e1) (vx_cwSW 4 F.1.2.2.2.2 (gU_SX ml_L_139 st_yL_stay ini_L cd_L_stay) rfl rfl rfl (by decide +kernel) ⟨Nat.le_of_ble_eq_true rfl, Nat.le_of_ble_eq_true rfl⟩) rfl rfl (Nat.le_of_ble_eq_true rfl) dL_law__476 ⟨by show _ ≤ 601024; omega, by show _ ≤ 7293034; omega⟩ ?_
  refine v_istore (lv' := [(5, .int t), (4, .int (nI n)), (3, .ref (gAd g 331)), (2, .ref (gAd g 250)), (1, .ref (gAd g 0)), (0, .ref b)]) F dL_law__479 (by decide) rfl ?_
  refine v_aload_n F dL_law__481 rfl 3 rfl ?_
  refine v_arg F hb hX hbl 1 (by omega) hL 5 1 rfl rfl dL_law__482 dL_law__483 dL_law__485 (by decide) dL_law__486 dL_law__487 ?_
  refine v_arg F hb hX hbl 2 (by omega) hL 5 1 rfl rfl dL_law__488 dL_law__489 dL_law__491 (by decide) dL_law__492 dL_law__493 ?_
  refine v_if_eq (tgt := 501) F dL_law__494 (by decide) (fun h => absurd h hz) (fun _ => ?_)
  refine v_iconst (v := 1) F dL_law__497 (by decide) ?_
  refine v_goto (tgt := 502) F dL_law__498 (by decide) ?_
  refine v_callVi (As := [.int (xs (n + 1)), .int (1)]) (rest := []) F (c_X11_stay l F.2.2.1 tM e2) (cwV 2 F.1.2.2.2.2 (gU_V ml_L_142 im_yX11_stay se_yX11_stay ini_X11 cd_X11_stay) rfl rfl rfl (by decide +kernel) ⟨Nat.le_of_ble_eq_true rfl, Nat.le_of_ble_eq_true rfl⟩) tM (by decide) rfl rfl rfl (Nat.le_of_ble_eq_true rfl) dL_law__502 ⟨by show _ ≤ 601024; omega, by show _ ≤ 7293034; omega⟩ ?_
  refine v_istore (lv' := [(6, .int r), (5, .int t), (4, .int (nI n)), (3, .ref (gAd g 331)), (2, .ref (gAd g 250)), (1, .ref (gAd g 0)), (0, .ref b)]) F dL_law__505 (by decide) rfl ?_
  refine v_aload_n F dL_law__507 rfl 4 rfl ?_
  refine v_callVi (As := []) (rest := []) F (c_X11_thrown l F.2.2.1 tM (rfl : f_X11_thrown M2 250 = some (M2 250 0, M2))) (cwV 0 F.1.2.2.2.2 (gU_V ml_L_124 im_yX11_thrown se_yX11_thrown ini_X11 cd_X11_thrown) rfl rfl rfl (by decide +kernel) ⟨Nat.le_of_ble_eq_true rfl, Nat.le_of_ble_eq_true rfl⟩) tM (by decide) rfl rfl rfl (Nat.le_of_ble_eq_true rfl) dL_law__508 ⟨by show _ ≤ 601024; omega, by show _ ≤ 7293034; omega⟩ ?_
  refine v_iload F dL_law__511 1 rfl ?_
  refine v_icmp_eq (tgt := 518) F dL_law__513 (by decide) (fun _ => ?_) (fun h => absurd e3 h)
  refine v_iload F dL_law__518 1 rfl ?_
  refine v_if_ne (tgt := 535) F dL_law__520 (by decide) (fun _ => ?_) (fun ht => ?_)
  · refine v_goto (tgt := 2639) F dL_law__535 (by decide) ?_
    refine v_widen (k := cells + 10) (n := slots + 60) (by omega) (by omega) ?_
    exact v_sub (fun ls h9 => lv_sub h9 [2, 3, 4, 5, 6] rfl) (kk _ _ hI2)
  · refine v_aload_n F dL_law__523 rfl 3 rfl ?_
    refine v_iconst (v := 0) F dL_law__524 (by decide) ?_
    refine v_lald F tO out_in dL_law__525 ?_
    refine v_iload F dL_law__526 0 rfl ?_
    refine v_i2l F dL_law__528 rfl ?_
    rw [show (M2 250 0, M2).snd 331 (0 : Int32).toNatClampNeg = r from e4 ht]
    refine v_lcmp F dL_law__529 ?_
    rw [cmp_eq]
    refine v_if_eq (tgt := 535) F dL_law__530 (by decide) (fun _ => ?_) (fun h => absurd rfl h)
    refine v_goto (tgt := 2639) F dL_law__535 (by decide) ?_
    refine v_widen (k := cells + 10) (n := slots + 60) (by omega) (by omega) ?_
    exact v_sub (fun ls h9 => lv_sub h9 [2, 3, 4, 5, 6] rfl) (kk _ _ hI2)
theorem lc_5 {g : gT} {p : Program} {l : Launch} {e : Env} {s : State} {m : MethodId} {args : Array Value} {below : List Frame} {meth : Method} {c9 : Code} {cells slots : Nat} {Q : State → Prop} {b L n : Nat} {xs : Nat → Int32} {M : Mem} {st : St} (F : Fx g p s m args c9 cL_law_ 7 uL_law_ RL) (hb : gB g = s.heap.size) (hst : l.stackTraces = false) (tX : Ty g 10 0) (tM : Ty g 11 250) (tO : Ty g 17 331) (h332 : 332 ∉ gL g) (h333 : 333 ∉ gL g) (hX : va_X b L xs s s.heap) (hbl : b < s.heap.size) (hn : n + 7 ≤ L) (hL : L < 100000) (hI : Inv M st) (hC : cells + 10 ≤ 601024) (hD : slots + 60 ≤ 7293034) (kk : ∀ M' st', Inv M' st' → V g p l e room_1 s m args below meth c9 7 (cells + 10) (slots + 60) Q 2639 [(4, .int (nI n)), (3, .ref (gAd g 331)), (2, .ref (gAd g 250)), (1, .ref (gAd g 0)), (0, .ref b)] [] M') : V g p l e room_1 s m args below meth c9 7 cells slots Q 454 [(4, .int (nI n)), (3, .ref (gAd g 331)), (2, .ref (gAd g 250)), (1, .ref (gAd g 0)), (0, .ref b)] [] M := by
  by_cases hz : xs (n + 2) = 0
  · exact lc_5z F hb hst tX tM tO h332 h333 hX hbl hn hL hI hC hD kk hz
  · exact lc_5n F hb hst tX tM tO h332 h333 hX hbl hn hL hI hC hD kk hz
set_option maxHeartbeats 4000000 in
set_option maxRecDepth 100000 in
theorem lc_6 {g : gT} {p : Program} {l : Launch} {e : Env} {s : State} {m : MethodId} {args : Array Value} {below : List Frame} {meth : Method} {c9 : Code} {cells slots : Nat} {Q : State → Prop} {b L n : Nat} {xs : Nat → Int32} {M : Mem} {st : St} (F : Fx g p s m args c9 cL_law_ 7 uL_law_ RL) (hb : gB g = s.heap.size) (hst : l.stackTraces = false) (tX : Ty g 10 0) (tM : Ty g 11 250) (tO : Ty g 17 331) (h332 : 332 ∉ gL g) (h333 : 333 ∉ gL g) (hX : va_X b L xs s s.heap) (hbl : b < s.heap.size) (hn : n + 7 ≤ L) (hL : L < 100000) (hI : Inv M st) (hC : cells + 10 ≤ 601024) (hD : slots + 60 ≤ 7293034) (kk : ∀ M' st', Inv M' st' → V g p l e room_1 s m args below meth c9 7 (cells + 10) (slots + 60) Q 2639 [(4, .int (nI n)), (3, .ref (gAd g 331)), (2, .ref (gAd g 250)), (1, .ref (gAd g 0)), (0, .ref b)] [] M') : V g p l e room_1 s m args below meth c9 7 cells slots Q 538 [(4, .int (nI n)), (3, .ref (gAd g 331)), (2, .ref (gAd g 250)), (1, .ref (gAd g 0)), (0, .ref b)] [] M := by
  obtain ⟨t, M1, r, M2, e1, e2, e3, e4, hI2⟩ := cb_shape hI (xs (n + 1)) (xs (n + 2)) (xs (n + 3))
  dsimp only at e2
  refine v_aload_n F dL_law__538 rfl 3 rfl ?_
  refine v_arg F hb hX hbl 1 (by omega) hL 4 0 rfl rfl dL_law__539 dL_law__540 dL_law__542 (by decide) dL_law__543 dL_law__544 ?_
  refine v_arg F hb hX hbl 2 (by omega) hL 4 0 rfl rfl dL_law__545 dL_law__546 dL_law__548 (by decide) dL_law__549 dL_law__550 ?_
  refine v_arg F hb hX hbl 3 (by omega) hL 4 0 rfl rfl dL_law__551 dL_law__552 dL_law__554 (by decide) dL_law__555 dL_law__556 ?_
  refine v_aload_n F dL_law__557 rfl 1 rfl ?_
  refine v_callSXi (As := [.ref (gAd g 0), .int (xs (n + 1)), .int (xs (n + 2)), .int (xs (n + 3)), .ref (gAd g 331)]) (rest := []) F (c_L_shape l hst F.2.2.1 tX tO e1) (vx_cwSW 5 F.1.2.2.2.2 (gU_SX ml_L_143 st_yL_shape ini_L cd_L_shape) rfl rfl rfl (by decide +kernel) ⟨Nat.le_of_ble_eq_true rfl, Nat.le_of_ble_eq_true rfl⟩) rfl rfl (Nat.le_of_ble_eq_true rfl) dL_law__558 ⟨by show _ ≤ 601024; omega, by show _ ≤ 7293034; omega⟩ ?_
  refine v_istore (lv' := [(5, .int t), (4, .int (nI n)), (3, .ref (gAd g 331)), (2, .ref (gAd g 250)), (1, .ref (gAd g 0)), (0, .ref b)]) F dL_law__561 (by decide) rfl ?_
  refine v_aload_n F dL_law__563 rfl 3 rfl ?_
  refine v_arg F hb hX hbl 1 (by omega) hL 5 1 rfl rfl dL_law__564 dL_law__565 dL_law__567 (by decide) dL_law__568 dL_law__569 ?_
  refine v_arg F hb hX hbl 2 (by omega) hL 5 1 rfl rfl dL_law__570 dL_law__571 dL_law__573 (by decide) dL_law__574 dL_law__575 ?_
  refine v_arg F hb hX hbl 3 (by omega) hL 5 1 rfl rfl dL_law__576 dL_law__577 dL_law__579 (by decide) dL_law__580 dL_law__581 ?_
  refine v_callVi (As := [.int (xs (n + 1)), .int (xs (n + 2)), .int (xs (n + 3))]) (rest := []) F (c_X11_shape l F.2.2.1 tM e2) (cwV 3 F.1.2.2.2.2 (gU_V ml_L_146 im_yX11_shape se_yX11_shape ini_X11 cd_X11_shape) rfl rfl rfl (by decide +kernel) ⟨Nat.le_of_ble_eq_true rfl, Nat.le_of_ble_eq_true rfl⟩) tM (by decide) rfl rfl rfl (Nat.le_of_ble_eq_true rfl) dL_law__582 ⟨by show _ ≤ 601024; omega, by show _ ≤ 7293034; omega⟩ ?_
  refine v_istore (lv' := [(6, .int r), (5, .int t), (4, .int (nI n)), (3, .ref (gAd g 331)), (2, .ref (gAd g 250)), (1, .ref (gAd g 0)), (0, .ref b)]) F dL_law__585 (by decide) rfl ?_
  refine v_aload_n F dL_law__587 rfl 4 rfl ?_
  refine v_callVi (As := []) (rest := []) F (c_X11_thrown l F.2.2.1 tM (rfl : f_X11_thrown M2 250 = some (M2 250 0, M2))) (cwV 0 F.1.2.2.2.2 (gU_V ml_L_124 im_yX11_thrown se_yX11_thrown ini_X11 cd_X11_thrown) rfl rfl rfl (by decide +kernel) ⟨Nat.le_of_ble_eq_true rfl, Nat.le_of_ble_eq_true rfl⟩) tM (by decide) rfl rfl rfl (Nat.le_of_ble_eq_true rfl) dL_law__588 ⟨by show _ ≤ 601024; omega, by show _ ≤ 7293034; omega⟩ ?_
  refine v_iload F dL_law__591 1 rfl ?_
  refine v_icmp_eq (tgt := 598) F dL_law__593 (by decide) (fun _ => ?_) (fun h => absurd e3 h)
  refine v_iload F dL_law__598 1 rfl ?_
  refine v_if_ne (tgt := 615) F dL_law__600 (by decide) (fun _ => ?_) (fun ht => ?_)
  · refine v_goto (tgt := 2639) F dL_law__615 (by decide) ?_
    refine v_widen (k := cells + 10) (n := slots + 60) (by omega) (by omega) ?_
    exact v_sub (fun ls h9 => lv_sub h9 [2, 3, 4, 5, 6] rfl) (kk _ _ hI2)
  · refine v_aload_n F dL_law__603 rfl 3 rfl ?_
    refine v_iconst (v := 0) F dL_law__604 (by decide) ?_
    refine v_lald F tO out_in dL_law__605 ?_
    refine v_iload F dL_law__606 0 rfl ?_
    refine v_i2l F dL_law__608 rfl ?_
    rw [show (M2 250 0, M2).snd 331 (0 : Int32).toNatClampNeg = r from e4 ht]
    refine v_lcmp F dL_law__609 ?_
    rw [cmp_eq]
    refine v_if_eq (tgt := 615) F dL_law__610 (by decide) (fun _ => ?_) (fun h => absurd rfl h)
    refine v_goto (tgt := 2639) F dL_law__615 (by decide) ?_
    refine v_widen (k := cells + 10) (n := slots + 60) (by omega) (by omega) ?_
    exact v_sub (fun ls h9 => lv_sub h9 [2, 3, 4, 5, 6] rfl) (kk _ _ hI2)
set_option maxHeartbeats 4000000 in
set_option maxRecDepth 100000 in
theorem lc_7 {g : gT} {p : Program} {l : Launch} {e : Env} {s : State} {m : MethodId} {args : Array Value} {below : List Frame} {meth : Method} {c9 : Code} {cells slots : Nat} {Q : State → Prop} {b L n : Nat} {xs : Nat → Int32} {M : Mem} {st : St} (F : Fx g p s m args c9 cL_law_ 7 uL_law_ RL) (hb : gB g = s.heap.size) (hst : l.stackTraces = false) (tX : Ty g 10 0) (tM : Ty g 11 250) (tO : Ty g 17 331) (h332 : 332 ∉ gL g) (h333 : 333 ∉ gL g) (hX : va_X b L xs s s.heap) (hbl : b < s.heap.size) (hn : n + 7 ≤ L) (hL : L < 100000) (hI : Inv M st) (hC : cells + 10 ≤ 601024) (hD : slots + 60 ≤ 7293034) (kk : ∀ M' st', Inv M' st' → V g p l e room_1 s m args below meth c9 7 (cells + 10) (slots + 60) Q 2639 [(4, .int (nI n)), (3, .ref (gAd g 331)), (2, .ref (gAd g 250)), (1, .ref (gAd g 0)), (0, .ref b)] [] M') : V g p l e room_1 s m args below meth c9 7 cells slots Q 618 [(4, .int (nI n)), (3, .ref (gAd g 331)), (2, .ref (gAd g 250)), (1, .ref (gAd g 0)), (0, .ref b)] [] M := by
  obtain ⟨t, M1, r, M2, e1, e2, e3, e4, hI2⟩ := cb_go hI (xs (n + 1)) (xs (n + 2)) (xs (n + 3))
  dsimp only at e2
  refine v_aload_n F dL_law__618 rfl 3 rfl ?_
  refine v_arg F hb hX hbl 1 (by omega) hL 4 0 rfl rfl dL_law__619 dL_law__620 dL_law__622 (by decide) dL_law__623 dL_law__624 ?_
  refine v_arg F hb hX hbl 2 (by omega) hL 4 0 rfl rfl dL_law__625 dL_law__626 dL_law__628 (by decide) dL_law__629 dL_law__630 ?_
  refine v_arg F hb hX hbl 3 (by omega) hL 4 0 rfl rfl dL_law__631 dL_law__632 dL_law__634 (by decide) dL_law__635 dL_law__636 ?_
  refine v_aload_n F dL_law__637 rfl 1 rfl ?_
  refine v_callSXi (As := [.ref (gAd g 0), .int (xs (n + 1)), .int (xs (n + 2)), .int (xs (n + 3)), .ref (gAd g 331)]) (rest := []) F (c_L_go l hst F.2.2.1 tX tO e1) (vx_cwSW 5 F.1.2.2.2.2 (gU_SX ml_L_147 st_yL_go ini_L cd_L_go) rfl rfl rfl (by decide +kernel) ⟨Nat.le_of_ble_eq_true rfl, Nat.le_of_ble_eq_true rfl⟩) rfl rfl (Nat.le_of_ble_eq_true rfl) dL_law__638 ⟨by show _ ≤ 601024; omega, by show _ ≤ 7293034; omega⟩ ?_
  refine v_istore (lv' := [(5, .int t), (4, .int (nI n)), (3, .ref (gAd g 331)), (2, .ref (gAd g 250)), (1, .ref (gAd g 0)), (0, .ref b)]) F dL_law__641 (by decide) rfl ?_
  refine v_aload_n F dL_law__643 rfl 3 rfl ?_
  refine v_arg F hb hX hbl 1 (by omega) hL 5 1 rfl rfl dL_law__644 dL_law__645 dL_law__647 (by decide) dL_law__648 dL_law__649 ?_
  refine v_arg F hb hX hbl 2 (by omega) hL 5 1 rfl rfl dL_law__650 dL_law__651 dL_law__653 (by decide) dL_law__654 dL_law__655 ?_
  refine v_arg F hb hX hbl 3 (by omega) hL 5 1 rfl rfl dL_law__656 dL_law__657 dL_law__659 (by decide) dL_law__660 dL_law__661 ?_
  refine v_callVi (As := [.int (xs (n + 1)), .int (xs (n + 2)), .int (xs (n + 3))]) (rest := []) F (c_X11_go l F.2.2.1 tM e2) (cwV 3 F.1.2.2.2.2 (gU_V ml_L_149 im_yX11_go se_yX11_go ini_X11 cd_X11_go) rfl rfl rfl (by decide +kernel) ⟨Nat.le_of_ble_eq_true rfl, Nat.le_of_ble_eq_true rfl⟩) tM (by decide) rfl rfl rfl (Nat.le_of_ble_eq_true rfl) dL_law__662 ⟨by show _ ≤ 601024; omega, by show _ ≤ 7293034; omega⟩ ?_
  refine v_istore (lv' := [(6, .int r), (5, .int t), (4, .int (nI n)), (3, .ref (gAd g 331)), (2, .ref (gAd g 250)), (1, .ref (gAd g 0)), (0, .ref b)]) F dL_law__665 (by decide) rfl ?_
  refine v_aload_n F dL_law__667 rfl 4 rfl ?_
  refine v_callVi (As := []) (rest := []) F (c_X11_thrown l F.2.2.1 tM (rfl : f_X11_thrown M2 250 = some (M2 250 0, M2))) (cwV 0 F.1.2.2.2.2 (gU_V ml_L_124 im_yX11_thrown se_yX11_thrown ini_X11 cd_X11_thrown) rfl rfl rfl (by decide +kernel) ⟨Nat.le_of_ble_eq_true rfl, Nat.le_of_ble_eq_true rfl⟩) tM (by decide) rfl rfl rfl (Nat.le_of_ble_eq_true rfl) dL_law__668 ⟨by show _ ≤ 601024; omega, by show _ ≤ 7293034; omega⟩ ?_
  refine v_iload F dL_law__671 1 rfl ?_
  refine v_icmp_eq (tgt := 678) F dL_law__673 (by decide) (fun _ => ?_) (fun h => absurd e3 h)
  refine v_iload F dL_law__678 1 rfl ?_
  refine v_if_ne (tgt := 695) F dL_law__680 (by decide) (fun _ => ?_) (fun ht => ?_)
  · refine v_goto (tgt := 2639) F dL_law__695 (by decide) ?_
    refine v_widen (k := cells + 10) (n := slots + 60) (by omega) (by omega) ?_
    exact v_sub (fun ls h9 => lv_sub h9 [2, 3, 4, 5, 6] rfl) (kk _ _ hI2)
  · refine v_aload_n F dL_law__683 rfl 3 rfl ?_
    refine v_iconst (v := 0) F dL_law__684 (by decide) ?_
    refine v_lald F tO out_in dL_law__685 ?_
    refine v_iload F dL_law__686 0 rfl ?_
    refine v_i2l F dL_law__688 rfl ?_
    rw [show (M2 250 0, M2).snd 331 (0 : Int32).toNatClampNeg = r from e4 ht]
    refine v_lcmp F dL_law__689 ?_
    rw [cmp_eq]
    refine v_if_eq (tgt := 695) F dL_law__690 (by decide) (fun _ => ?_) (fun h => absurd rfl h)
    refine v_goto (tgt := 2639) F dL_law__695 (by decide) ?_
    refine v_widen (k := cells + 10) (n := slots + 60) (by omega) (by omega) ?_
    exact v_sub (fun ls h9 => lv_sub h9 [2, 3, 4, 5, 6] rfl) (kk _ _ hI2)
set_option maxHeartbeats 4000000 in
set_option maxRecDepth 100000 in
theorem lc_8 {g : gT} {p : Program} {l : Launch} {e : Env} {s : State} {m : MethodId} {args : Array Value} {below : List Frame} {meth : Method} {c9 : Code} {cells slots : Nat} {Q : State → Prop} {b L n : Nat} {xs : Nat → Int32} {M : Mem} {st : St} (F : Fx g p s m args c9 cL_law_ 7 uL_law_ RL) (hb : gB g = s.heap.size) (hst : l.stackTraces = false) (tX : Ty g 10 0) (tM : Ty g 11 250) (tO : Ty g 17 331) (h332 : 332 ∉ gL g) (h333 : 333 ∉ gL g) (hX : va_X b L xs s s.heap) (hbl : b < s.heap.size) (hn : n + 7 ≤ L) (hL : L < 100000) (hI : Inv M st) (hC : cells + 10 ≤ 601024) (hD : slots + 60 ≤ 7293034) (kk : ∀ M' st', Inv M' st' → V g p l e room_1 s m args below meth c9 7 (cells + 10) (slots + 60) Q 2639 [(4, .int (nI n)), (3, .ref (gAd g 331)), (2, .ref (gAd g 250)), (1, .ref (gAd g 0)), (0, .ref b)] [] M') : V g p l e room_1 s m args below meth c9 7 cells slots Q 698 [(4, .int (nI n)), (3, .ref (gAd g 331)), (2, .ref (gAd g 250)), (1, .ref (gAd g 0)), (0, .ref b)] [] M := by
  obtain ⟨t, M1, r, M2, e1, e2, e3, e4, hI2⟩ := cb_piece hI (xs (n + 1)) (xs (n + 2))
  dsimp only at e2
  refine v_aload_n F dL_law__698 rfl 3 rfl ?_
  refine v_arg F hb hX hbl 1 (by omega) hL 4 0 rfl rfl dL_law__699 dL_law__700 dL_law__702 (by decide) dL_law__703 dL_law__704 ?_
  refine v_arg F hb hX hbl 2 (by omega) hL 4 0 rfl rfl dL_law__705 dL_law__706 dL_law__708 (by decide) dL_law__709 dL_law__710 ?_
  refine v_aload_n F dL_law__711 rfl 1 rfl ?_
  refine v_callSXi (As := [.ref (gAd g 0), .int (xs (n + 1)), .int (xs (n + 2)), .ref (gAd g 331)]) (rest := []) F (c_L_piece l hst F.2.2.1 tX tO e1) (vx_cwSW 4 F.1.2.2.2.2 (gU_SX ml_L_150 st_yL_piece ini_L cd_L_piece) rfl rfl rfl (by decide +kernel) ⟨Nat.le_of_ble_eq_true rfl, Nat.le_of_ble_eq_true rfl⟩) rfl rfl (Nat.le_of_ble_eq_true rfl) dL_law__712 ⟨by show _ ≤ 601024; omega, by show _ ≤ 7293034; omega⟩ ?_
  refine v_istore (lv' := [(5, .int t), (4, .int (nI n)), (3, .ref (gAd g 331)), (2, .ref (gAd g 250)), (1, .ref (gAd g 0)), (0, .ref b)]) F dL_law__715 (by decide) rfl ?_
  refine v_aload_n F dL_law__717 rfl 3 rfl ?_
  refine v_arg F hb hX hbl 1 (by omega) hL 5 1 rfl rfl dL_law__718 dL_law__719 dL_law__721 (by decide) dL_law__722 dL_law__723 ?_
  refine v_arg F hb hX hbl 2 (by omega) hL 5 1 rfl rfl dL_law__724 dL_law__725 dL_law__727 (by decide) dL_law__728 dL_law__729 ?_
  refine v_callVi (As := [.int (xs (n + 1)), .int (xs (n + 2))]) (rest := []) F (c_X11_piece l F.2.2.1 tM e2) (cwV 2 F.1.2.2.2.2 (gU_V ml_L_152 im_yX11_piece se_yX11_piece ini_X11 cd_X11_piece) rfl rfl rfl (by decide +kernel) ⟨Nat.le_of_ble_eq_true rfl, Nat.le_of_ble_eq_true rfl⟩) tM (by decide) rfl rfl rfl (Nat.le_of_ble_eq_true rfl) dL_law__730 ⟨by show _ ≤ 601024; omega, by show _ ≤ 7293034; omega⟩ ?_
  refine v_istore (lv' := [(6, .int r), (5, .int t), (4, .int (nI n)), (3, .ref (gAd g 331)), (2, .ref (gAd g 250)), (1, .ref (gAd g 0)), (0, .ref b)]) F dL_law__733 (by decide) rfl ?_
  refine v_aload_n F dL_law__735 rfl 4 rfl ?_
  refine v_callVi (As := []) (rest := []) F (c_X11_thrown l F.2.2.1 tM (rfl : f_X11_thrown M2 250 = some (M2 250 0, M2))) (cwV 0 F.1.2.2.2.2 (gU_V ml_L_124 im_yX11_thrown se_yX11_thrown ini_X11 cd_X11_thrown) rfl rfl rfl (by decide +kernel) ⟨Nat.le_of_ble_eq_true rfl, Nat.le_of_ble_eq_true rfl⟩) tM (by decide) rfl rfl rfl (Nat.le_of_ble_eq_true rfl) dL_law__736 ⟨by show _ ≤ 601024; omega, by show _ ≤ 7293034; omega⟩ ?_
  refine v_iload F dL_law__739 1 rfl ?_
  refine v_icmp_eq (tgt := 746) F dL_law__741 (by decide) (fun _ => ?_) (fun h => absurd e3 h)
  refine v_iload F dL_law__746 1 rfl ?_
  refine v_if_ne (tgt := 763) F dL_law__748 (by decide) (fun _ => ?_) (fun ht => ?_)
  · refine v_goto (tgt := 2639) F dL_law__763 (by decide) ?_
    refine v_widen (k := cells + 10) (n := slots + 60) (by omega) (by omega) ?_
    exact v_sub (fun ls h9 => lv_sub h9 [2, 3, 4, 5, 6] rfl) (kk _ _ hI2)
  · refine v_aload_n F dL_law__751 rfl 3 rfl ?_
    refine v_iconst (v := 0) F dL_law__752 (by decide) ?_
    refine v_lald F tO out_in dL_law__753 ?_
    refine v_iload F dL_law__754 0 rfl ?_
    refine v_i2l F dL_law__756 rfl ?_
    rw [show (M2 250 0, M2).snd 331 (0 : Int32).toNatClampNeg = r from e4 ht]
    refine v_lcmp F dL_law__757 ?_
    rw [cmp_eq]
    refine v_if_eq (tgt := 763) F dL_law__758 (by decide) (fun _ => ?_) (fun h => absurd rfl h)
    refine v_goto (tgt := 2639) F dL_law__763 (by decide) ?_
    refine v_widen (k := cells + 10) (n := slots + 60) (by omega) (by omega) ?_
    exact v_sub (fun ls h9 => lv_sub h9 [2, 3, 4, 5, 6] rfl) (kk _ _ hI2)
set_option maxHeartbeats 4000000 in
set_option maxRecDepth 100000 in
theorem lc_9z {g : gT} {p : Program} {l : Launch} {e : Env} {s : State} {m : MethodId} {args : Array Value} {below : List Frame} {meth : Method} {c9 : Code} {cells slots : Nat} {Q : State → Prop} {b L n : Nat} {xs : Nat → Int32} {M : Mem} {st : St} (F : Fx g p s m args c9 cL_law_ 7 uL_law_ RL) (hb : gB g = s.heap.size) (hst : l.stackTraces = false) (tX : Ty g 10 0) (tM : Ty g 11 250) (tO : Ty g 17 331) (h332 : 332 ∉ gL g) (h333 : 333 ∉ gL g) (hX : va_X b L xs s s.heap) (hbl : b < s.heap.size) (hn : n + 7 ≤ L) (hL : L < 100000) (hI : Inv M st) (hC : cells + 10 ≤ 601024) (hD : slots + 60 ≤ 7293034) (kk : ∀ M' st', Inv M' st' → V g p l e room_1 s m args below meth c9 7 (cells + 10) (slots + 60) Q 2639 [(4, .int (nI n)), (3, .ref (gAd g 331)), (2, .ref (gAd g 250)), (1, .ref (gAd g 0)), (0, .ref b)] [] M') (hz : xs (n + 4) = 0) : V g p l e room_1 s m args below meth c9 7 cells slots Q 766 [(4, .int (nI n)), (3, .ref (gAd g 331)), (2, .ref (gAd g 250)), (1, .ref (gAd g 0)), (0, .ref b)] [] M := by
  obtain ⟨t, M1, r, M2, e1, e2, e3, e4, hI2⟩ := cb_push hI (xs (n + 1)) (xs (n + 2)) (xs (n + 3)) (0)
  dsimp only at e2
  refine v_aload_n F dL_law__766 rfl 3 rfl ?_
  refine v_arg F hb hX hbl 1 (by omega) hL 4 0 rfl rfl dL_law__767 dL_law__768 dL_law__770 (by decide) dL_law__771 dL_law__772 ?_
  refine v_arg F hb hX hbl 2 (by omega) hL 4 0 rfl rfl dL_law__773 dL_law__774 dL_law__776 (by decide) dL_law__777 dL_law__778 ?_
  refine v_arg F hb hX hbl 3 (by omega) hL 4 0 rfl rfl dL_law__779 dL_law__780 dL_law__782 (by decide) dL_law__783 dL_law__784 ?_
  refine v_arg F hb hX hbl 4 (by omega) hL 4 0 rfl rfl dL_law__785 dL_law__786 dL_law__788 (by decide) dL_law__789 dL_law__790 ?_
  refine v_if_eq (tgt := 798) F dL_law__791 (by decide) (fun _ => ?_) (fun h => absurd hz h)
  refine v_iconst (v := 0) F dL_law__798 (by decide) ?_
  refine v_aload_n F dL_law__799 rfl 1 rfl ?_
  refine v_callSXi (As := [.ref (gAd g 0), .int (xs (n + 1)), .int (xs (n + 2)), .int (xs (n + 3)), .int (0), .ref (gAd g 331)]) (rest := []) F (c_L_push l hst F.2.2.1 tX tO e1) (vx_cwSW 6 F.1.2.2.2.2 (gU_SX ml_L_153 st_yL_push ini_L cd_L_push) rfl rfl rfl (by decide +kernel) ⟨Nat.le_of_ble_eq_true rfl, Nat.le_of_ble_eq_true rfl⟩) rfl rfl (Nat.le_of_ble_eq_true rfl) dL_law__800 ⟨by show _ ≤ 601024; omega, by show _ ≤ 7293034; omega⟩ ?_
  refine v_istore (lv' := [(5, .int t), (4, .int (nI n)), (3, .ref (gAd g 331)), (2, .ref (gAd g 250)), (1, .ref (gAd g 0)), (0, .ref b)]) F dL_law__803 (by decide) rfl ?_
  refine v_aload_n F dL_law__805 rfl 3 rfl ?_
  refine v_arg F hb hX hbl 1 (by omega) hL 5 1 rfl rfl dL_law__806 dL_law__807 dL_law__809 (by decide) dL_law__810 dL_law__811 ?_
  refine v_arg F hb hX hbl 2 (by omega) hL 5 1 rfl rfl dL_law__812 dL_law__813 dL_law__815 (by decide) dL_law__816 dL_law__817 ?_
  refine v_arg F hb hX hbl 3 (by omega) hL 5 1 rfl rfl dL_law__818 dL_law__819 dL_law__821 (by decide) dL_law__822 dL_law__823 ?_
  refine v_arg F hb hX hbl 4 (by omega) hL 5 1 rfl rfl dL_law__824 dL_law__825 dL_law__827 (by decide) dL_law__828 dL_law__829 ?_
  refine v_if_eq (tgt := 837) F dL_law__830 (by decide) (fun _ => ?_) (fun h => absurd hz h)
  refine v_iconst (v := 0) F dL_law__837 (by decide) ?_
  refine v_callVi (As := [.int (xs (n + 1)), .int (xs (n + 2)), .int (xs (n + 3)), .int (0)]) (rest := []) F (c_X11_push l F.2.2.1 tM e2) (cwV 4 F.1.2.2.2.2 (gU_V ml_L_156 im_yX11_push se_yX11_push ini_X11 cd_X11_push) rfl rfl rfl (by decide +kernel) ⟨Nat.le_of_ble_eq_true rfl, Nat.le_of_ble_eq_true rfl⟩) tM (by decide) rfl rfl rfl (Nat.le_of_ble_eq_true rfl) dL_law__838 ⟨by show _ ≤ 601024; omega, by show _ ≤ 7293034; omega⟩ ?_
  refine v_istore (lv' := [(6, .int r), (5, .int t), (4, .int (nI n)), (3, .ref (gAd g 331)), (2, .ref (gAd g 250)), (1, .ref (gAd g 0)), (0, .ref b)]) F dL_law__841 (by decide) rfl ?_
  refine v_aload_n F dL_law__843 rfl 4 rfl ?_
  refine v_callVi (As := []) (rest := []) F (c_X11_thrown l F.2.2.1 tM (rfl : f_X11_thrown M2 250 = some (M2 250 0, M2))) (cwV 0 F.1.2.2.2.2 (gU_V ml_L_124 im_yX11_thrown se_yX11_thrown ini_X11 cd_X11_thrown) rfl rfl rfl (by decide +kernel) ⟨Nat.le_of_ble_eq_true rfl, Nat.le_of_ble_eq_true rfl⟩) tM (by decide) rfl rfl rfl (Nat.le_of_ble_eq_true rfl) dL_law__844 ⟨by show _ ≤ 601024; omega, by show _ ≤ 7293034; omega⟩ ?_
  refine v_iload F dL_law__847 1 rfl ?_
  refine v_icmp_eq (tgt := 854) F dL_law__849 (by decide) (fun _ => ?_) (fun h => absurd e3 h)
  refine v_iload F dL_law__854 1 rfl ?_
  refine v_if_ne (tgt := 871) F dL_law__856 (by decide) (fun _ => ?_) (fun ht => ?_)
  · refine v_goto (tgt := 2639) F dL_law__871 (by decide) ?_
    refine v_widen (k := cells + 10) (n := slots + 60) (by omega) (by omega) ?_
    exact v_sub (fun ls h9 => lv_sub h9 [2, 3, 4, 5, 6] rfl) (kk _ _ hI2)
  · refine v_aload_n F dL_law__859 rfl 3 rfl ?_
    refine v_iconst (v := 0) F dL_law__860 (by decide) ?_
    refine v_lald F tO out_in dL_law__861 ?_
    refine v_iload F dL_law__862 0 rfl ?_
    refine v_i2l F dL_law__864 rfl ?_
    rw [show (M2 250 0, M2).snd 331 (0 : Int32).toNatClampNeg = r from e4 ht]
    refine v_lcmp F dL_law__865 ?_
    rw [cmp_eq]
    refine v_if_eq (tgt := 871) F dL_law__866 (by decide) (fun _ => ?_) (fun h => absurd rfl h)
    refine v_goto (tgt := 2639) F dL_law__871 (by decide) ?_
    refine v_widen (k := cells + 10) (n := slots + 60) (by omega) (by omega) ?_
    exact v_sub (fun ls h9 => lv_sub h9 [2, 3, 4, 5, 6] rfl) (kk _ _ hI2)
set_option maxHeartbeats 4000000 in
set_option maxRecDepth 100000 in
theorem lc_9n {g : gT} {p : Program} {l : Launch} {e : Env} {s : State} {m : MethodId} {args : Array Value} {below : List Frame} {meth : Method} {c9 : Code} {cells slots : Nat} {Q : State → Prop} {b L n : Nat} {xs : Nat → Int32} {M : Mem} {st : St} (F : Fx g p s m args c9 cL_law_ 7 uL_law_ RL) (hb : gB g = s.heap.size) (hst : l.stackTraces = false) (tX : Ty g 10 0) (tM : Ty g 11 250) (tO : Ty g 17 331) (h332 : 332 ∉ gL g) (h333 : 333 ∉ gL g) (hX : va_X b L xs s s.heap) (hbl : b < s.heap.size) (hn : n + 7 ≤ L) (hL : L < 100000) (hI : Inv M st) (hC : cells + 10 ≤ 601024) (hD : slots + 60 ≤ 7293034) (kk : ∀ M' st', Inv M' st' → V g p l e room_1 s m args below meth c9 7 (cells + 10) (slots + 60) Q 2639 [(4, .int (nI n)), (3, .ref (gAd g 331)), (2, .ref (gAd g 250)), (1, .ref (gAd g 0)), (0, .ref b)] [] M') (hz : ¬ xs (n + 4) = 0) : V g p l e room_1 s m args below meth c9 7 cells slots Q 766 [(4, .int (nI n)), (3, .ref (gAd g 331)), (2, .ref (gAd g 250)), (1, .ref (gAd g 0)), (0, .ref b)] [] M := by
  obtain ⟨t, M1, r, M2, e1, e2, e3, e4, hI2⟩ := cb_push hI (xs (n + 1)) (xs (n + 2)) (xs (n + 3)) (1)
  dsimp only at e2
  refine v_aload_n F dL_law__766 rfl 3 rfl ?_
  refine v_arg F hb hX hbl 1 (by omega) hL 4 0 rfl rfl dL_law__767 dL_law__768 dL_law__770 (by decide) dL_law__771 dL_law__772 ?_
  refine v_arg F hb hX hbl 2 (by omega) hL 4 0 rfl rfl dL_law__773 dL_law__774 dL_law__776 (by decide) dL_law__777 dL_law__778 ?_
  refine v_arg F hb hX hbl 3 (by omega) hL 4 0 rfl rfl dL_law__779 dL_law__780 dL_law__782 (by decide) dL_law__783 dL_law__784 ?_
  refine v_arg F hb hX hbl 4 (by omega) hL 4 0 rfl rfl dL_law__785 dL_law__786 dL_law__788 (by decide) dL_law__789 dL_law__790 ?_
  refine v_if_eq (tgt := 798) F dL_law__791 (by decide) (fun h => absurd h hz) (fun _ => ?_)
  refine v_iconst (v := 1) F dL_law__794 (by decide) ?_
  refine v_goto (tgt := 799) F dL_law__795 (by decide) ?_
  refine v_aload_n F dL_law__799 rfl 1 rfl ?_
  refine v_callSXi (As := [.ref (gAd g 0), .int (xs (n + 1)), .int (xs (n + 2)), .int (xs (n + 3)), .int (1), .ref (gAd g 331)]) (rest := []) F (c_L_push l hst F.2.2.1 tX tO e1) (vx_cwSW 6 F.1.2.2.2.2 (gU_SX ml_L_153 st_yL_push ini_L cd_L_push) rfl rfl rfl (by decide +kernel) ⟨Nat.le_of_ble_eq_true rfl, Nat.le_of_ble_eq_true rfl⟩) rfl rfl (Nat.le_of_ble_eq_true rfl) dL_law__800 ⟨by show _ ≤ 601024; omega, by show _ ≤ 7293034; omega⟩ ?_
  refine v_istore (lv' := [(5, .int t), (4, .int (nI n)), (3, .ref (gAd g 331)), (2, .ref (gAd g 250)), (1, .ref (gAd g 0)), (0, .ref b)]) F dL_law__803 (by decide) rfl ?_
  refine v_aload_n F dL_law__805 rfl 3 rfl ?_
  refine v_arg F hb hX hbl 1 (by omega) hL 5 1 rfl rfl dL_law__806 dL_law__807 dL_law__809 (by decide) dL_law__810 dL_law__811 ?_
  refine v_arg F hb hX hbl 2 (by omega) hL 5 1 rfl rfl dL_law__812 dL_law__813 dL_law__815 (by decide) dL_law__816 dL_law__817 ?_
  refine v_arg F hb hX hbl 3 (by omega) hL 5 1 rfl rfl dL_law__818 dL_law__819 dL_law__821 (by decide) dL_law__822 dL_law__823 ?_
  refine v_arg F hb hX hbl 4 (by omega) hL 5 1 rfl rfl dL_law__824 dL_law__825 dL_law__827 (by decide) dL_law__828 dL_law__829 ?_
  refine v_if_eq (tgt := 837) F dL_law__830 (by decide) (fun h => absurd h hz) (fun _ => ?_)
  refine v_iconst (v := 1) F dL_law__833 (by decide) ?_
  refine v_goto (tgt := 838) F dL_law__834 (by decide) ?_
  refine v_callVi (As := [.int (xs (n + 1)), .int (xs (n + 2)), .int (xs (n + 3)), .int (1)]) (rest := []) F (c_X11_push l F.2.2.1 tM e2) (cwV 4 F.1.2.2.2.2 (gU_V ml_L_156 im_yX11_push se_yX11_push ini_X11 cd_X11_push) rfl rfl rfl (by decide +kernel) ⟨Nat.le_of_ble_eq_true rfl, Nat.le_of_ble_eq_true rfl⟩) tM (by decide) rfl rfl rfl (Nat.le_of_ble_eq_true rfl) dL_law__838 ⟨by show _ ≤ 601024; omega, by show _ ≤ 7293034; omega⟩ ?_
  refine v_istore (lv' := [(6, .int r), (5, .int t), (4, .int (nI n)), (3, .ref (gAd g 331)), (2, .ref (gAd g 250)), (1, .ref (gAd g 0)), (0, .ref b)]) F dL_law__841 (by decide) rfl ?_
  refine v_aload_n F dL_law__843 rfl 4 rfl ?_
  refine v_callVi (As := []) (rest := []) F (c_X11_thrown l F.2.2.1 tM (rfl : f_X11_thrown M2 250 = some (M2 250 0, M2))) (cwV 0 F.1.2.2.2.2 (gU_V ml_L_124 im_yX11_thrown se_yX11_thrown ini_X11 cd_X11_thrown) rfl rfl rfl (by decide +kernel) ⟨Nat.le_of_ble_eq_true rfl, Nat.le_of_ble_eq_true rfl⟩) tM (by decide) rfl rfl rfl (Nat.le_of_ble_eq_true rfl) dL_law__844 ⟨by show _ ≤ 601024; omega, by show _ ≤ 7293034; omega⟩ ?_
  refine v_iload F dL_law__847 1 rfl ?_
  refine v_icmp_eq (tgt := 854) F dL_law__849 (by decide) (fun _ => ?_) (fun h => absurd e3 h)
  refine v_iload F dL_law__854 1 rfl ?_
  refine v_if_ne (tgt := 871) F dL_law__856 (by decide) (fun _ => ?_) (fun ht => ?_)
  · refine v_goto (tgt := 2639) F dL_law__871 (by decide) ?_
    refine v_widen (k := cells + 10) (n := slots + 60) (by omega) (by omega) ?_
    exact v_sub (fun ls h9 => lv_sub h9 [2, 3, 4, 5, 6] rfl) (kk _ _ hI2)
  · refine v_aload_n F dL_law__859 rfl 3 rfl ?_
    refine v_iconst (v := 0) F dL_law__860 (by decide) ?_
    refine v_lald F tO out_in dL_law__861 ?_
    refine v_iload F dL_law__862 0 rfl ?_
    refine v_i2l F dL_law__864 rfl ?_
    rw [show (M2 250 0, M2).snd 331 (0 : Int32).toNatClampNeg = r from e4 ht]
    refine v_lcmp F dL_law__865 ?_
    rw [cmp_eq]
    refine v_if_eq (tgt := 871) F dL_law__866 (by decide) (fun _ => ?_) (fun h => absurd rfl h)
    refine v_goto (tgt := 2639) F dL_law__871 (by decide) ?_
    refine v_widen (k := cells + 10) (n := slots + 60) (by omega) (by omega) ?_
    exact v_sub (fun ls h9 => lv_sub h9 [2, 3, 4, 5, 6] rfl) (kk _ _ hI2)
theorem lc_9 {g : gT} {p : Program} {l : Launch} {e : Env} {s : State} {m : MethodId} {args : Array Value} {below : List Frame} {meth : Method} {c9 : Code} {cells slots : Nat} {Q : State → Prop} {b L n : Nat} {xs : Nat → Int32} {M : Mem} {st : St} (F : Fx g p s m args c9 cL_law_ 7 uL_law_ RL) (hb : gB g = s.heap.size) (hst : l.stackTraces = false) (tX : Ty g 10 0) (tM : Ty g 11 250) (tO : Ty g 17 331) (h332 : 332 ∉ gL g) (h333 : 333 ∉ gL g) (hX : va_X b L xs s s.heap) (hbl : b < s.heap.size) (hn : n + 7 ≤ L) (hL : L < 100000) (hI : Inv M st) (hC : cells + 10 ≤ 601024) (hD : slots + 60 ≤ 7293034) (kk : ∀ M' st', Inv M' st' → V g p l e room_1 s m args below meth c9 7 (cells + 10) (slots + 60) Q 2639 [(4, .int (nI n)), (3, .ref (gAd g 331)), (2, .ref (gAd g 250)), (1, .ref (gAd g 0)), (0, .ref b)] [] M') : V g p l e room_1 s m args below meth c9 7 cells slots Q 766 [(4, .int (nI n)), (3, .ref (gAd g 331)), (2, .ref (gAd g 250)), (1, .ref (gAd g 0)), (0, .ref b)] [] M := by
  by_cases hz : xs (n + 4) = 0
  · exact lc_9z F hb hst tX tM tO h332 h333 hX hbl hn hL hI hC hD kk hz
  · exact lc_9n F hb hst tX tM tO h332 h333 hX hbl hn hL hI hC hD kk hz
set_option maxHeartbeats 4000000 in
set_option maxRecDepth 100000 in
theorem lc_10 {g : gT} {p : Program} {l : Launch} {e : Env} {s : State} {m : MethodId} {args : Array Value} {below : List Frame} {meth : Method} {c9 : Code} {cells slots : Nat} {Q : State → Prop} {b L n : Nat} {xs : Nat → Int32} {M : Mem} {st : St} (F : Fx g p s m args c9 cL_law_ 7 uL_law_ RL) (hb : gB g = s.heap.size) (hst : l.stackTraces = false) (tX : Ty g 10 0) (tM : Ty g 11 250) (tO : Ty g 17 331) (h332 : 332 ∉ gL g) (h333 : 333 ∉ gL g) (hX : va_X b L xs s s.heap) (hbl : b < s.heap.size) (hn : n + 7 ≤ L) (hL : L < 100000) (hI : Inv M st) (hC : cells + 10 ≤ 601024) (hD : slots + 60 ≤ 7293034) (kk : ∀ M' st', Inv M' st' → V g p l e room_1 s m args below meth c9 7 (cells + 10) (slots + 60) Q 2639 [(4, .int (nI n)), (3, .ref (gAd g 331)), (2, .ref (gAd g 250)), (1, .ref (gAd g 0)), (0, .ref b)] [] M') : V g p l e room_1 s m args below meth c9 7 cells slots Q 874 [(4, .int (nI n)), (3, .ref (gAd g 331)), (2, .ref (gAd g 250)), (1, .ref (gAd g 0)), (0, .ref b)] [] M := by
  obtain ⟨t, M1, r, M2, e1, e2, e3, e4, hI2⟩ := cb_grows hI (xs (n + 1)) (xs (n + 2)) (xs (n + 3)) (xs (n + 4))
  dsimp only at e2
  refine v_aload_n F dL_law__874 rfl 3 rfl ?_
  refine v_arg F hb hX hbl 1 (by omega) hL 4 0 rfl rfl dL_law__875 dL_law__876 dL_law__878 (by decide) dL_law__879 dL_law__880 ?_
  refine v_arg F hb hX hbl 2 (by omega) hL 4 0 rfl rfl dL_law__881 dL_law__882 dL_law__884 (by decide) dL_law__885 dL_law__886 ?_
  refine v_arg F hb hX hbl 3 (by omega) hL 4 0 rfl rfl dL_law__887 dL_law__888 dL_law__890 (by decide) dL_law__891 dL_law__892 ?_
  refine v_arg F hb hX hbl 4 (by omega) hL 4 0 rfl rfl dL_law__893 dL_law__894 dL_law__896 (by decide) dL_law__897 dL_law__898 ?_
  refine v_aload_n F dL_law__899 rfl 1 rfl ?_
  refine v_callSXi (As := [.ref (gAd g 0), .int (xs (n + 1)), .int (xs (n + 2)), .int (xs (n + 3)), .int (xs (n + 4)), .ref (gAd g 331)]) (rest := []) F (c_L_grows l hst F.2.2.1 tX tO e1) (vx_cwSW 6 F.1.2.2.2.2 (gU_SX ml_L_157 st_yL_grows ini_L cd_L_grows) rfl rfl rfl (by decide +kernel) ⟨Nat.le_of_ble_eq_true rfl, Nat.le_of_ble_eq_true rfl⟩) rfl rfl (Nat.le_of_ble_eq_true rfl) dL_law__900 ⟨by show _ ≤ 601024; omega, by show _ ≤ 7293034; omega⟩ ?_
  refine v_istore (lv' := [(5, .int t), (4, .int (nI n)), (3, .ref (gAd g 331)), (2, .ref (gAd g 250)), (1, .ref (gAd g 0)), (0, .ref b)]) F dL_law__903 (by decide) rfl ?_
  refine v_aload_n F dL_law__905 rfl 3 rfl ?_
  refine v_arg F hb hX hbl 1 (by omega) hL 5 1 rfl rfl dL_law__906 dL_law__907 dL_law__909 (by decide) dL_law__910 dL_law__911 ?_
  refine v_arg F hb hX hbl 2 (by omega) hL 5 1 rfl rfl dL_law__912 dL_law__913 dL_law__915 (by decide) dL_law__916 dL_law__917 ?_
  refine v_arg F hb hX hbl 3 (by omega) hL 5 1 rfl rfl dL_law__918 dL_law__919 dL_law__921 (by decide) dL_law__922 dL_law__923 ?_
  refine v_arg F hb hX hbl 4 (by omega) hL 5 1 rfl rfl dL_law__924 dL_law__925 dL_law__927 (by decide) dL_law__928 dL_law__929 ?_
  refine v_callVi (As := [.int (xs (n + 1)), .int (xs (n + 2)), .int (xs (n + 3)), .int (xs (n + 4))]) (rest := []) F (c_X11_grows l F.2.2.1 tM e2) (cwV 4 F.1.2.2.2.2 (gU_V ml_L_160 im_yX11_grows se_yX11_grows ini_X11 cd_X11_grows) rfl rfl rfl (by decide +kernel) ⟨Nat.le_of_ble_eq_true rfl, Nat.le_of_ble_eq_true rfl⟩) tM (by decide) rfl rfl rfl (Nat.le_of_ble_eq_true rfl) dL_law__930 ⟨by show _ ≤ 601024; omega, by show _ ≤ 7293034; omega⟩ ?_
  refine v_istore (lv' := [(6, .int r), (5, .int t), (4, .int (nI n)), (3, .ref (gAd g 331)), (2, .ref (gAd g 250)), (1, .ref (gAd g 0)), (0, .ref b)]) F dL_law__933 (by decide) rfl ?_
  refine v_aload_n F dL_law__935 rfl 4 rfl ?_
  refine v_callVi (As := []) (rest := []) F (c_X11_thrown l F.2.2.1 tM (rfl : f_X11_thrown M2 250 = some (M2 250 0, M2))) (cwV 0 F.1.2.2.2.2 (gU_V ml_L_124 im_yX11_thrown se_yX11_thrown ini_X11 cd_X11_thrown) rfl rfl rfl (by decide +kernel) ⟨Nat.le_of_ble_eq_true rfl, Nat.le_of_ble_eq_true rfl⟩) tM (by decide) rfl rfl rfl (Nat.le_of_ble_eq_true rfl) dL_law__936 ⟨by show _ ≤ 601024; omega, by show _ ≤ 7293034; omega⟩ ?_
  refine v_iload F dL_law__939 1 rfl ?_
  refine v_icmp_eq (tgt := 946) F dL_law__941 (by decide) (fun _ => ?_) (fun h => absurd e3 h)
  refine v_iload F dL_law__946 1 rfl ?_
  refine v_if_ne (tgt := 970) F dL_law__948 (by decide) (fun _ => ?_) (fun ht => ?_)
  · refine v_goto (tgt := 2639) F dL_law__970 (by decide) ?_
    refine v_widen (k := cells + 10) (n := slots + 60) (by omega) (by omega) ?_
    exact v_sub (fun ls h9 => lv_sub h9 [2, 3, 4, 5, 6] rfl) (kk _ _ hI2)
  · refine v_aload_n F dL_law__951 rfl 3 rfl ?_
    refine v_iconst (v := 0) F dL_law__952 (by decide) ?_
    refine v_lald F tO out_in dL_law__953 ?_
    rw [show (M2 250 0, M2).snd 331 (0 : Int32).toNatClampNeg = r from (e4 ht).1]
    refine v_iload F dL_law__954 0 rfl ?_
    refine v_if_eq (tgt := 963) F dL_law__956 (by decide) (fun hr0 => ?_) (fun hr1 => ?_)
    · refine v_lconst (v := 0) F dL_law__963 (by decide) ?_
      refine v_lcmp F dL_law__964 ?_
      rw [show lg_cmp r.toInt64 0 = 0 from by rw [hr0]; decide]
      refine v_if_eq (tgt := 970) F dL_law__965 (by decide) (fun _ => ?_) (fun h => absurd rfl h)
      refine v_goto (tgt := 2639) F dL_law__970 (by decide) ?_
      refine v_widen (k := cells + 10) (n := slots + 60) (by omega) (by omega) ?_
      exact v_sub (fun ls h9 => lv_sub h9 [2, 3, 4, 5, 6] rfl) (kk _ _ hI2)
    · refine v_lconst (v := 1) F dL_law__959 (by decide) ?_
      refine v_goto (tgt := 964) F dL_law__960 (by decide) ?_
      refine v_lcmp F dL_law__964 ?_
      rw [show lg_cmp r.toInt64 1 = 0 from by rw [(e4 ht).2.resolve_left hr1]; decide]
      refine v_if_eq (tgt := 970) F dL_law__965 (by decide) (fun _ => ?_) (fun h => absurd rfl h)
      refine v_goto (tgt := 2639) F dL_law__970 (by decide) ?_
      refine v_widen (k := cells + 10) (n := slots + 60) (by omega) (by omega) ?_
      exact v_sub (fun ls h9 => lv_sub h9 [2, 3, 4, 5, 6] rfl) (kk _ _ hI2)
set_option maxHeartbeats 4000000 in
set_option maxRecDepth 100000 in
theorem lc_11 {g : gT} {p : Program} {l : Launch} {e : Env} {s : State} {m : MethodId} {args : Array Value} {below : List Frame} {meth : Method} {c9 : Code} {cells slots : Nat} {Q : State → Prop} {b L n : Nat} {xs : Nat → Int32} {M : Mem} {st : St} (F : Fx g p s m args c9 cL_law_ 7 uL_law_ RL) (hb : gB g = s.heap.size) (hst : l.stackTraces = false) (tX : Ty g 10 0) (tM : Ty g 11 250) (tO : Ty g 17 331) (h332 : 332 ∉ gL g) (h333 : 333 ∉ gL g) (hX : va_X b L xs s s.heap) (hbl : b < s.heap.size) (hn : n + 7 ≤ L) (hL : L < 100000) (hI : Inv M st) (hC : cells + 10 ≤ 601024) (hD : slots + 60 ≤ 7293034) (kk : ∀ M' st', Inv M' st' → V g p l e room_1 s m args below meth c9 7 (cells + 10) (slots + 60) Q 2639 [(4, .int (nI n)), (3, .ref (gAd g 331)), (2, .ref (gAd g 250)), (1, .ref (gAd g 0)), (0, .ref b)] [] M') : V g p l e room_1 s m args below meth c9 7 cells slots Q 973 [(4, .int (nI n)), (3, .ref (gAd g 331)), (2, .ref (gAd g 250)), (1, .ref (gAd g 0)), (0, .ref b)] [] M := by
  obtain ⟨t, M1, r, M2, e1, e2, e3, e4, hI2⟩ := cb_line hI (xs (n + 1)) (xs (n + 2)) (xs (n + 3))
  dsimp only at e2
  refine v_aload_n F dL_law__973 rfl 3 rfl ?_
  refine v_arg F hb hX hbl 1 (by omega) hL 4 0 rfl rfl dL_law__974 dL_law__975 dL_law__977 (by decide) dL_law__978 dL_law__979 ?_
  refine v_arg F hb hX hbl 2 (by omega) hL 4 0 rfl rfl dL_law__980 dL_law__981 dL_law__983 (by decide) dL_law__984 dL_law__985 ?_
  refine v_arg F hb hX hbl 3 (by omega) hL 4 0 rfl rfl dL_law__986 dL_law__987 dL_law__989 (by decide) dL_law__990 dL_law__991 ?_
  refine v_aload_n F dL_law__992 rfl 1 rfl ?_
  refine v_callSXi (As := [.ref (gAd g 0), .int (xs (n + 1)), .int (xs (n + 2)), .int (xs (n + 3)), .ref (gAd g 331)]) (rest := []) F (c_L_line l hst F.2.2.1 tX tO e1) (vx_cwSW 5 F.1.2.2.2.2 (gU_SX ml_L_161 st_yL_line ini_L cd_L_line) rfl rfl rfl (by decide +kernel) ⟨Nat.le_of_ble_eq_true rfl, Nat.le_of_ble_eq_true rfl⟩) rfl rfl (Nat.le_of_ble_eq_true rfl) dL_law__993 ⟨by show _ ≤ 601024; omega, by show _ ≤ 7293034; omega⟩ ?_
  refine v_istore (lv' := [(5, .int t), (4, .int (nI n)), (3, .ref (gAd g 331)), (2, .ref (gAd g 250)), (1, .ref (gAd g 0)), (0, .ref b)]) F dL_law__996 (by decide) rfl ?_
  refine v_aload_n F dL_law__998 rfl 3 rfl ?_
  refine v_arg F hb hX hbl 1 (by omega) hL 5 1 rfl rfl dL_law__999 dL_law__1000 dL_law__1002 (by decide) dL_law__1003 dL_law__1004 ?_
  refine v_arg F hb hX hbl 2 (by omega) hL 5 1 rfl rfl dL_law__1005 dL_law__1006 dL_law__1008 (by decide) dL_law__1009 dL_law__1010 ?_
  refine v_arg F hb hX hbl 3 (by omega) hL 5 1 rfl rfl dL_law__1011 dL_law__1012 dL_law__1014 (by decide) dL_law__1015 dL_law__1016 ?_
  refine v_callVi (As := [.int (xs (n + 1)), .int (xs (n + 2)), .int (xs (n + 3))]) (rest := []) F (c_X11_line l F.2.2.1 tM e2) (cwV 3 F.1.2.2.2.2 (gU_V ml_L_163 im_yX11_line se_yX11_line ini_X11 cd_X11_line) rfl rfl rfl (by decide +kernel) ⟨Nat.le_of_ble_eq_true rfl, Nat.le_of_ble_eq_true rfl⟩) tM (by decide) rfl rfl rfl (Nat.le_of_ble_eq_true rfl) dL_law__1017 ⟨by show _ ≤ 601024; omega, by show _ ≤ 7293034; omega⟩ ?_
  refine v_istore (lv' := [(6, .int r), (5, .int t), (4, .int (nI n)), (3, .ref (gAd g 331)), (2, .ref (gAd g 250)), (1, .ref (gAd g 0)), (0, .ref b)]) F dL_law__1020 (by decide) rfl ?_
  refine v_aload_n F dL_law__1022 rfl 4 rfl ?_
  refine v_callVi (As := []) (rest := []) F (c_X11_thrown l F.2.2.1 tM (rfl : f_X11_thrown M2 250 = some (M2 250 0, M2))) (cwV 0 F.1.2.2.2.2 (gU_V ml_L_124 im_yX11_thrown se_yX11_thrown ini_X11 cd_X11_thrown) rfl rfl rfl (by decide +kernel) ⟨Nat.le_of_ble_eq_true rfl, Nat.le_of_ble_eq_true rfl⟩) tM (by decide) rfl rfl rfl (Nat.le_of_ble_eq_true rfl) dL_law__1023 ⟨by show _ ≤ 601024; omega, by show _ ≤ 7293034; omega⟩ ?_
  refine v_iload F dL_law__1026 1 rfl ?_
  refine v_icmp_eq (tgt := 1033) F dL_law__1028 (by decide) (fun _ => ?_) (fun h => absurd e3 h)
  refine v_iload F dL_law__1033 1 rfl ?_
  refine v_if_ne (tgt := 1050) F dL_law__1035 (by decide) (fun _ => ?_) (fun ht => ?_)
  · refine v_goto (tgt := 2639) F dL_law__1050 (by decide) ?_
    refine v_widen (k := cells + 10) (n := slots + 60) (by omega) (by omega) ?_
    exact v_sub (fun ls h9 => lv_sub h9 [2, 3, 4, 5, 6] rfl) (kk _ _ hI2)
  · refine v_aload_n F dL_law__1038 rfl 3 rfl ?_
    refine v_iconst (v := 0) F dL_law__1039 (by decide) ?_
    refine v_lald F tO out_in dL_law__1040 ?_
    refine v_iload F dL_law__1041 0 rfl ?_
    refine v_i2l F dL_law__1043 rfl ?_
    rw [show (M2 250 0, M2).snd 331 (0 : Int32).toNatClampNeg = r from e4 ht]
    refine v_lcmp F dL_law__1044 ?_
    rw [cmp_eq]
    refine v_if_eq (tgt := 1050) F dL_law__1045 (by decide) (fun _ => ?_) (fun h => absurd rfl h)
    refine v_goto (tgt := 2639) F dL_law__1050 (by decide) ?_
    refine v_widen (k := cells + 10) (n := slots + 60) (by omega) (by omega) ?_
    exact v_sub (fun ls h9 => lv_sub h9 [2, 3, 4, 5, 6] rfl) (kk _ _ hI2)
set_option maxHeartbeats 4000000 in
set_option maxRecDepth 100000 in
theorem lc_12 {g : gT} {p : Program} {l : Launch} {e : Env} {s : State} {m : MethodId} {args : Array Value} {below : List Frame} {meth : Method} {c9 : Code} {cells slots : Nat} {Q : State → Prop} {b L n : Nat} {xs : Nat → Int32} {M : Mem} {st : St} (F : Fx g p s m args c9 cL_law_ 7 uL_law_ RL) (hb : gB g = s.heap.size) (hst : l.stackTraces = false) (tX : Ty g 10 0) (tM : Ty g 11 250) (tO : Ty g 17 331) (h332 : 332 ∉ gL g) (h333 : 333 ∉ gL g) (hX : va_X b L xs s s.heap) (hbl : b < s.heap.size) (hn : n + 7 ≤ L) (hL : L < 100000) (hI : Inv M st) (hC : cells + 10 ≤ 601024) (hD : slots + 60 ≤ 7293034) (kk : ∀ M' st', Inv M' st' → V g p l e room_1 s m args below meth c9 7 (cells + 10) (slots + 60) Q 2639 [(4, .int (nI n)), (3, .ref (gAd g 331)), (2, .ref (gAd g 250)), (1, .ref (gAd g 0)), (0, .ref b)] [] M') : V g p l e room_1 s m args below meth c9 7 cells slots Q 1053 [(4, .int (nI n)), (3, .ref (gAd g 331)), (2, .ref (gAd g 250)), (1, .ref (gAd g 0)), (0, .ref b)] [] M := by
  obtain ⟨t, M1, r, M2, e1, e2, e3, e4, hI2⟩ := cb_why hI (xs (n + 1)) (xs (n + 2)) (xs (n + 3)) (xs (n + 4))
  dsimp only at e2
  refine v_aload_n F dL_law__1053 rfl 3 rfl ?_
  refine v_arg F hb hX hbl 1 (by omega) hL 4 0 rfl rfl dL_law__1054 dL_law__1055 dL_law__1057 (by decide) dL_law__1058 dL_law__1059 ?_
  refine v_arg F hb hX hbl 2 (by omega) hL 4 0 rfl rfl dL_law__1060 dL_law__1061 dL_law__1063 (by decide) dL_law__1064 dL_law__1065 ?_
  refine v_arg F hb hX hbl 3 (by omega) hL 4 0 rfl rfl dL_law__1066 dL_law__1067 dL_law__1069 (by decide) dL_law__1070 dL_law__1071 ?_
  refine v_arg F hb hX hbl 4 (by omega) hL 4 0 rfl rfl dL_law__1072 dL_law__1073 dL_law__1075 (by decide) dL_law__1076 dL_law__1077 ?_
  refine v_aload_n F dL_law__1078 rfl 1 rfl ?_
  refine v_callSXi (As := [.ref (gAd g 0), .int (xs (n + 1)), .int (xs (n + 2)), .int (xs (n + 3)), .int (xs (n + 4)), .ref (gAd g 331)]) (rest := []) F (c_L_why l hst F.2.2.1 tX tO e1) (vx_cwSW 6 F.1.2.2.2.2 (gU_SX ml_L_164 st_yL_why ini_L cd_L_why) rfl rfl rfl (by decide +kernel) ⟨Nat.le_of_ble_eq_true rfl, Nat.le_of_ble_eq_true rfl⟩) rfl rfl (Nat.le_of_ble_eq_true rfl) dL_law__1079 ⟨by show _ ≤ 601024; omega, by show _ ≤ 7293034; omega⟩ ?_
  refine v_istore (lv' := [(5, .int t), (4, .int (nI n)), (3, .ref (gAd g 331)), (2, .ref (gAd g 250)), (1, .ref (gAd g 0)), (0, .ref b)]) F dL_law__1082 (by decide) rfl ?_
  refine v_aload_n F dL_law__1084 rfl 3 rfl ?_
  refine v_arg F hb hX hbl 1 (by omega) hL 5 1 rfl rfl dL_law__1085 dL_law__1086 dL_law__1088 (by decide) dL_law__1089 dL_law__1090 ?_
  refine v_arg F hb hX hbl 2 (by omega) hL 5 1 rfl rfl dL_law__1091 dL_law__1092 dL_law__1094 (by decide) dL_law__1095 dL_law__1096 ?_
  refine v_arg F hb hX hbl 3 (by omega) hL 5 1 rfl rfl dL_law__1097 dL_law__1098 dL_law__1100 (by decide) dL_law__1101 dL_law__1102 ?_
  refine v_arg F hb hX hbl 4 (by omega) hL 5 1 rfl rfl dL_law__1103 dL_law__1104 dL_law__1106 (by decide) dL_law__1107 dL_law__1108 ?_
  refine v_callVi (As := [.int (xs (n + 1)), .int (xs (n + 2)), .int (xs (n + 3)), .int (xs (n + 4))]) (rest := []) F (c_X11_why l F.2.2.1 tM e2) (cwV 4 F.1.2.2.2.2 (gU_V ml_L_166 im_yX11_why se_yX11_why ini_X11 cd_X11_why) rfl rfl rfl (by decide +kernel) ⟨Nat.le_of_ble_eq_true rfl, Nat.le_of_ble_eq_true rfl⟩) tM (by decide) rfl rfl rfl (Nat.le_of_ble_eq_true rfl) dL_law__1109 ⟨by show _ ≤ 601024; omega, by show _ ≤ 7293034; omega⟩ ?_
  refine v_istore (lv' := [(6, .int r), (5, .int t), (4, .int (nI n)), (3, .ref (gAd g 331)), (2, .ref (gAd g 250)), (1, .ref (gAd g 0)), (0, .ref b)]) F dL_law__1112 (by decide) rfl ?_
  refine v_aload_n F dL_law__1114 rfl 4 rfl ?_
  refine v_callVi (As := []) (rest := []) F (c_X11_thrown l F.2.2.1 tM (rfl : f_X11_thrown M2 250 = some (M2 250 0, M2))) (cwV 0 F.1.2.2.2.2 (gU_V ml_L_124 im_yX11_thrown se_yX11_thrown ini_X11 cd_X11_thrown) rfl rfl rfl (by decide +kernel) ⟨Nat.le_of_ble_eq_true rfl, Nat.le_of_ble_eq_true rfl⟩) tM (by decide) rfl rfl rfl (Nat.le_of_ble_eq_true rfl) dL_law__1115 ⟨by show _ ≤ 601024; omega, by show _ ≤ 7293034; omega⟩ ?_
  refine v_iload F dL_law__1118 1 rfl ?_
  refine v_icmp_eq (tgt := 1125) F dL_law__1120 (by decide) (fun _ => ?_) (fun h => absurd e3 h)
  refine v_iload F dL_law__1125 1 rfl ?_
  refine v_if_ne (tgt := 1142) F dL_law__1127 (by decide) (fun _ => ?_) (fun ht => ?_)
  · refine v_goto (tgt := 2639) F dL_law__1142 (by decide) ?_
    refine v_widen (k := cells + 10) (n := slots + 60) (by omega) (by omega) ?_
    exact v_sub (fun ls h9 => lv_sub h9 [2, 3, 4, 5, 6] rfl) (kk _ _ hI2)
  · refine v_aload_n F dL_law__1130 rfl 3 rfl ?_
    refine v_iconst (v := 0) F dL_law__1131 (by decide) ?_
    refine v_lald F tO out_in dL_law__1132 ?_
    refine v_iload F dL_law__1133 0 rfl ?_
    refine v_i2l F dL_law__1135 rfl ?_
    rw [show (M2 250 0, M2).snd 331 (0 : Int32).toNatClampNeg = r from e4 ht]
    refine v_lcmp F dL_law__1136 ?_
    rw [cmp_eq]
    refine v_if_eq (tgt := 1142) F dL_law__1137 (by decide) (fun _ => ?_) (fun h => absurd rfl h)
    refine v_goto (tgt := 2639) F dL_law__1142 (by decide) ?_
    refine v_widen (k := cells + 10) (n := slots + 60) (by omega) (by omega) ?_
    exact v_sub (fun ls h9 => lv_sub h9 [2, 3, 4, 5, 6] rfl) (kk _ _ hI2)
set_option maxHeartbeats 4000000 in
set_option maxRecDepth 100000 in
theorem lc_13z {g : gT} {p : Program} {l : Launch} {e : Env} {s : State} {m : MethodId} {args : Array Value} {below : List Frame} {meth : Method} {c9 : Code} {cells slots : Nat} {Q : State → Prop} {b L n : Nat} {xs : Nat → Int32} {M : Mem} {st : St} (F : Fx g p s m args c9 cL_law_ 7 uL_law_ RL) (hb : gB g = s.heap.size) (hst : l.stackTraces = false) (tX : Ty g 10 0) (tM : Ty g 11 250) (tO : Ty g 17 331) (h332 : 332 ∉ gL g) (h333 : 333 ∉ gL g) (hX : va_X b L xs s s.heap) (hbl : b < s.heap.size) (hn : n + 7 ≤ L) (hL : L < 100000) (hI : Inv M st) (hC : cells + 10 ≤ 601024) (hD : slots + 60 ≤ 7293034) (kk : ∀ M' st', Inv M' st' → V g p l e room_1 s m args below meth c9 7 (cells + 10) (slots + 60) Q 2639 [(4, .int (nI n)), (3, .ref (gAd g 331)), (2, .ref (gAd g 250)), (1, .ref (gAd g 0)), (0, .ref b)] [] M') (hz : xs (n + 5) = 0) : V g p l e room_1 s m args below meth c9 7 cells slots Q 1145 [(4, .int (nI n)), (3, .ref (gAd g 331)), (2, .ref (gAd g 250)), (1, .ref (gAd g 0)), (0, .ref b)] [] M := by
  obtain ⟨t, M1, r, M2, e1, e2, e3, e4, hI2⟩ := cb_first hI (xs (n + 1)) (xs (n + 2)) (xs (n + 3)) (xs (n + 4)) (0)
  dsimp only at e2
  refine v_aload_n F dL_law__1145 rfl 3 rfl ?_
  refine v_arg F hb hX hbl 1 (by omega) hL 4 0 rfl rfl dL_law__1146 dL_law__1147 dL_law__1149 (by decide) dL_law__1150 dL_law__1151 ?_
  refine v_arg F hb hX hbl 2 (by omega) hL 4 0 rfl rfl dL_law__1152 dL_law__1153 dL_law__1155 (by decide) dL_law__1156 dL_law__1157 ?_
  refine v_arg F hb hX hbl 3 (by omega) hL 4 0 rfl rfl dL_law__1158 dL_law__1159 dL_law__1161 (by decide) dL_law__1162 dL_law__1163 ?_
  refine v_arg F hb hX hbl 4 (by omega) hL 4 0 rfl rfl dL_law__1164 dL_law__1165 dL_law__1167 (by decide) dL_law__1168 dL_law__1169 ?_
  refine v_arg F hb hX hbl 5 (by omega) hL 4 0 rfl rfl dL_law__1170 dL_law__1171 dL_law__1173 (by decide) dL_law__1174 dL_law__1175 ?_
  refine v_if_eq (tgt := 1183) F dL_law__1176 (by decide) (fun _ => ?_) (fun h => absurd hz h)
  refine v_iconst (v := 0) F dL_law__1183 (by decide) ?_
  refine v_aload_n F dL_law__1184 rfl 1 rfl ?_
  refine v_callSXi (As := [.ref (gAd g 0), .int (xs (n + 1)), .int (xs (n + 2)), .int (xs (n + 3)), .int (xs (n + 4)), .int (0), .ref (gAd g 331)]) (rest := []) F (c_L_first l hst F.2.2.1 tX tO e1) (vx_cwSW 7 F.1.2.2.2.2 (gU_SX ml_L_167 st_yL_first ini_L cd_L_first) rfl rfl rfl (by decide +kernel) ⟨Nat.le_of_ble_eq_true rfl, Nat.le_of_ble_eq_true rfl⟩) rfl rfl (Nat.le_of_ble_eq_true rfl) dL_law__1185 ⟨by show _ ≤ 601024; omega, by show _ ≤ 7293034; omega⟩ ?_
  refine v_istore (lv' := [(5, .int t), (4, .int (nI n)), (3, .ref (gAd g 331)), (2, .ref (gAd g 250)), (1, .ref (gAd g 0)), (0, .ref b)]) F dL_law__1188 (by decide) rfl ?_
  refine v_aload_n F dL_law__1190 rfl 3 rfl ?_
  refine v_arg F hb hX hbl 1 (by omega) hL 5 1 rfl rfl dL_law__1191 dL_law__1192 dL_law__1194 (by decide) dL_law__1195 dL_law__1196 ?_
  refine v_arg F hb hX hbl 2 (by omega) hL 5 1 rfl rfl dL_law__1197 dL_law__1198 dL_law__1200 (by decide) dL_law__1201 dL_law__1202 ?_
  refine v_arg F hb hX hbl 3 (by omega) hL 5 1 rfl rfl dL_law__1203 dL_law__1204 dL_law__1206 (by decide) dL_law__1207 dL_law__1208 ?_
  refine v_arg F hb hX hbl 4 (by omega) hL 5 1 rfl rfl dL_law__1209 dL_law__1210 dL_law__1212 (by decide) dL_law__1213 dL_law__1214 ?_
  refine v_arg F hb hX hbl 5 (by omega) hL 5 1 rfl rfl dL_law__1215 dL_law__1216 dL_law__1218 (by decide) dL_law__1219 dL_law__1220 ?_
  refine v_if_eq (tgt := 1228) F dL_law__1221 (by decide) (fun _ => ?_) (fun h => absurd hz h)
  refine v_iconst (v := 0) F dL_law__1228 (by decide) ?_
  refine v_callVi (As := [.int (xs (n + 1)), .int (xs (n + 2)), .int (xs (n + 3)), .int (xs (n + 4)), .int (0)]) (rest := []) F (c_X11_first l F.2.2.1 tM e2) (cwV 5 F.1.2.2.2.2 (gU_V ml_L_170 im_yX11_first se_yX11_first ini_X11 cd_X11_first) rfl rfl rfl (by decide +kernel) ⟨Nat.le_of_ble_eq_true rfl, Nat.le_of_ble_eq_true rfl⟩) tM (by decide) rfl rfl rfl (Nat.le_of_ble_eq_true rfl) dL_law__1229 ⟨by show _ ≤ 601024; omega, by show _ ≤ 7293034; omega⟩ ?_
  refine v_istore (lv' := [(6, .int r), (5, .int t), (4, .int (nI n)), (3, .ref (gAd g 331)), (2, .ref (gAd g 250)), (1, .ref (gAd g 0)), (0, .ref b)]) F dL_law__1232 (by decide) rfl ?_
  refine v_aload_n F dL_law__1234 rfl 4 rfl ?_
  refine v_callVi (As := []) (rest := []) F (c_X11_thrown l F.2.2.1 tM (rfl : f_X11_thrown M2 250 = some (M2 250 0, M2))) (cwV 0 F.1.2.2.2.2 (gU_V ml_L_124 im_yX11_thrown se_yX11_thrown ini_X11 cd_X11_thrown) rfl rfl rfl (by decide +kernel) ⟨Nat.le_of_ble_eq_true rfl, Nat.le_of_ble_eq_true rfl⟩) tM (by decide) rfl rfl rfl (Nat.le_of_ble_eq_true rfl) dL_law__1235 ⟨by show _ ≤ 601024; omega, by show _ ≤ 7293034; omega⟩ ?_
  refine v_iload F dL_law__1238 1 rfl ?_
  refine v_icmp_eq (tgt := 1245) F dL_law__1240 (by decide) (fun _ => ?_) (fun h => absurd e3 h)
  refine v_iload F dL_law__1245 1 rfl ?_
  refine v_if_ne (tgt := 1262) F dL_law__1247 (by decide) (fun _ => ?_) (fun ht => ?_)
  · refine v_goto (tgt := 2639) F dL_law__1262 (by decide) ?_
    refine v_widen (k := cells + 10) (n := slots + 60) (by omega) (by omega) ?_
    exact v_sub (fun ls h9 => lv_sub h9 [2, 3, 4, 5, 6] rfl) (kk _ _ hI2)
  · refine v_aload_n F dL_law__1250 rfl 3 rfl ?_
    refine v_iconst (v := 0) F dL_law__1251 (by decide) ?_
    refine v_lald F tO out_in dL_law__1252 ?_
    refine v_iload F dL_law__1253 0 rfl ?_
    refine v_i2l F dL_law__1255 rfl ?_
    rw [show (M2 250 0, M2).snd 331 (0 : Int32).toNatClampNeg = r from e4 ht]
    refine v_lcmp F dL_law__1256 ?_
    rw [cmp_eq]
    refine v_if_eq (tgt := 1262) F dL_law__1257 (by decide) (fun _ => ?_) (fun h => absurd rfl h)
    refine v_goto (tgt := 2639) F dL_law__1262 (by decide) ?_
    refine v_widen (k := cells + 10) (n := slots + 60) (by omega) (by omega) ?_
    exact v_sub (fun ls h9 => lv_sub h9 [2, 3, 4, 5, 6] rfl) (kk _ _ hI2)
set_option maxHeartbeats 4000000 in
set_option maxRecDepth 100000 in
theorem lc_13n {g : gT} {p : Program} {l : Launch} {e : Env} {s : State} {m : MethodId} {args : Array Value} {below : List Frame} {meth : Method} {c9 : Code} {cells slots : Nat} {Q : State → Prop} {b L n : Nat} {xs : Nat → Int32} {M : Mem} {st : St} (F : Fx g p s m args c9 cL_law_ 7 uL_law_ RL) (hb : gB g = s.heap.size) (hst : l.stackTraces = false) (tX : Ty g 10 0) (tM : Ty g 11 250) (tO : Ty g 17 331) (h332 : 332 ∉ gL g) (h333 : 333 ∉ gL g) (hX : va_X b L xs s s.heap) (hbl : b < s.heap.size) (hn : n + 7 ≤ L) (hL : L < 100000) (hI : Inv M st) (hC : cells + 10 ≤ 601024) (hD : slots + 60 ≤ 7293034) (kk : ∀ M' st', Inv M' st' → V g p l e room_1 s m args below meth c9 7 (cells + 10) (slots + 60) Q 2639 [(4, .int (nI n)), (3, .ref (gAd g 331)), (2, .ref (gAd g 250)), (1, .ref (gAd g 0)), (0, .ref b)] [] M') (hz : ¬ xs (n + 5) = 0) : V g p l e room_1 s m args below meth c9 7 cells slots Q 1145 [(4, .int (nI n)), (3, .ref (gAd g 331)), (2, .ref (gAd g 250)), (1, .ref (gAd g 0)), (0, .ref b)] [] M := by
  obtain ⟨t, M1, r, M2, e1, e2, e3, e4, hI2⟩ := cb_first hI (xs (n + 1)) (xs (n + 2)) (xs (n + 3)) (xs (n + 4)) (1)
  dsimp only at e2
  refine v_aload_n F dL_law__1145 rfl 3 rfl ?_
  refine v_arg F hb hX hbl 1 (by omega) hL 4 0 rfl rfl dL_law__1146 dL_law__1147 dL_law__1149 (by decide) dL_law__1150 dL_law__1151 ?_
  refine v_arg F hb hX hbl 2 (by omega) hL 4 0 rfl rfl dL_law__1152 dL_law__1153 dL_law__1155 (by decide) dL_law__1156 dL_law__1157 ?_
  refine v_arg F hb hX hbl 3 (by omega) hL 4 0 rfl rfl dL_law__1158 dL_law__1159 dL_law__1161 (by decide) dL_law__1162 dL_law__1163 ?_
  refine v_arg F hb hX hbl 4 (by omega) hL 4 0 rfl rfl dL_law__1164 dL_law__1165 dL_law__1167 (by decide) dL_law__1168 dL_law__1169 ?_
  refine v_arg F hb hX hbl 5 (by omega) hL 4 0 rfl rfl dL_law__1170 dL_law__1171 dL_law__1173 (by decide) dL_law__1174 dL_law__1175 ?_
  refine v_if_eq (tgt := 1183) F dL_law__1176 (by decide) (fun h => absurd h hz) (fun _ => ?_)
  refine v_iconst (v := 1) F dL_law__1179 (by decide) ?_
  refine v_goto (tgt := 1184) F dL_law__1180 (by decide) ?_
  refine v_aload_n F dL_law__1184 rfl 1 rfl ?_
  refine v_callSXi (As := [.ref (gAd g 0), .int (xs (n + 1)), .int (xs (n + 2)), .int (xs (n + 3)), .int (xs (n + 4)), .int (1), .ref (gAd g 331)]) (rest := []) F (c_L_first l hst F.2.2.1 tX tO e1) (vx_cwSW 7 F.1.2.2.2.2 (gU_SX ml_L_167 st_yL_first ini_L cd_L_first) rfl rfl rfl (by decide +kernel) ⟨Nat.le_of_ble_eq_true rfl, Nat.le_of_ble_eq_true rfl⟩) rfl rfl (Nat.le_of_ble_eq_true rfl) dL_law__1185 ⟨by show _ ≤ 601024; omega, by show _ ≤ 7293034; omega⟩ ?_
  refine v_istore (lv' := [(5, .int t), (4, .int (nI n)), (3, .ref (gAd g 331)), (2, .ref (gAd g 250)), (1, .ref (gAd g 0)), (0, .ref b)]) F dL_law__1188 (by decide) rfl ?_
  refine v_aload_n F dL_law__1190 rfl 3 rfl ?_
  refine v_arg F hb hX hbl 1 (by omega) hL 5 1 rfl rfl dL_law__1191 dL_law__1192 dL_law__1194 (by decide) dL_law__1195 dL_law__1196 ?_
  refine v_arg F hb hX hbl 2 (by omega) hL 5 1 rfl rfl dL_law__1197 dL_law__1198 dL_law__1200 (by decide) dL_law__1201 dL_law__1202 ?_
  refine v_arg F hb hX hbl 3 (by omega) hL 5 1 rfl rfl dL_law__1203 dL_law__1204 dL_law__1206 (by decide) dL_law__1207 dL_law__1208 ?_
  refine v_arg F hb hX hbl 4 (by omega) hL 5 1 rfl rfl dL_law__1209 dL_law__1210 dL_law__1212 (by decide) dL_law__1213 dL_law__1214 ?_
  refine v_arg F hb hX hbl 5 (by omega) hL 5 1 rfl rfl dL_law__1215 dL_law__1216 dL_law__1218 (by decide) dL_law__1219 dL_law__1220 ?_
  refine v_if_eq (tgt := 1228) F dL_law__1221 (by decide) (fun h => absurd h hz) (fun _ => ?_)
  refine v_iconst (v := 1) F dL_law__1224 (by decide) ?_
  refine v_goto (tgt := 1229) F dL_law__1225 (by decide) ?_
  refine v_callVi (As := [.int (xs (n + 1)), .int (xs (n + 2)), .int (xs (n + 3)), .int (xs (n + 4)), .int (1)]) (rest := []) F (c_X11_first l F.2.2.1 tM e2) (cwV 5 F.1.2.2.2.2 (gU_V ml_L_170 im_yX11_first se_yX11_first ini_X11 cd_X11_first) rfl rfl rfl (by decide +kernel) ⟨Nat.le_of_ble_eq_true rfl, Nat.le_of_ble_eq_true rfl⟩) tM (by decide) rfl rfl rfl (Nat.le_of_ble_eq_true rfl) dL_law__1229 ⟨by show _ ≤ 601024; omega, by show _ ≤ 7293034; omega⟩ ?_
  refine v_istore (lv' := [(6, .int r), (5, .int t), (4, .int (nI n)), (3, .ref (gAd g 331)), (2, .ref (gAd g 250)), (1, .ref (gAd g 0)), (0, .ref b)]) F dL_law__1232 (by decide) rfl ?_
  refine v_aload_n F dL_law__1234 rfl 4 rfl ?_
  refine v_callVi (As := []) (rest := []) F (c_X11_thrown l F.2.2.1 tM (rfl : f_X11_thrown M2 250 = some (M2 250 0, M2))) (cwV 0 F.1.2.2.2.2 (gU_V ml_L_124 im_yX11_thrown se_yX11_thrown ini_X11 cd_X11_thrown) rfl rfl rfl (by decide +kernel) ⟨Nat.le_of_ble_eq_true rfl, Nat.le_of_ble_eq_true rfl⟩) tM (by decide) rfl rfl rfl (Nat.le_of_ble_eq_true rfl) dL_law__1235 ⟨by show _ ≤ 601024; omega, by show _ ≤ 7293034; omega⟩ ?_
  refine v_iload F dL_law__1238 1 rfl ?_
  refine v_icmp_eq (tgt := 1245) F dL_law__1240 (by decide) (fun _ => ?_) (fun h => absurd e3 h)
  refine v_iload F dL_law__1245 1 rfl ?_
  refine v_if_ne (tgt := 1262) F dL_law__1247 (by decide) (fun _ => ?_) (fun ht => ?_)
  · refine v_goto (tgt := 2639) F dL_law__1262 (by decide) ?_
    refine v_widen (k := cells + 10) (n := slots + 60) (by omega) (by omega) ?_
    exact v_sub (fun ls h9 => lv_sub h9 [2, 3, 4, 5, 6] rfl) (kk _ _ hI2)
  · refine v_aload_n F dL_law__1250 rfl 3 rfl ?_
    refine v_iconst (v := 0) F dL_law__1251 (by decide) ?_
    refine v_lald F tO out_in dL_law__1252 ?_
    refine v_iload F dL_law__1253 0 rfl ?_
    refine v_i2l F dL_law__1255 rfl ?_
    rw [show (M2 250 0, M2).snd 331 (0 : Int32).toNatClampNeg = r from e4 ht]
    refine v_lcmp F dL_law__1256 ?_
    rw [cmp_eq]
    refine v_if_eq (tgt := 1262) F dL_law__1257 (by decide) (fun _ => ?_) (fun h => absurd rfl h)
    refine v_goto (tgt := 2639) F dL_law__1262 (by decide) ?_
    refine v_widen (k := cells + 10) (n := slots + 60) (by omega) (by omega) ?_
    exact v_sub (fun ls h9 => lv_sub h9 [2, 3, 4, 5, 6] rfl) (kk _ _ hI2)
theorem lc_13 {g : gT} {p : Program} {l : Launch} {e : Env} {s : State} {m : MethodId} {args : Array Value} {below : List Frame} {meth : Method} {c9 : Code} {cells slots : Nat} {Q : State → Prop} {b L n : Nat} {xs : Nat → Int32} {M : Mem} {st : St} (F : Fx g p s m args c9 cL_law_ 7 uL_law_ RL) (hb : gB g = s.heap.size) (hst : l.stackTraces = false) (tX : Ty g 10 0) (tM : Ty g 11 250) (tO : Ty g 17 331) (h332 : 332 ∉ gL g) (h333 : 333 ∉ gL g) (hX : va_X b L xs s s.heap) (hbl : b < s.heap.size) (hn : n + 7 ≤ L) (hL : L < 100000) (hI : Inv M st) (hC : cells + 10 ≤ 601024) (hD : slots + 60 ≤ 7293034) (kk : ∀ M' st', Inv M' st' → V g p l e room_1 s m args below meth c9 7 (cells + 10) (slots + 60) Q 2639 [(4, .int (nI n)), (3, .ref (gAd g 331)), (2, .ref (gAd g 250)), (1, .ref (gAd g 0)), (0, .ref b)] [] M') : V g p l e room_1 s m args below meth c9 7 cells slots Q 1145 [(4, .int (nI n)), (3, .ref (gAd g 331)), (2, .ref (gAd g 250)), (1, .ref (gAd g 0)), (0, .ref b)] [] M := by
  by_cases hz : xs (n + 5) = 0
  · exact lc_13z F hb hst tX tM tO h332 h333 hX hbl hn hL hI hC hD kk hz
  · exact lc_13n F hb hst tX tM tO h332 h333 hX hbl hn hL hI hC hD kk hz
set_option maxHeartbeats 4000000 in
set_option maxRecDepth 100000 in
theorem lc_14z {g : gT} {p : Program} {l : Launch} {e : Env} {s : State} {m : MethodId} {args : Array Value} {below : List Frame} {meth : Method} {c9 : Code} {cells slots : Nat} {Q : State → Prop} {b L n : Nat} {xs : Nat → Int32} {M : Mem} {st : St} (F : Fx g p s m args c9 cL_law_ 7 uL_law_ RL) (hb : gB g = s.heap.size) (hst : l.stackTraces = false) (tX : Ty g 10 0) (tM : Ty g 11 250) (tO : Ty g 17 331) (h332 : 332 ∉ gL g) (h333 : 333 ∉ gL g) (hX : va_X b L xs s s.heap) (hbl : b < s.heap.size) (hn : n + 7 ≤ L) (hL : L < 100000) (hI : Inv M st) (hC : cells + 10 ≤ 601024) (hD : slots + 60 ≤ 7293034) (kk : ∀ M' st', Inv M' st' → V g p l e room_1 s m args below meth c9 7 (cells + 10) (slots + 60) Q 2639 [(4, .int (nI n)), (3, .ref (gAd g 331)), (2, .ref (gAd g 250)), (1, .ref (gAd g 0)), (0, .ref b)] [] M') (hz : xs (n + 5) = 0) : V g p l e room_1 s m args below meth c9 7 cells slots Q 1265 [(4, .int (nI n)), (3, .ref (gAd g 331)), (2, .ref (gAd g 250)), (1, .ref (gAd g 0)), (0, .ref b)] [] M := by
  obtain ⟨t, M1, r, M2, e1, e2, e3, e4, hI2⟩ := cb_where hI (xs (n + 1)) (xs (n + 2)) (xs (n + 3)) (xs (n + 4)) (0)
  dsimp only at e2
  refine v_aload_n F dL_law__1265 rfl 3 rfl ?_
  refine v_arg F hb hX hbl 1 (by omega) hL 4 0 rfl rfl dL_law__1266 dL_law__1267 dL_law__1269 (by decide) dL_law__1270 dL_law__1271 ?_
  refine v_arg F hb hX hbl 2 (by omega) hL 4 0 rfl rfl dL_law__1272 dL_law__1273 dL_law__1275 (by decide) dL_law__1276 dL_law__1277 ?_
  refine v_arg F hb hX hbl 3 (by omega) hL 4 0 rfl rfl dL_law__1278 dL_law__1279 dL_law__1281 (by decide) dL_law__1282 dL_law__1283 ?_
  refine v_arg F hb hX hbl 4 (by omega) hL 4 0 rfl rfl dL_law__1284 dL_law__1285 dL_law__1287 (by decide) dL_law__1288 dL_law__1289 ?_
  refine v_arg F hb hX hbl 5 (by omega) hL 4 0 rfl rfl dL_law__1290 dL_law__1291 dL_law__1293 (by decide) dL_law__1294 dL_law__1295 ?_
  refine v_if_eq (tgt := 1303) F dL_law__1296 (by decide) (fun _ => ?_) (fun h => absurd hz h)
  refine v_iconst (v := 0) F dL_law__1303 (by decide) ?_
  refine v_aload_n F dL_law__1304 rfl 1 rfl ?_
  refine v_callSXi (As := [.ref (gAd g 0), .int (xs (n + 1)), .int (xs (n + 2)), .int (xs (n + 3)), .int (xs (n + 4)), .int (0), .ref (gAd g 331)]) (rest := []) F (c_L_where l hst F.2.2.1 tX tO e1) (vx_cwSW 7 F.1.2.2.2.2 (gU_SX ml_L_171 st_yL_where ini_L cd_L_where) rfl rfl rfl (by decide +kernel) ⟨Nat.le_of_ble_eq_true rfl, Nat.le_of_ble_eq_true rfl⟩) rfl rfl (Nat.le_of_ble_eq_true rfl) dL_law__1305 ⟨by show _ ≤ 601024; omega, by show _ ≤ 7293034; omega⟩ ?_
  refine v_istore (lv' := [(5, .int t), (4, .int (nI n)), (3, .ref (gAd g 331)), (2, .ref (gAd g 250)), (1, .ref (gAd g 0)), (0, .ref b)]) F dL_law__1308 (by decide) rfl ?_
  refine v_aload_n F dL_law__1310 rfl 3 rfl ?_
  refine v_arg F hb hX hbl 1 (by omega) hL 5 1 rfl rfl dL_law__1311 dL_law__1312 dL_law__1314 (by decide) dL_law__1315 dL_law__1316 ?_
  refine v_arg F hb hX hbl 2 (by omega) hL 5 1 rfl rfl dL_law__1317 dL_law__1318 dL_law__1320 (by decide) dL_law__1321 dL_law__1322 ?_
  refine v_arg F hb hX hbl 3 (by omega) hL 5 1 rfl rfl dL_law__1323 dL_law__1324 dL_law__1326 (by decide) dL_law__1327 dL_law__1328 ?_
  refine v_arg F hb hX hbl 4 (by omega) hL 5 1 rfl rfl dL_law__1329 dL_law__1330 dL_law__1332 (by decide) dL_law__1333 dL_law__1334 ?_
  refine v_arg F hb hX hbl 5 (by omega) hL 5 1 rfl rfl dL_law__1335 dL_law__1336 dL_law__1338 (by decide) dL_law__1339 dL_law__1340 ?_
  refine v_if_eq (tgt := 1348) F dL_law__1341 (by decide) (fun _ => ?_) (fun h => absurd hz h)
  refine v_iconst (v := 0) F dL_law__1348 (by decide) ?_
  refine v_callVi (As := [.int (xs (n + 1)), .int (xs (n + 2)), .int (xs (n + 3)), .int (xs (n + 4)), .int (0)]) (rest := []) F (c_X11_where l F.2.2.1 tM e2) (cwV 5 F.1.2.2.2.2 (gU_V ml_L_173 im_yX11_where se_yX11_where ini_X11 cd_X11_where) rfl rfl rfl (by decide +kernel) ⟨Nat.le_of_ble_eq_true rfl, Nat.le_of_ble_eq_true rfl⟩) tM (by decide) rfl rfl rfl (Nat.le_of_ble_eq_true rfl) dL_law__1349 ⟨by show _ ≤ 601024; omega, by show _ ≤ 7293034; omega⟩ ?_
  refine v_istore (lv' := [(6, .int r), (5, .int t), (4, .int (nI n)), (3, .ref (gAd g 331)), (2, .ref (gAd g 250)), (1, .ref (gAd g 0)), (0, .ref b)]) F dL_law__1352 (by decide) rfl ?_
  refine v_aload_n F dL_law__1354 rfl 4 rfl ?_
  refine v_callVi (As := []) (rest := []) F (c_X11_thrown l F.2.2.1 tM (rfl : f_X11_thrown M2 250 = some (M2 250 0, M2))) (cwV 0 F.1.2.2.2.2 (gU_V ml_L_124 im_yX11_thrown se_yX11_thrown ini_X11 cd_X11_thrown) rfl rfl rfl (by decide +kernel) ⟨Nat.le_of_ble_eq_true rfl, Nat.le_of_ble_eq_true rfl⟩) tM (by decide) rfl rfl rfl (Nat.le_of_ble_eq_true rfl) dL_law__1355 ⟨by show _ ≤ 601024; omega, by show _ ≤ 7293034; omega⟩ ?_
  refine v_iload F dL_law__1358 1 rfl ?_
  refine v_icmp_eq (tgt := 1365) F dL_law__1360 (by decide) (fun _ => ?_) (fun h => absurd e3 h)
  refine v_iload F dL_law__1365 1 rfl ?_
  refine v_if_ne (tgt := 1382) F dL_law__1367 (by decide) (fun _ => ?_) (fun ht => ?_)
  · refine v_goto (tgt := 2639) F dL_law__1382 (by decide) ?_
    refine v_widen (k := cells + 10) (n := slots + 60) (by omega) (by omega) ?_
    exact v_sub (fun ls h9 => lv_sub h9 [2, 3, 4, 5, 6] rfl) (kk _ _ hI2)
  · refine v_aload_n F dL_law__1370 rfl 3 rfl ?_
    refine v_iconst (v := 0) F dL_law__1371 (by decide) ?_
    refine v_lald F tO out_in dL_law__1372 ?_
    refine v_iload F dL_law__1373 0 rfl ?_
    refine v_i2l F dL_law__1375 rfl ?_
    rw [show (M2 250 0, M2).snd 331 (0 : Int32).toNatClampNeg = r from e4 ht]
    refine v_lcmp F dL_law__1376 ?_
    rw [cmp_eq]
    refine v_if_eq (tgt := 1382) F dL_law__1377 (by decide) (fun _ => ?_) (fun h => absurd rfl h)
    refine v_goto (tgt := 2639) F dL_law__1382 (by decide) ?_
    refine v_widen (k := cells + 10) (n := slots + 60) (by omega) (by omega) ?_
    exact v_sub (fun ls h9 => lv_sub h9 [2, 3, 4, 5, 6] rfl) (kk _ _ hI2)
set_option maxHeartbeats 4000000 in
set_option maxRecDepth 100000 in
theorem lc_14n {g : gT} {p : Program} {l : Launch} {e : Env} {s : State} {m : MethodId} {args : Array Value} {below : List Frame} {meth : Method} {c9 : Code} {cells slots : Nat} {Q : State → Prop} {b L n : Nat} {xs : Nat → Int32} {M : Mem} {st : St} (F : Fx g p s m args c9 cL_law_ 7 uL_law_ RL) (hb : gB g = s.heap.size) (hst : l.stackTraces = false) (tX : Ty g 10 0) (tM : Ty g 11 250) (tO : Ty g 17 331) (h332 : 332 ∉ gL g) (h333 : 333 ∉ gL g) (hX : va_X b L xs s s.heap) (hbl : b < s.heap.size) (hn : n + 7 ≤ L) (hL : L < 100000) (hI : Inv M st) (hC : cells + 10 ≤ 601024) (hD : slots + 60 ≤ 7293034) (kk : ∀ M' st', Inv M' st' → V g p l e room_1 s m args below meth c9 7 (cells + 10) (slots + 60) Q 2639 [(4, .int (nI n)), (3, .ref (gAd g 331)), (2, .ref (gAd g 250)), (1, .ref (gAd g 0)), (0, .ref b)] [] M') (hz : ¬ xs (n + 5) = 0) : V g p l e room_1 s m args below meth c9 7 cells slots Q 1265 [(4, .int (nI n)), (3, .ref (gAd g 331)), (2, .ref (gAd g 250)), (1, .ref (gAd g 0)), (0, .ref b)] [] M := by
  obtain ⟨t, M1, r, M2, e1, e2, e3, e4, hI2⟩ := cb_where hI (xs (n + 1)) (xs (n + 2)) (xs (n + 3)) (xs (n + 4)) (1)
  dsimp only at e2
  refine v_aload_n F dL_law__1265 rfl 3 rfl ?_
  refine v_arg F hb hX hbl 1 (by omega) hL 4 0 rfl rfl dL_law__1266 dL_law__1267 dL_law__1269 (by decide) dL_law__1270 dL_law__1271 ?_
  refine v_arg F hb hX hbl 2 (by omega) hL 4 0 rfl rfl dL_law__1272 dL_law__1273 dL_law__1275 (by decide) dL_law__1276 dL_law__1277 ?_
  refine v_arg F hb hX hbl 3 (by omega) hL 4 0 rfl rfl dL_law__1278 dL_law__1279 dL_law__1281 (by decide) dL_law__1282 dL_law__1283 ?_
  refine v_arg F hb hX hbl 4 (by omega) hL 4 0 rfl rfl dL_law__1284 dL_law__1285 dL_law__1287 (by decide) dL_law__1288 dL_law__1289 ?_
  refine v_arg F hb hX hbl 5 (by omega) hL 4 0 rfl rfl dL_law__1290 dL_law__1291 dL_law__1293 (by decide) dL_law__1294 dL_law__1295 ?_
  refine v_if_eq (tgt := 1303) F dL_law__1296 (by decide) (fun h => absurd h hz) (fun _ => ?_)
  refine v_iconst (v := 1) F dL_law__1299 (by decide) ?_
  refine v_goto (tgt := 1304) F dL_law__1300 (by decide) ?_
  refine v_aload_n F dL_law__1304 rfl 1 rfl ?_
  refine v_callSXi (As := [.ref (gAd g 0), .int (xs (n + 1)), .int (xs (n + 2)), .int (xs (n + 3)), .int (xs (n + 4)), .int (1), .ref (gAd g 331)]) (rest := []) F (c_L_where l hst F.2.2.1 tX tO e1) (vx_cwSW 7 F.1.2.2.2.2 (gU_SX ml_L_171 st_yL_where ini_L cd_L_where) rfl rfl rfl (by decide +kernel) ⟨Nat.le_of_ble_eq_true rfl, Nat.le_of_ble_eq_true rfl⟩) rfl rfl (Nat.le_of_ble_eq_true rfl) dL_law__1305 ⟨by show _ ≤ 601024; omega, by show _ ≤ 7293034; omega⟩ ?_
  refine v_istore (lv' := [(5, .int t), (4, .int (nI n)), (3, .ref (gAd g 331)), (2, .ref (gAd g 250)), (1, .ref (gAd g 0)), (0, .ref b)]) F dL_law__1308 (by decide) rfl ?_
  refine v_aload_n F dL_law__1310 rfl 3 rfl ?_
  refine v_arg F hb hX hbl 1 (by omega) hL 5 1 rfl rfl dL_law__1311 dL_law__1312 dL_law__1314 (by decide) dL_law__1315 dL_law__1316 ?_
  refine v_arg F hb hX hbl 2 (by omega) hL 5 1 rfl rfl dL_law__1317 dL_law__1318 dL_law__1320 (by decide) dL_law__1321 dL_law__1322 ?_
  refine v_arg F hb hX hbl 3 (by omega) hL 5 1 rfl rfl dL_law__1323 dL_law__1324 dL_law__1326 (by decide) dL_law__1327 dL_law__1328 ?_
  refine v_arg F hb hX hbl 4 (by omega) hL 5 1 rfl rfl dL_law__1329 dL_law__1330 dL_law__1332 (by decide) dL_law__1333 dL_law__1334 ?_
  refine v_arg F hb hX hbl 5 (by omega) hL 5 1 rfl rfl dL_law__1335 dL_law__1336 dL_law__1338 (by decide) dL_law__1339 dL_law__1340 ?_
  refine v_if_eq (tgt := 1348) F dL_law__1341 (by decide) (fun h => absurd h hz) (fun _ => ?_)
  refine v_iconst (v := 1) F dL_law__1344 (by decide) ?_
  refine v_goto (tgt := 1349) F dL_law__1345 (by decide) ?_
  refine v_callVi (As := [.int (xs (n + 1)), .int (xs (n + 2)), .int (xs (n + 3)), .int (xs (n + 4)), .int (1)]) (rest := []) F (c_X11_where l F.2.2.1 tM e2) (cwV 5 F.1.2.2.2.2 (gU_V ml_L_173 im_yX11_where se_yX11_where ini_X11 cd_X11_where) rfl rfl rfl (by decide +kernel) ⟨Nat.le_of_ble_eq_true rfl, Nat.le_of_ble_eq_true rfl⟩) tM (by decide) rfl rfl rfl (Nat.le_of_ble_eq_true rfl) dL_law__1349 ⟨by show _ ≤ 601024; omega, by show _ ≤ 7293034; omega⟩ ?_
  refine v_istore (lv' := [(6, .int r), (5, .int t), (4, .int (nI n)), (3, .ref (gAd g 331)), (2, .ref (gAd g 250)), (1, .ref (gAd g 0)), (0, .ref b)]) F dL_law__1352 (by decide) rfl ?_
  refine v_aload_n F dL_law__1354 rfl 4 rfl ?_
  refine v_callVi (As := []) (rest := []) F (c_X11_thrown l F.2.2.1 tM (rfl : f_X11_thrown M2 250 = some (M2 250 0, M2))) (cwV 0 F.1.2.2.2.2 (gU_V ml_L_124 im_yX11_thrown se_yX11_thrown ini_X11 cd_X11_thrown) rfl rfl rfl (by decide +kernel) ⟨Nat.le_of_ble_eq_true rfl, Nat.le_of_ble_eq_true rfl⟩) tM (by decide) rfl rfl rfl (Nat.le_of_ble_eq_true rfl) dL_law__1355 ⟨by show _ ≤ 601024; omega, by show _ ≤ 7293034; omega⟩ ?_
  refine v_iload F dL_law__1358 1 rfl ?_
  refine v_icmp_eq (tgt := 1365) F dL_law__1360 (by decide) (fun _ => ?_) (fun h => absurd e3 h)
  refine v_iload F dL_law__1365 1 rfl ?_
  refine v_if_ne (tgt := 1382) F dL_law__1367 (by decide) (fun _ => ?_) (fun ht => ?_)
  · refine v_goto (tgt := 2639) F dL_law__1382 (by decide) ?_
    refine v_widen (k := cells + 10) (n := slots + 60) (by omega) (by omega) ?_
    exact v_sub (fun ls h9 => lv_sub h9 [2, 3, 4, 5, 6] rfl) (kk _ _ hI2)
  · refine v_aload_n F dL_law__1370 rfl 3 rfl ?_
    refine v_iconst (v := 0) F dL_law__1371 (by decide) ?_
    refine v_lald F tO out_in dL_law__1372 ?_
    refine v_iload F dL_law__1373 0 rfl ?_
    refine v_i2l F dL_law__1375 rfl ?_
    rw [show (M2 250 0, M2).snd 331 (0 : Int32).toNatClampNeg = r from e4 ht]
    refine v_lcmp F dL_law__1376 ?_
    rw [cmp_eq]
    refine v_if_eq (tgt := 1382) F dL_law__1377 (by decide) (fun _ => ?_) (fun h => absurd rfl h)
    refine v_goto (tgt := 2639) F dL_law__1382 (by decide) ?_
    refine v_widen (k := cells + 10) (n := slots + 60) (by omega) (by omega) ?_
    exact v_sub (fun ls h9 => lv_sub h9 [2, 3, 4, 5, 6] rfl) (kk _ _ hI2)
theorem lc_14 {g : gT} {p : Program} {l : Launch} {e : Env} {s : State} {m : MethodId} {args : Array Value} {below : List Frame} {meth : Method} {c9 : Code} {cells slots : Nat} {Q : State → Prop} {b L n : Nat} {xs : Nat → Int32} {M : Mem} {st : St} (F : Fx g p s m args c9 cL_law_ 7 uL_law_ RL) (hb : gB g = s.heap.size) (hst : l.stackTraces = false) (tX : Ty g 10 0) (tM : Ty g 11 250) (tO : Ty g 17 331) (h332 : 332 ∉ gL g) (h333 : 333 ∉ gL g) (hX : va_X b L xs s s.heap) (hbl : b < s.heap.size) (hn : n + 7 ≤ L) (hL : L < 100000) (hI : Inv M st) (hC : cells + 10 ≤ 601024) (hD : slots + 60 ≤ 7293034) (kk : ∀ M' st', Inv M' st' → V g p l e room_1 s m args below meth c9 7 (cells + 10) (slots + 60) Q 2639 [(4, .int (nI n)), (3, .ref (gAd g 331)), (2, .ref (gAd g 250)), (1, .ref (gAd g 0)), (0, .ref b)] [] M') : V g p l e room_1 s m args below meth c9 7 cells slots Q 1265 [(4, .int (nI n)), (3, .ref (gAd g 331)), (2, .ref (gAd g 250)), (1, .ref (gAd g 0)), (0, .ref b)] [] M := by
  by_cases hz : xs (n + 5) = 0
  · exact lc_14z F hb hst tX tM tO h332 h333 hX hbl hn hL hI hC hD kk hz
  · exact lc_14n F hb hst tX tM tO h332 h333 hX hbl hn hL hI hC hD kk hz
set_option maxHeartbeats 4000000 in
set_option maxRecDepth 100000 in
theorem lc_15 {g : gT} {p : Program} {l : Launch} {e : Env} {s : State} {m : MethodId} {args : Array Value} {below : List Frame} {meth : Method} {c9 : Code} {cells slots : Nat} {Q : State → Prop} {b L n : Nat} {xs : Nat → Int32} {M : Mem} {st : St} (F : Fx g p s m args c9 cL_law_ 7 uL_law_ RL) (hb : gB g = s.heap.size) (hst : l.stackTraces = false) (tX : Ty g 10 0) (tM : Ty g 11 250) (tO : Ty g 17 331) (h332 : 332 ∉ gL g) (h333 : 333 ∉ gL g) (hX : va_X b L xs s s.heap) (hbl : b < s.heap.size) (hn : n + 7 ≤ L) (hL : L < 100000) (hI : Inv M st) (hC : cells + 10 ≤ 601024) (hD : slots + 60 ≤ 7293034) (kk : ∀ M' st', Inv M' st' → V g p l e room_1 s m args below meth c9 7 (cells + 10) (slots + 60) Q 2639 [(4, .int (nI n)), (3, .ref (gAd g 331)), (2, .ref (gAd g 250)), (1, .ref (gAd g 0)), (0, .ref b)] [] M') : V g p l e room_1 s m args below meth c9 7 cells slots Q 1385 [(4, .int (nI n)), (3, .ref (gAd g 331)), (2, .ref (gAd g 250)), (1, .ref (gAd g 0)), (0, .ref b)] [] M := by
  obtain ⟨t, M1, r, M2, e1, e2, e3, e4, hI2⟩ := cb_slip hI (xs (n + 1)) (xs (n + 2)) (xs (n + 3))
  dsimp only at e2
  refine v_aload_n F dL_law__1385 rfl 3 rfl ?_
  refine v_arg F hb hX hbl 1 (by omega) hL 4 0 rfl rfl dL_law__1386 dL_law__1387 dL_law__1389 (by decide) dL_law__1390 dL_law__1391 ?_
  refine v_arg F hb hX hbl 2 (by omega) hL 4 0 rfl rfl dL_law__1392 dL_law__1393 dL_law__1395 (by decide) dL_law__1396 dL_law__1397 ?_
  refine v_arg F hb hX hbl 3 (by omega) hL 4 0 rfl rfl dL_law__1398 dL_law__1399 dL_law__1401 (by decide) dL_law__1402 dL_law__1403 ?_
  refine v_aload_n F dL_law__1404 rfl 1 rfl ?_
  refine v_callSXi (As := [.ref (gAd g 0), .int (xs (n + 1)), .int (xs (n + 2)), .int (xs (n + 3)), .ref (gAd g 331)]) (rest := []) F (c_L_slip l hst F.2.2.1 tX tO e1) (vx_cwSW 5 F.1.2.2.2.2 (gU_SX ml_L_174 st_yL_slip ini_L cd_L_slip) rfl rfl rfl (by decide +kernel) ⟨Nat.le_of_ble_eq_true rfl, Nat.le_of_ble_eq_true rfl⟩) rfl rfl (Nat.le_of_ble_eq_true rfl) dL_law__1405 ⟨by show _ ≤ 601024; omega, by show _ ≤ 7293034; omega⟩ ?_
  refine v_istore (lv' := [(5, .int t), (4, .int (nI n)), (3, .ref (gAd g 331)), (2, .ref (gAd g 250)), (1, .ref (gAd g 0)), (0, .ref b)]) F dL_law__1408 (by decide) rfl ?_
  refine v_aload_n F dL_law__1410 rfl 3 rfl ?_
  refine v_arg F hb hX hbl 1 (by omega) hL 5 1 rfl rfl dL_law__1411 dL_law__1412 dL_law__1414 (by decide) dL_law__1415 dL_law__1416 ?_
  refine v_arg F hb hX hbl 2 (by omega) hL 5 1 rfl rfl dL_law__1417 dL_law__1418 dL_law__1420 (by decide) dL_law__1421 dL_law__1422 ?_
  refine v_arg F hb hX hbl 3 (by omega) hL 5 1 rfl rfl dL_law__1423 dL_law__1424 dL_law__1426 (by decide) dL_law__1427 dL_law__1428 ?_
  refine v_callVN (As := [.int (xs (n + 1)), .int (xs (n + 2)), .int (xs (n + 3))]) (rest := []) F (c_X11_slip l F.2.2.1 h332 tM e2) (cwV 3 F.1.2.2.2.2 (gU_V ml_L_176 im_yX11_slip se_yX11_slip ini_X11 cd_X11_slip) rfl rfl rfl (by decide +kernel) ⟨Nat.le_of_ble_eq_true rfl, Nat.le_of_ble_eq_true rfl⟩) tM (by decide) rfl rfl rfl (Nat.le_of_ble_eq_true rfl) dL_law__1429 ⟨by show _ ≤ 601024; omega, by show _ ≤ 7293034; omega⟩ ?_
  refine v_istore (lv' := [(6, .int r), (5, .int t), (4, .int (nI n)), (3, .ref (gAd g 331)), (2, .ref (gAd g 250)), (1, .ref (gAd g 0)), (0, .ref b)]) F dL_law__1432 (by decide) rfl ?_
  refine v_aload_n F dL_law__1434 rfl 4 rfl ?_
  refine v_callVi (As := []) (rest := []) F (c_X11_thrown l F.2.2.1 tM (rfl : f_X11_thrown M2 250 = some (M2 250 0, M2))) (cwV 0 F.1.2.2.2.2 (gU_V ml_L_124 im_yX11_thrown se_yX11_thrown ini_X11 cd_X11_thrown) rfl rfl rfl (by decide +kernel) ⟨Nat.le_of_ble_eq_true rfl, Nat.le_of_ble_eq_true rfl⟩) tM (by decide) rfl rfl rfl (Nat.le_of_ble_eq_true rfl) dL_law__1435 ⟨by show _ ≤ 601024; omega, by show _ ≤ 7293034; omega⟩ ?_
  refine v_iload F dL_law__1438 1 rfl ?_
  refine v_icmp_eq (tgt := 1445) F dL_law__1440 (by decide) (fun _ => ?_) (fun h => absurd e3 h)
  refine v_iload F dL_law__1445 1 rfl ?_
  refine v_if_ne (tgt := 1462) F dL_law__1447 (by decide) (fun _ => ?_) (fun ht => ?_)
  · refine v_goto (tgt := 2639) F dL_law__1462 (by decide) ?_
    refine v_widen (k := cells + 10) (n := slots + 60) (by omega) (by omega) ?_
    exact v_sub (fun ls h9 => lv_sub h9 [2, 3, 4, 5, 6] rfl) (kk _ _ hI2)
  · refine v_aload_n F dL_law__1450 rfl 3 rfl ?_
    refine v_iconst (v := 0) F dL_law__1451 (by decide) ?_
    refine v_lald F tO out_in dL_law__1452 ?_
    refine v_iload F dL_law__1453 0 rfl ?_
    refine v_i2l F dL_law__1455 rfl ?_
    rw [show (M2 250 0, M2).snd 331 (0 : Int32).toNatClampNeg = r from e4 ht]
    refine v_lcmp F dL_law__1456 ?_
    rw [cmp_eq]
    refine v_if_eq (tgt := 1462) F dL_law__1457 (by decide) (fun _ => ?_) (fun h => absurd rfl h)
    refine v_goto (tgt := 2639) F dL_law__1462 (by decide) ?_
    refine v_widen (k := cells + 10) (n := slots + 60) (by omega) (by omega) ?_
    exact v_sub (fun ls h9 => lv_sub h9 [2, 3, 4, 5, 6] rfl) (kk _ _ hI2)
set_option maxHeartbeats 4000000 in
set_option maxRecDepth 100000 in
theorem lc_16 {g : gT} {p : Program} {l : Launch} {e : Env} {s : State} {m : MethodId} {args : Array Value} {below : List Frame} {meth : Method} {c9 : Code} {cells slots : Nat} {Q : State → Prop} {b L n : Nat} {xs : Nat → Int32} {M : Mem} {st : St} (F : Fx g p s m args c9 cL_law_ 7 uL_law_ RL) (hb : gB g = s.heap.size) (hst : l.stackTraces = false) (tX : Ty g 10 0) (tM : Ty g 11 250) (tO : Ty g 17 331) (h332 : 332 ∉ gL g) (h333 : 333 ∉ gL g) (hX : va_X b L xs s s.heap) (hbl : b < s.heap.size) (hn : n + 7 ≤ L) (hL : L < 100000) (hI : Inv M st) (hC : cells + 10 ≤ 601024) (hD : slots + 60 ≤ 7293034) (kk : ∀ M' st', Inv M' st' → V g p l e room_1 s m args below meth c9 7 (cells + 10) (slots + 60) Q 2639 [(4, .int (nI n)), (3, .ref (gAd g 331)), (2, .ref (gAd g 250)), (1, .ref (gAd g 0)), (0, .ref b)] [] M') : V g p l e room_1 s m args below meth c9 7 cells slots Q 1465 [(4, .int (nI n)), (3, .ref (gAd g 331)), (2, .ref (gAd g 250)), (1, .ref (gAd g 0)), (0, .ref b)] [] M := by
  obtain ⟨t, M1, r, M2, e1, e2, e3, e4, hI2⟩ := cb_film hI (xs (n + 1)) (xs (n + 2)) (xs (n + 3)) (xs (n + 4))
  dsimp only at e2
  refine v_aload_n F dL_law__1465 rfl 3 rfl ?_
  refine v_arg F hb hX hbl 1 (by omega) hL 4 0 rfl rfl dL_law__1466 dL_law__1467 dL_law__1469 (by decide) dL_law__1470 dL_law__1471 ?_
  refine v_arg F hb hX hbl 2 (by omega) hL 4 0 rfl rfl dL_law__1472 dL_law__1473 dL_law__1475 (by decide) dL_law__1476 dL_law__1477 ?_
  refine v_arg F hb hX hbl 3 (by omega) hL 4 0 rfl rfl dL_law__1478 dL_law__1479 dL_law__1481 (by decide) dL_law__1482 dL_law__1483 ?_
  refine v_arg F hb hX hbl 4 (by omega) hL 4 0 rfl rfl dL_law__1484 dL_law__1485 dL_law__1487 (by decide) dL_law__1488 dL_law__1489 ?_
  refine v_aload_n F dL_law__1490 rfl 1 rfl ?_
  refine v_callSXi (As := [.ref (gAd g 0), .int (xs (n + 1)), .int (xs (n + 2)), .int (xs (n + 3)), .int (xs (n + 4)), .ref (gAd g 331)]) (rest := []) F (c_L_film l hst F.2.2.1 tX tO e1) (vx_cwSW 6 F.1.2.2.2.2 (gU_SX ml_L_177 st_yL_film ini_L cd_L_film) rfl rfl rfl (by decide +kernel) ⟨Nat.le_of_ble_eq_true rfl, Nat.le_of_ble_eq_true rfl⟩) rfl rfl (Nat.le_of_ble_eq_true rfl) dL_law__1491 ⟨by show _ ≤ 601024; omega, by show _ ≤ 7293034; omega⟩ ?_
  refine v_istore (lv' := [(5, .int t), (4, .int (nI n)), (3, .ref (gAd g 331)), (2, .ref (gAd g 250)), (1, .ref (gAd g 0)), (0, .ref b)]) F dL_law__1494 (by decide) rfl ?_
  refine v_aload_n F dL_law__1496 rfl 3 rfl ?_
  refine v_arg F hb hX hbl 1 (by omega) hL 5 1 rfl rfl dL_law__1497 dL_law__1498 dL_law__1500 (by decide) dL_law__1501 dL_law__1502 ?_
  refine v_arg F hb hX hbl 2 (by omega) hL 5 1 rfl rfl dL_law__1503 dL_law__1504 dL_law__1506 (by decide) dL_law__1507 dL_law__1508 ?_
  refine v_arg F hb hX hbl 3 (by omega) hL 5 1 rfl rfl dL_law__1509 dL_law__1510 dL_law__1512 (by decide) dL_law__1513 dL_law__1514 ?_
  refine v_arg F hb hX hbl 4 (by omega) hL 5 1 rfl rfl dL_law__1515 dL_law__1516 dL_law__1518 (by decide) dL_law__1519 dL_law__1520 ?_
  refine v_callVi (As := [.int (xs (n + 1)), .int (xs (n + 2)), .int (xs (n + 3)), .int (xs (n + 4))]) (rest := []) F (c_X11_film l F.2.2.1 tM e2) (cwV 4 F.1.2.2.2.2 (gU_V ml_L_179 im_yX11_film se_yX11_film ini_X11 cd_X11_film) rfl rfl rfl (by decide +kernel) ⟨Nat.le_of_ble_eq_true rfl, Nat.le_of_ble_eq_true rfl⟩) tM (by decide) rfl rfl rfl (Nat.le_of_ble_eq_true rfl) dL_law__1521 ⟨by show _ ≤ 601024; omega, by show _ ≤ 7293034; omega⟩ ?_
  refine v_istore (lv' := [(6, .int r), (5, .int t), (4, .int (nI n)), (3, .ref (gAd g 331)), (2, .ref (gAd g 250)), (1, .ref (gAd g 0)), (0, .ref b)]) F dL_law__1524 (by decide) rfl ?_
  refine v_aload_n F dL_law__1526 rfl 4 rfl ?_
  refine v_callVi (As := []) (rest := []) F (c_X11_thrown l F.2.2.1 tM (rfl : f_X11_thrown M2 250 = some (M2 250 0, M2))) (cwV 0 F.1.2.2.2.2 (gU_V ml_L_124 im_yX11_thrown se_yX11_thrown ini_X11 cd_X11_thrown) rfl rfl rfl (by decide +kernel) ⟨Nat.le_of_ble_eq_true rfl, Nat.le_of_ble_eq_true rfl⟩) tM (by decide) rfl rfl rfl (Nat.le_of_ble_eq_true rfl) dL_law__1527 ⟨by show _ ≤ 601024; omega, by show _ ≤ 7293034; omega⟩ ?_
  refine v_iload F dL_law__1530 1 rfl ?_
  refine v_icmp_eq (tgt := 1537) F dL_law__1532 (by decide) (fun _ => ?_) (fun h => absurd e3 h)
  refine v_iload F dL_law__1537 1 rfl ?_
  refine v_if_ne (tgt := 1554) F dL_law__1539 (by decide) (fun _ => ?_) (fun ht => ?_)
  · refine v_goto (tgt := 2639) F dL_law__1554 (by decide) ?_
    refine v_widen (k := cells + 10) (n := slots + 60) (by omega) (by omega) ?_
    exact v_sub (fun ls h9 => lv_sub h9 [2, 3, 4, 5, 6] rfl) (kk _ _ hI2)
  · refine v_aload_n F dL_law__1542 rfl 3 rfl ?_
    refine v_iconst (v := 0) F dL_law__1543 (by decide) ?_
    refine v_lald F tO out_in dL_law__1544 ?_
    refine v_iload F dL_law__1545 0 rfl ?_
    refine v_i2l F dL_law__1547 rfl ?_
    rw [show (M2 250 0, M2).snd 331 (0 : Int32).toNatClampNeg = r from e4 ht]
    refine v_lcmp F dL_law__1548 ?_
    rw [cmp_eq]
    refine v_if_eq (tgt := 1554) F dL_law__1549 (by decide) (fun _ => ?_) (fun h => absurd rfl h)
    refine v_goto (tgt := 2639) F dL_law__1554 (by decide) ?_
    refine v_widen (k := cells + 10) (n := slots + 60) (by omega) (by omega) ?_
    exact v_sub (fun ls h9 => lv_sub h9 [2, 3, 4, 5, 6] rfl) (kk _ _ hI2)
set_option maxHeartbeats 4000000 in
set_option maxRecDepth 100000 in
theorem lc_17 {g : gT} {p : Program} {l : Launch} {e : Env} {s : State} {m : MethodId} {args : Array Value} {below : List Frame} {meth : Method} {c9 : Code} {cells slots : Nat} {Q : State → Prop} {b L n : Nat} {xs : Nat → Int32} {M : Mem} {st : St} (F : Fx g p s m args c9 cL_law_ 7 uL_law_ RL) (hb : gB g = s.heap.size) (hst : l.stackTraces = false) (tX : Ty g 10 0) (tM : Ty g 11 250) (tO : Ty g 17 331) (h332 : 332 ∉ gL g) (h333 : 333 ∉ gL g) (hX : va_X b L xs s s.heap) (hbl : b < s.heap.size) (hn : n + 7 ≤ L) (hL : L < 100000) (hI : Inv M st) (hC : cells + 10 ≤ 601024) (hD : slots + 60 ≤ 7293034) (kk : ∀ M' st', Inv M' st' → V g p l e room_1 s m args below meth c9 7 (cells + 10) (slots + 60) Q 2639 [(4, .int (nI n)), (3, .ref (gAd g 331)), (2, .ref (gAd g 250)), (1, .ref (gAd g 0)), (0, .ref b)] [] M') : V g p l e room_1 s m args below meth c9 7 cells slots Q 1557 [(4, .int (nI n)), (3, .ref (gAd g 331)), (2, .ref (gAd g 250)), (1, .ref (gAd g 0)), (0, .ref b)] [] M := by
  obtain ⟨t, M1, r, M2, e1, e2, e3, e4, hI2⟩ := cb_barred hI (xs (n + 1)) (xs (n + 2)) (xs (n + 3)) (xs (n + 4)) (xs (n + 5)) (xs (n + 6))
  dsimp only at e2
  refine v_aload_n F dL_law__1557 rfl 3 rfl ?_
  refine v_arg F hb hX hbl 1 (by omega) hL 4 0 rfl rfl dL_law__1558 dL_law__1559 dL_law__1561 (by decide) dL_law__1562 dL_law__1563 ?_
  refine v_arg F hb hX hbl 2 (by omega) hL 4 0 rfl rfl dL_law__1564 dL_law__1565 dL_law__1567 (by decide) dL_law__1568 dL_law__1569 ?_
  refine v_arg F hb hX hbl 3 (by omega) hL 4 0 rfl rfl dL_law__1570 dL_law__1571 dL_law__1573 (by decide) dL_law__1574 dL_law__1575 ?_
  refine v_arg F hb hX hbl 4 (by omega) hL 4 0 rfl rfl dL_law__1576 dL_law__1577 dL_law__1579 (by decide) dL_law__1580 dL_law__1581 ?_
  refine v_arg F hb hX hbl 5 (by omega) hL 4 0 rfl rfl dL_law__1582 dL_law__1583 dL_law__1585 (by decide) dL_law__1586 dL_law__1587 ?_
  refine v_arg6 F hb hX hbl 6 (by omega) hL 4 0 rfl rfl dL_law__1588 dL_law__1589 dL_law__1591 (by decide) dL_law__1593 dL_law__1594 ?_
  refine v_aload_n F dL_law__1595 rfl 1 rfl ?_
  refine v_callSXi (As := [.ref (gAd g 0), .int (xs (n + 1)), .int (xs (n + 2)), .int (xs (n + 3)), .int (xs (n + 4)), .int (xs (n + 5)), .int (xs (n + 6)), .ref (gAd g 331)]) (rest := []) F (c_L_barred l hst F.2.2.1 tX tO e1) (vx_cwSW 8 F.1.2.2.2.2 (gU_SX ml_L_180 st_yL_barred ini_L cd_L_barred) rfl rfl rfl (by decide +kernel) ⟨Nat.le_of_ble_eq_true rfl, Nat.le_of_ble_eq_true rfl⟩) rfl rfl (Nat.le_of_ble_eq_true rfl) dL_law__1596 ⟨by show _ ≤ 601024; omega, by show _ ≤ 7293034; omega⟩ ?_
  refine v_istore (lv' := [(5, .int t), (4, .int (nI n)), (3, .ref (gAd g 331)), (2, .ref (gAd g 250)), (1, .ref (gAd g 0)), (0, .ref b)]) F dL_law__1599 (by decide) rfl ?_
  refine v_aload_n F dL_law__1601 rfl 3 rfl ?_
  refine v_arg F hb hX hbl 1 (by omega) hL 5 1 rfl rfl dL_law__1602 dL_law__1603 dL_law__1605 (by decide) dL_law__1606 dL_law__1607 ?_
  refine v_arg F hb hX hbl 2 (by omega) hL 5 1 rfl rfl dL_law__1608 dL_law__1609 dL_law__1611 (by decide) dL_law__1612 dL_law__1613 ?_
  refine v_arg F hb hX hbl 3 (by omega) hL 5 1 rfl rfl dL_law__1614 dL_law__1615 dL_law__1617 (by decide) dL_law__1618 dL_law__1619 ?_
  refine v_arg F hb hX hbl 4 (by omega) hL 5 1 rfl rfl dL_law__1620 dL_law__1621 dL_law__1623 (by decide) dL_law__1624 dL_law__1625 ?_
  refine v_arg F hb hX hbl 5 (by omega) hL 5 1 rfl rfl dL_law__1626 dL_law__1627 dL_law__1629 (by decide) dL_law__1630 dL_law__1631 ?_
  refine v_arg6 F hb hX hbl 6 (by omega) hL 5 1 rfl rfl dL_law__1632 dL_law__1633 dL_law__1635 (by decide) dL_law__1637 dL_law__1638 ?_
  refine v_callVi (As := [.int (xs (n + 1)), .int (xs (n + 2)), .int (xs (n + 3)), .int (xs (n + 4)), .int (xs (n + 5)), .int (xs (n + 6))]) (rest := []) F (c_X11_barred l F.2.2.1 tM e2) (cwV 6 F.1.2.2.2.2 (gU_V ml_L_183 im_yX11_barred se_yX11_barred ini_X11 cd_X11_barred) rfl rfl rfl (by decide +kernel) ⟨Nat.le_of_ble_eq_true rfl, Nat.le_of_ble_eq_true rfl⟩) tM (by decide) rfl rfl rfl (Nat.le_of_ble_eq_true rfl) dL_law__1639 ⟨by show _ ≤ 601024; omega, by show _ ≤ 7293034; omega⟩ ?_
  refine v_istore (lv' := [(6, .int r), (5, .int t), (4, .int (nI n)), (3, .ref (gAd g 331)), (2, .ref (gAd g 250)), (1, .ref (gAd g 0)), (0, .ref b)]) F dL_law__1642 (by decide) rfl ?_
  refine v_aload_n F dL_law__1644 rfl 4 rfl ?_
  refine v_callVi (As := []) (rest := []) F (c_X11_thrown l F.2.2.1 tM (rfl : f_X11_thrown M2 250 = some (M2 250 0, M2))) (cwV 0 F.1.2.2.2.2 (gU_V ml_L_124 im_yX11_thrown se_yX11_thrown ini_X11 cd_X11_thrown) rfl rfl rfl (by decide +kernel) ⟨Nat.le_of_ble_eq_true rfl, Nat.le_of_ble_eq_true rfl⟩) tM (by decide) rfl rfl rfl (Nat.le_of_ble_eq_true rfl) dL_law__1645 ⟨by show _ ≤ 601024; omega, by show _ ≤ 7293034; omega⟩ ?_
  refine v_iload F dL_law__1648 1 rfl ?_
  refine v_icmp_eq (tgt := 1655) F dL_law__1650 (by decide) (fun _ => ?_) (fun h => absurd e3 h)
  refine v_iload F dL_law__1655 1 rfl ?_
  refine v_if_ne (tgt := 1672) F dL_law__1657 (by decide) (fun _ => ?_) (fun ht => ?_)
  · refine v_goto (tgt := 2639) F dL_law__1672 (by decide) ?_
    refine v_widen (k := cells + 10) (n := slots + 60) (by omega) (by omega) ?_
    exact v_sub (fun ls h9 => lv_sub h9 [2, 3, 4, 5, 6] rfl) (kk _ _ hI2)
  · refine v_aload_n F dL_law__1660 rfl 3 rfl ?_
    refine v_iconst (v := 0) F dL_law__1661 (by decide) ?_
    refine v_lald F tO out_in dL_law__1662 ?_
    refine v_iload F dL_law__1663 0 rfl ?_
    refine v_i2l F dL_law__1665 rfl ?_
    rw [show (M2 250 0, M2).snd 331 (0 : Int32).toNatClampNeg = r from e4 ht]
    refine v_lcmp F dL_law__1666 ?_
    rw [cmp_eq]
    refine v_if_eq (tgt := 1672) F dL_law__1667 (by decide) (fun _ => ?_) (fun h => absurd rfl h)
    refine v_goto (tgt := 2639) F dL_law__1672 (by decide) ?_
    refine v_widen (k := cells + 10) (n := slots + 60) (by omega) (by omega) ?_
    exact v_sub (fun ls h9 => lv_sub h9 [2, 3, 4, 5, 6] rfl) (kk _ _ hI2)
set_option maxHeartbeats 4000000 in
set_option maxRecDepth 100000 in
theorem lc_18 {g : gT} {p : Program} {l : Launch} {e : Env} {s : State} {m : MethodId} {args : Array Value} {below : List Frame} {meth : Method} {c9 : Code} {cells slots : Nat} {Q : State → Prop} {b L n : Nat} {xs : Nat → Int32} {M : Mem} {st : St} (F : Fx g p s m args c9 cL_law_ 7 uL_law_ RL) (hb : gB g = s.heap.size) (hst : l.stackTraces = false) (tX : Ty g 10 0) (tM : Ty g 11 250) (tO : Ty g 17 331) (h332 : 332 ∉ gL g) (h333 : 333 ∉ gL g) (hX : va_X b L xs s s.heap) (hbl : b < s.heap.size) (hn : n + 7 ≤ L) (hL : L < 100000) (hI : Inv M st) (hC : cells + 10 ≤ 601024) (hD : slots + 60 ≤ 7293034) (kk : ∀ M' st', Inv M' st' → V g p l e room_1 s m args below meth c9 7 (cells + 10) (slots + 60) Q 2639 [(4, .int (nI n)), (3, .ref (gAd g 331)), (2, .ref (gAd g 250)), (1, .ref (gAd g 0)), (0, .ref b)] [] M') : V g p l e room_1 s m args below meth c9 7 cells slots Q 1675 [(4, .int (nI n)), (3, .ref (gAd g 331)), (2, .ref (gAd g 250)), (1, .ref (gAd g 0)), (0, .ref b)] [] M := by
  obtain ⟨t, M1, r, M2, e1, e2, e3, e4, hI2⟩ := cb_mend hI (xs (n + 1)) (xs (n + 2)) (xs (n + 3))
  dsimp only at e2
  refine v_aload_n F dL_law__1675 rfl 3 rfl ?_
  refine v_arg F hb hX hbl 1 (by omega) hL 4 0 rfl rfl dL_law__1676 dL_law__1677 dL_law__1679 (by decide) dL_law__1680 dL_law__1681 ?_
  refine v_arg F hb hX hbl 2 (by omega) hL 4 0 rfl rfl dL_law__1682 dL_law__1683 dL_law__1685 (by decide) dL_law__1686 dL_law__1687 ?_
  refine v_arg F hb hX hbl 3 (by omega) hL 4 0 rfl rfl dL_law__1688 dL_law__1689 dL_law__1691 (by decide) dL_law__1692 dL_law__1693 ?_
  refine v_aload_n F dL_law__1694 rfl 1 rfl ?_
  refine v_callSXi (As := [.ref (gAd g 0), .int (xs (n + 1)), .int (xs (n + 2)), .int (xs (n + 3)), .ref (gAd g 331)]) (rest := []) F (c_L_mend l hst F.2.2.1 tX tO e1) (vx_cwSW 5 F.1.2.2.2.2 (gU_SX ml_L_184 st_yL_mend ini_L cd_L_mend) rfl rfl rfl (by decide +kernel) ⟨Nat.le_of_ble_eq_true rfl, Nat.le_of_ble_eq_true rfl⟩) rfl rfl (Nat.le_of_ble_eq_true rfl) dL_law__1695 ⟨by show _ ≤ 601024; omega, by show _ ≤ 7293034; omega⟩ ?_
  refine v_istore (lv' := [(5, .int t), (4, .int (nI n)), (3, .ref (gAd g 331)), (2, .ref (gAd g 250)), (1, .ref (gAd g 0)), (0, .ref b)]) F dL_law__1698 (by decide) rfl ?_
  refine v_aload_n F dL_law__1700 rfl 3 rfl ?_
  refine v_arg F hb hX hbl 1 (by omega) hL 5 1 rfl rfl dL_law__1701 dL_law__1702 dL_law__1704 (by decide) dL_law__1705 dL_law__1706 ?_
  refine v_arg F hb hX hbl 2 (by omega) hL 5 1 rfl rfl dL_law__1707 dL_law__1708 dL_law__1710 (by decide) dL_law__1711 dL_law__1712 ?_
  refine v_arg F hb hX hbl 3 (by omega) hL 5 1 rfl rfl dL_law__1713 dL_law__1714 dL_law__1716 (by decide) dL_law__1717 dL_law__1718 ?_
  refine v_callVi (As := [.int (xs (n + 1)), .int (xs (n + 2)), .int (xs (n + 3))]) (rest := []) F (c_X11_mend l F.2.2.1 tM e2) (cwV 3 F.1.2.2.2.2 (gU_V ml_L_186 im_yX11_mend se_yX11_mend ini_X11 cd_X11_mend) rfl rfl rfl (by decide +kernel) ⟨Nat.le_of_ble_eq_true rfl, Nat.le_of_ble_eq_true rfl⟩) tM (by decide) rfl rfl rfl (Nat.le_of_ble_eq_true rfl) dL_law__1719 ⟨by show _ ≤ 601024; omega, by show _ ≤ 7293034; omega⟩ ?_
  refine v_istore (lv' := [(6, .int r), (5, .int t), (4, .int (nI n)), (3, .ref (gAd g 331)), (2, .ref (gAd g 250)), (1, .ref (gAd g 0)), (0, .ref b)]) F dL_law__1722 (by decide) rfl ?_
  refine v_aload_n F dL_law__1724 rfl 4 rfl ?_
  refine v_callVi (As := []) (rest := []) F (c_X11_thrown l F.2.2.1 tM (rfl : f_X11_thrown M2 250 = some (M2 250 0, M2))) (cwV 0 F.1.2.2.2.2 (gU_V ml_L_124 im_yX11_thrown se_yX11_thrown ini_X11 cd_X11_thrown) rfl rfl rfl (by decide +kernel) ⟨Nat.le_of_ble_eq_true rfl, Nat.le_of_ble_eq_true rfl⟩) tM (by decide) rfl rfl rfl (Nat.le_of_ble_eq_true rfl) dL_law__1725 ⟨by show _ ≤ 601024; omega, by show _ ≤ 7293034; omega⟩ ?_
  refine v_iload F dL_law__1728 1 rfl ?_
  refine v_icmp_eq (tgt := 1735) F dL_law__1730 (by decide) (fun _ => ?_) (fun h => absurd e3 h)
  refine v_iload F dL_law__1735 1 rfl ?_
  refine v_if_ne (tgt := 1752) F dL_law__1737 (by decide) (fun _ => ?_) (fun ht => ?_)
  · refine v_goto (tgt := 2639) F dL_law__1752 (by decide) ?_
    refine v_widen (k := cells + 10) (n := slots + 60) (by omega) (by omega) ?_
    exact v_sub (fun ls h9 => lv_sub h9 [2, 3, 4, 5, 6] rfl) (kk _ _ hI2)
  · refine v_aload_n F dL_law__1740 rfl 3 rfl ?_
    refine v_iconst (v := 0) F dL_law__1741 (by decide) ?_
    refine v_lald F tO out_in dL_law__1742 ?_
    refine v_iload F dL_law__1743 0 rfl ?_
    refine v_i2l F dL_law__1745 rfl ?_
    rw [show (M2 250 0, M2).snd 331 (0 : Int32).toNatClampNeg = r from e4 ht]
    refine v_lcmp F dL_law__1746 ?_
    rw [cmp_eq]
    refine v_if_eq (tgt := 1752) F dL_law__1747 (by decide) (fun _ => ?_) (fun h => absurd rfl h)
    refine v_goto (tgt := 2639) F dL_law__1752 (by decide) ?_
    refine v_widen (k := cells + 10) (n := slots + 60) (by omega) (by omega) ?_
    exact v_sub (fun ls h9 => lv_sub h9 [2, 3, 4, 5, 6] rfl) (kk _ _ hI2)
set_option maxHeartbeats 4000000 in
set_option maxRecDepth 100000 in
theorem lc_19 {g : gT} {p : Program} {l : Launch} {e : Env} {s : State} {m : MethodId} {args : Array Value} {below : List Frame} {meth : Method} {c9 : Code} {cells slots : Nat} {Q : State → Prop} {b L n : Nat} {xs : Nat → Int32} {M : Mem} {st : St} (F : Fx g p s m args c9 cL_law_ 7 uL_law_ RL) (hb : gB g = s.heap.size) (hst : l.stackTraces = false) (tX : Ty g 10 0) (tM : Ty g 11 250) (tO : Ty g 17 331) (h332 : 332 ∉ gL g) (h333 : 333 ∉ gL g) (hX : va_X b L xs s s.heap) (hbl : b < s.heap.size) (hn : n + 7 ≤ L) (hL : L < 100000) (hI : Inv M st) (hC : cells + 10 ≤ 601024) (hD : slots + 60 ≤ 7293034) (kk : ∀ M' st', Inv M' st' → V g p l e room_1 s m args below meth c9 7 (cells + 10) (slots + 60) Q 2639 [(4, .int (nI n)), (3, .ref (gAd g 331)), (2, .ref (gAd g 250)), (1, .ref (gAd g 0)), (0, .ref b)] [] M') : V g p l e room_1 s m args below meth c9 7 cells slots Q 1755 [(4, .int (nI n)), (3, .ref (gAd g 331)), (2, .ref (gAd g 250)), (1, .ref (gAd g 0)), (0, .ref b)] [] M := by
  obtain ⟨t, M1, r, M2, e1, e2, e3, e4, hI2⟩ := cb_calm hI (xs (n + 1)) (xs (n + 2))
  dsimp only at e2
  refine v_aload_n F dL_law__1755 rfl 3 rfl ?_
  refine v_arg F hb hX hbl 1 (by omega) hL 4 0 rfl rfl dL_law__1756 dL_law__1757 dL_law__1759 (by decide) dL_law__1760 dL_law__1761 ?_
  refine v_arg F hb hX hbl 2 (by omega) hL 4 0 rfl rfl dL_law__1762 dL_law__1763 dL_law__1765 (by decide) dL_law__1766 dL_law__1767 ?_
  refine v_aload_n F dL_law__1768 rfl 1 rfl ?_
  refine v_callSXi (As := [.ref (gAd g 0), .int (xs (n + 1)), .int (xs (n + 2)), .ref (gAd g 331)]) (rest := []) F (c_L_calm l hst F.2.2.1 tX tO e1) (vx_cwSW 4 F.1.2.2.2.2 (gU_SX ml_L_187 st_yL_calm ini_L cd_L_calm) rfl rfl rfl (by decide +kernel) ⟨Nat.le_of_ble_eq_true rfl, Nat.le_of_ble_eq_true rfl⟩) rfl rfl (Nat.le_of_ble_eq_true rfl) dL_law__1769 ⟨by show _ ≤ 601024; omega, by show _ ≤ 7293034; omega⟩ ?_
  refine v_istore (lv' := [(5, .int t), (4, .int (nI n)), (3, .ref (gAd g 331)), (2, .ref (gAd g 250)), (1, .ref (gAd g 0)), (0, .ref b)]) F dL_law__1772 (by decide) rfl ?_
  refine v_aload_n F dL_law__1774 rfl 3 rfl ?_
  refine v_arg F hb hX hbl 1 (by omega) hL 5 1 rfl rfl dL_law__1775 dL_law__1776 dL_law__1778 (by decide) dL_law__1779 dL_law__1780 ?_
  refine v_arg F hb hX hbl 2 (by omega) hL 5 1 rfl rfl dL_law__1781 dL_law__1782 dL_law__1784 (by decide) dL_law__1785 dL_law__1786 ?_
  refine v_callVi (As := [.int (xs (n + 1)), .int (xs (n + 2))]) (rest := []) F (c_X11_calm l F.2.2.1 tM e2) (cwV 2 F.1.2.2.2.2 (gU_V ml_L_189 im_yX11_calm se_yX11_calm ini_X11 cd_X11_calm) rfl rfl rfl (by decide +kernel) ⟨Nat.le_of_ble_eq_true rfl, Nat.le_of_ble_eq_true rfl⟩) tM (by decide) rfl rfl rfl (Nat.le_of_ble_eq_true rfl) dL_law__1787 ⟨by show _ ≤ 601024; omega, by show _ ≤ 7293034; omega⟩ ?_
  refine v_istore (lv' := [(6, .int r), (5, .int t), (4, .int (nI n)), (3, .ref (gAd g 331)), (2, .ref (gAd g 250)), (1, .ref (gAd g 0)), (0, .ref b)]) F dL_law__1790 (by decide) rfl ?_
  refine v_aload_n F dL_law__1792 rfl 4 rfl ?_
  refine v_callVi (As := []) (rest := []) F (c_X11_thrown l F.2.2.1 tM (rfl : f_X11_thrown M2 250 = some (M2 250 0, M2))) (cwV 0 F.1.2.2.2.2 (gU_V ml_L_124 im_yX11_thrown se_yX11_thrown ini_X11 cd_X11_thrown) rfl rfl rfl (by decide +kernel) ⟨Nat.le_of_ble_eq_true rfl, Nat.le_of_ble_eq_true rfl⟩) tM (by decide) rfl rfl rfl (Nat.le_of_ble_eq_true rfl) dL_law__1793 ⟨by show _ ≤ 601024; omega, by show _ ≤ 7293034; omega⟩ ?_
  refine v_iload F dL_law__1796 1 rfl ?_
  refine v_icmp_eq (tgt := 1803) F dL_law__1798 (by decide) (fun _ => ?_) (fun h => absurd e3 h)
  refine v_iload F dL_law__1803 1 rfl ?_
  refine v_if_ne (tgt := 1827) F dL_law__1805 (by decide) (fun _ => ?_) (fun ht => ?_)
  · refine v_goto (tgt := 2639) F dL_law__1827 (by decide) ?_
    refine v_widen (k := cells + 10) (n := slots + 60) (by omega) (by omega) ?_
    exact v_sub (fun ls h9 => lv_sub h9 [2, 3, 4, 5, 6] rfl) (kk _ _ hI2)
  · refine v_aload_n F dL_law__1808 rfl 3 rfl ?_
    refine v_iconst (v := 0) F dL_law__1809 (by decide) ?_
    refine v_lald F tO out_in dL_law__1810 ?_
    rw [show (M2 250 0, M2).snd 331 (0 : Int32).toNatClampNeg = r from (e4 ht).1]
    refine v_iload F dL_law__1811 0 rfl ?_
    refine v_if_eq (tgt := 1820) F dL_law__1813 (by decide) (fun hr0 => ?_) (fun hr1 => ?_)
    · refine v_lconst (v := 0) F dL_law__1820 (by decide) ?_
      refine v_lcmp F dL_law__1821 ?_
      rw [show lg_cmp r.toInt64 0 = 0 from by rw [hr0]; decide]
      refine v_if_eq (tgt := 1827) F dL_law__1822 (by decide) (fun _ => ?_) (fun h => absurd rfl h)
      refine v_goto (tgt := 2639) F dL_law__1827 (by decide) ?_
      refine v_widen (k := cells + 10) (n := slots + 60) (by omega) (by omega) ?_
      exact v_sub (fun ls h9 => lv_sub h9 [2, 3, 4, 5, 6] rfl) (kk _ _ hI2)
    · refine v_lconst (v := 1) F dL_law__1816 (by decide) ?_
      refine v_goto (tgt := 1821) F dL_law__1817 (by decide) ?_
      refine v_lcmp F dL_law__1821 ?_
      rw [show lg_cmp r.toInt64 1 = 0 from by rw [(e4 ht).2.resolve_left hr1]; decide]
      refine v_if_eq (tgt := 1827) F dL_law__1822 (by decide) (fun _ => ?_) (fun h => absurd rfl h)
      refine v_goto (tgt := 2639) F dL_law__1827 (by decide) ?_
      refine v_widen (k := cells + 10) (n := slots + 60) (by omega) (by omega) ?_
      exact v_sub (fun ls h9 => lv_sub h9 [2, 3, 4, 5, 6] rfl) (kk _ _ hI2)
set_option maxHeartbeats 4000000 in
set_option maxRecDepth 100000 in
theorem lc_20 {g : gT} {p : Program} {l : Launch} {e : Env} {s : State} {m : MethodId} {args : Array Value} {below : List Frame} {meth : Method} {c9 : Code} {cells slots : Nat} {Q : State → Prop} {b L n : Nat} {xs : Nat → Int32} {M : Mem} {st : St} (F : Fx g p s m args c9 cL_law_ 7 uL_law_ RL) (hb : gB g = s.heap.size) (hst : l.stackTraces = false) (tX : Ty g 10 0) (tM : Ty g 11 250) (tO : Ty g 17 331) (h332 : 332 ∉ gL g) (h333 : 333 ∉ gL g) (hX : va_X b L xs s s.heap) (hbl : b < s.heap.size) (hn : n + 7 ≤ L) (hL : L < 100000) (hI : Inv M st) (hC : cells + 10 ≤ 601024) (hD : slots + 60 ≤ 7293034) (kk : ∀ M' st', Inv M' st' → V g p l e room_1 s m args below meth c9 7 (cells + 10) (slots + 60) Q 2639 [(4, .int (nI n)), (3, .ref (gAd g 331)), (2, .ref (gAd g 250)), (1, .ref (gAd g 0)), (0, .ref b)] [] M') : V g p l e room_1 s m args below meth c9 7 cells slots Q 1830 [(4, .int (nI n)), (3, .ref (gAd g 331)), (2, .ref (gAd g 250)), (1, .ref (gAd g 0)), (0, .ref b)] [] M := by
  obtain ⟨t, M1, r, M2, e1, e2, e3, e4, hI2⟩ := cb_mended hI (xs (n + 1)) (xs (n + 2))
  dsimp only at e2
  refine v_aload_n F dL_law__1830 rfl 3 rfl ?_
  refine v_arg F hb hX hbl 1 (by omega) hL 4 0 rfl rfl dL_law__1831 dL_law__1832 dL_law__1834 (by decide) dL_law__1835 dL_law__1836 ?_
  refine v_arg F hb hX hbl 2 (by omega) hL 4 0 rfl rfl dL_law__1837 dL_law__1838 dL_law__1840 (by decide) dL_law__1841 dL_law__1842 ?_
  refine v_aload_n F dL_law__1843 rfl 1 rfl ?_
  refine v_callSXi (As := [.ref (gAd g 0), .int (xs (n + 1)), .int (xs (n + 2)), .ref (gAd g 331)]) (rest := []) F (c_L_mended l hst F.2.2.1 tX tO e1) (vx_cwSW 4 F.1.2.2.2.2 (gU_SX ml_L_190 st_yL_mended ini_L cd_L_mended) rfl rfl rfl (by decide +kernel) ⟨Nat.le_of_ble_eq_true rfl, Nat.le_of_ble_eq_true rfl⟩) rfl rfl (Nat.le_of_ble_eq_true rfl) dL_law__1844 ⟨by show _ ≤ 601024; omega, by show _ ≤ 7293034; omega⟩ ?_
  refine v_istore (lv' := [(5, .int t), (4, .int (nI n)), (3, .ref (gAd g 331)), (2, .ref (gAd g 250)), (1, .ref (gAd g 0)), (0, .ref b)]) F dL_law__1847 (by decide) rfl ?_
  refine v_aload_n F dL_law__1849 rfl 3 rfl ?_
  refine v_arg F hb hX hbl 1 (by omega) hL 5 1 rfl rfl dL_law__1850 dL_law__1851 dL_law__1853 (by decide) dL_law__1854 dL_law__1855 ?_
  refine v_arg F hb hX hbl 2 (by omega) hL 5 1 rfl rfl dL_law__1856 dL_law__1857 dL_law__1859 (by decide) dL_law__1860 dL_law__1861 ?_
  refine v_callVi (As := [.int (xs (n + 1)), .int (xs (n + 2))]) (rest := []) F (c_X11_mended l F.2.2.1 tM e2) (cwV 2 F.1.2.2.2.2 (gU_V ml_L_192 im_yX11_mended se_yX11_mended ini_X11 cd_X11_mended) rfl rfl rfl (by decide +kernel) ⟨Nat.le_of_ble_eq_true rfl, Nat.le_of_ble_eq_true rfl⟩) tM (by decide) rfl rfl rfl (Nat.le_of_ble_eq_true rfl) dL_law__1862 ⟨by show _ ≤ 601024; omega, by show _ ≤ 7293034; omega⟩ ?_
  refine v_istore (lv' := [(6, .int r), (5, .int t), (4, .int (nI n)), (3, .ref (gAd g 331)), (2, .ref (gAd g 250)), (1, .ref (gAd g 0)), (0, .ref b)]) F dL_law__1865 (by decide) rfl ?_
  refine v_aload_n F dL_law__1867 rfl 4 rfl ?_
  refine v_callVi (As := []) (rest := []) F (c_X11_thrown l F.2.2.1 tM (rfl : f_X11_thrown M2 250 = some (M2 250 0, M2))) (cwV 0 F.1.2.2.2.2 (gU_V ml_L_124 im_yX11_thrown se_yX11_thrown ini_X11 cd_X11_thrown) rfl rfl rfl (by decide +kernel) ⟨Nat.le_of_ble_eq_true rfl, Nat.le_of_ble_eq_true rfl⟩) tM (by decide) rfl rfl rfl (Nat.le_of_ble_eq_true rfl) dL_law__1868 ⟨by show _ ≤ 601024; omega, by show _ ≤ 7293034; omega⟩ ?_
  refine v_iload F dL_law__1871 1 rfl ?_
  refine v_icmp_eq (tgt := 1878) F dL_law__1873 (by decide) (fun _ => ?_) (fun h => absurd e3 h)
  refine v_iload F dL_law__1878 1 rfl ?_
  refine v_if_ne (tgt := 1895) F dL_law__1880 (by decide) (fun _ => ?_) (fun ht => ?_)
  · refine v_goto (tgt := 2639) F dL_law__1895 (by decide) ?_
    refine v_widen (k := cells + 10) (n := slots + 60) (by omega) (by omega) ?_
    exact v_sub (fun ls h9 => lv_sub h9 [2, 3, 4, 5, 6] rfl) (kk _ _ hI2)
  · refine v_aload_n F dL_law__1883 rfl 3 rfl ?_
    refine v_iconst (v := 0) F dL_law__1884 (by decide) ?_
    refine v_lald F tO out_in dL_law__1885 ?_
    refine v_iload F dL_law__1886 0 rfl ?_
    refine v_i2l F dL_law__1888 rfl ?_
    rw [show (M2 250 0, M2).snd 331 (0 : Int32).toNatClampNeg = r from e4 ht]
    refine v_lcmp F dL_law__1889 ?_
    rw [cmp_eq]
    refine v_if_eq (tgt := 1895) F dL_law__1890 (by decide) (fun _ => ?_) (fun h => absurd rfl h)
    refine v_goto (tgt := 2639) F dL_law__1895 (by decide) ?_
    refine v_widen (k := cells + 10) (n := slots + 60) (by omega) (by omega) ?_
    exact v_sub (fun ls h9 => lv_sub h9 [2, 3, 4, 5, 6] rfl) (kk _ _ hI2)
set_option maxHeartbeats 4000000 in
set_option maxRecDepth 100000 in
theorem lc_21 {g : gT} {p : Program} {l : Launch} {e : Env} {s : State} {m : MethodId} {args : Array Value} {below : List Frame} {meth : Method} {c9 : Code} {cells slots : Nat} {Q : State → Prop} {b L n : Nat} {xs : Nat → Int32} {M : Mem} {st : St} (F : Fx g p s m args c9 cL_law_ 7 uL_law_ RL) (hb : gB g = s.heap.size) (hst : l.stackTraces = false) (tX : Ty g 10 0) (tM : Ty g 11 250) (tO : Ty g 17 331) (h332 : 332 ∉ gL g) (h333 : 333 ∉ gL g) (hX : va_X b L xs s s.heap) (hbl : b < s.heap.size) (hn : n + 7 ≤ L) (hL : L < 100000) (hI : Inv M st) (hC : cells + 10 ≤ 601024) (hD : slots + 60 ≤ 7293034) (kk : ∀ M' st', Inv M' st' → V g p l e room_1 s m args below meth c9 7 (cells + 10) (slots + 60) Q 2639 [(4, .int (nI n)), (3, .ref (gAd g 331)), (2, .ref (gAd g 250)), (1, .ref (gAd g 0)), (0, .ref b)] [] M') : V g p l e room_1 s m args below meth c9 7 cells slots Q 1898 [(4, .int (nI n)), (3, .ref (gAd g 331)), (2, .ref (gAd g 250)), (1, .ref (gAd g 0)), (0, .ref b)] [] M := by
  obtain ⟨t, M1, r, M2, e1, e2, e3, e4, hI2⟩ := cb_week hI (xs (n + 1)) (xs (n + 2))
  dsimp only at e2
  refine v_aload_n F dL_law__1898 rfl 3 rfl ?_
  refine v_arg F hb hX hbl 1 (by omega) hL 4 0 rfl rfl dL_law__1899 dL_law__1900 dL_law__1902 (by decide) dL_law__1903 dL_law__1904 ?_
  refine v_arg F hb hX hbl 2 (by omega) hL 4 0 rfl rfl dL_law__1905 dL_law__1906 dL_law__1908 (by decide) dL_law__1909 dL_law__1910 ?_
  refine v_aload_n F dL_law__1911 rfl 1 rfl ?_
  refine v_callSXi (As := [.ref (gAd g 0), .int (xs (n + 1)), .int (xs (n + 2)), .ref (gAd g 331)]) (rest := []) F (c_L_week l hst F.2.2.1 tX tO e1) (vx_cwSW 4 F.1.2.2.2.2 (gU_SX ml_L_193 st_yL_week ini_L cd_L_week) rfl rfl rfl (by decide +kernel) ⟨Nat.le_of_ble_eq_true rfl, Nat.le_of_ble_eq_true rfl⟩) rfl rfl (Nat.le_of_ble_eq_true rfl) dL_law__1912 ⟨by show _ ≤ 601024; omega, by show _ ≤ 7293034; omega⟩ ?_
  refine v_istore (lv' := [(5, .int t), (4, .int (nI n)), (3, .ref (gAd g 331)), (2, .ref (gAd g 250)), (1, .ref (gAd g 0)), (0, .ref b)]) F dL_law__1915 (by decide) rfl ?_
  refine v_aload_n F dL_law__1917 rfl 3 rfl ?_
  refine v_arg F hb hX hbl 1 (by omega) hL 5 1 rfl rfl dL_law__1918 dL_law__1919 dL_law__1921 (by decide) dL_law__1922 dL_law__1923 ?_
  refine v_arg F hb hX hbl 2 (by omega) hL 5 1 rfl rfl dL_law__1924 dL_law__1925 dL_law__1927 (by decide) dL_law__1928 dL_law__1929 ?_
  refine v_callVN (As := [.int (xs (n + 1)), .int (xs (n + 2))]) (rest := []) F (c_X11_week l F.2.2.1 h333 tM e2) (cwV 2 F.1.2.2.2.2 (gU_V ml_L_195 im_yX11_week se_yX11_week ini_X11 cd_X11_week) rfl rfl rfl (by decide +kernel) ⟨Nat.le_of_ble_eq_true rfl, Nat.le_of_ble_eq_true rfl⟩) tM (by decide) rfl rfl rfl (Nat.le_of_ble_eq_true rfl) dL_law__1930 ⟨by show _ ≤ 601024; omega, by show _ ≤ 7293034; omega⟩ ?_
  refine v_istore (lv' := [(6, .int r), (5, .int t), (4, .int (nI n)), (3, .ref (gAd g 331)), (2, .ref (gAd g 250)), (1, .ref (gAd g 0)), (0, .ref b)]) F dL_law__1933 (by decide) rfl ?_
  refine v_aload_n F dL_law__1935 rfl 4 rfl ?_
  refine v_callVi (As := []) (rest := []) F (c_X11_thrown l F.2.2.1 tM (rfl : f_X11_thrown M2 250 = some (M2 250 0, M2))) (cwV 0 F.1.2.2.2.2 (gU_V ml_L_124 im_yX11_thrown se_yX11_thrown ini_X11 cd_X11_thrown) rfl rfl rfl (by decide +kernel) ⟨Nat.le_of_ble_eq_true rfl, Nat.le_of_ble_eq_true rfl⟩) tM (by decide) rfl rfl rfl (Nat.le_of_ble_eq_true rfl) dL_law__1936 ⟨by show _ ≤ 601024; omega, by show _ ≤ 7293034; omega⟩ ?_
  refine v_iload F dL_law__1939 1 rfl ?_
  refine v_icmp_eq (tgt := 1946) F dL_law__1941 (by decide) (fun _ => ?_) (fun h => absurd e3 h)
  refine v_iload F dL_law__1946 1 rfl ?_
  refine v_if_ne (tgt := 1963) F dL_law__1948 (by decide) (fun _ => ?_) (fun ht => ?_)
  · refine v_goto (tgt := 2639) F dL_law__1963 (by decide) ?_
    refine v_widen (k := cells + 10) (n := slots + 60) (by omega) (by omega) ?_
    exact v_sub (fun ls h9 => lv_sub h9 [2, 3, 4, 5, 6] rfl) (kk _ _ hI2)
  · refine v_aload_n F dL_law__1951 rfl 3 rfl ?_
    refine v_iconst (v := 0) F dL_law__1952 (by decide) ?_
    refine v_lald F tO out_in dL_law__1953 ?_
    refine v_iload F dL_law__1954 0 rfl ?_
    refine v_i2l F dL_law__1956 rfl ?_
    rw [show (M2 250 0, M2).snd 331 (0 : Int32).toNatClampNeg = r from e4 ht]
    refine v_lcmp F dL_law__1957 ?_
    rw [cmp_eq]
    refine v_if_eq (tgt := 1963) F dL_law__1958 (by decide) (fun _ => ?_) (fun h => absurd rfl h)
    refine v_goto (tgt := 2639) F dL_law__1963 (by decide) ?_
    refine v_widen (k := cells + 10) (n := slots + 60) (by omega) (by omega) ?_
    exact v_sub (fun ls h9 => lv_sub h9 [2, 3, 4, 5, 6] rfl) (kk _ _ hI2)
set_option maxHeartbeats 4000000 in
set_option maxRecDepth 100000 in
theorem lc_22z {g : gT} {p : Program} {l : Launch} {e : Env} {s : State} {m : MethodId} {args : Array Value} {below : List Frame} {meth : Method} {c9 : Code} {cells slots : Nat} {Q : State → Prop} {b L n : Nat} {xs : Nat → Int32} {M : Mem} {st : St} (F : Fx g p s m args c9 cL_law_ 7 uL_law_ RL) (hb : gB g = s.heap.size) (hst : l.stackTraces = false) (tX : Ty g 10 0) (tM : Ty g 11 250) (tO : Ty g 17 331) (h332 : 332 ∉ gL g) (h333 : 333 ∉ gL g) (hX : va_X b L xs s s.heap) (hbl : b < s.heap.size) (hn : n + 7 ≤ L) (hL : L < 100000) (hI : Inv M st) (hC : cells + 10 ≤ 601024) (hD : slots + 60 ≤ 7293034) (kk : ∀ M' st', Inv M' st' → V g p l e room_1 s m args below meth c9 7 (cells + 10) (slots + 60) Q 2639 [(4, .int (nI n)), (3, .ref (gAd g 331)), (2, .ref (gAd g 250)), (1, .ref (gAd g 0)), (0, .ref b)] [] M') (hz : xs (n + 5) = 0) : V g p l e room_1 s m args below meth c9 7 cells slots Q 1966 [(4, .int (nI n)), (3, .ref (gAd g 331)), (2, .ref (gAd g 250)), (1, .ref (gAd g 0)), (0, .ref b)] [] M := by
  obtain ⟨t, M1, r, M2, e1, e2, e3, e4, hI2⟩ := cb_span hI (xs (n + 1)) (xs (n + 2)) (xs (n + 3)) (xs (n + 4)) (0)
  dsimp only at e2
  refine v_aload_n F dL_law__1966 rfl 3 rfl ?_
  refine v_arg F hb hX hbl 1 (by omega) hL 4 0 rfl rfl dL_law__1967 dL_law__1968 dL_law__1970 (by decide) dL_law__1971 dL_law__1972 ?_
  refine v_arg F hb hX hbl 2 (by omega) hL 4 0 rfl rfl dL_law__1973 dL_law__1974 dL_law__1976 (by decide) dL_law__1977 dL_law__1978 ?_
  refine v_arg F hb hX hbl 3 (by omega) hL 4 0 rfl rfl dL_law__1979 dL_law__1980 dL_law__1982 (by decide) dL_law__1983 dL_law__1984 ?_
  refine v_arg F hb hX hbl 4 (by omega) hL 4 0 rfl rfl dL_law__1985 dL_law__1986 dL_law__1988 (by decide) dL_law__1989 dL_law__1990 ?_
  refine v_arg F hb hX hbl 5 (by omega) hL 4 0 rfl rfl dL_law__1991 dL_law__1992 dL_law__1994 (by decide) dL_law__1995 dL_law__1996 ?_
  refine v_if_eq (tgt := 2004) F dL_law__1997 (by decide) (fun _ => ?_) (fun h => absurd hz h)
  refine v_iconst (v := 0) F dL_law__2004 (by decide) ?_
  refine v_aload_n F dL_law__2005 rfl 1 rfl ?_
  refine v_callSXi (As := [.ref (gAd g 0), .int (xs (n + 1)), .int (xs (n + 2)), .int (xs (n + 3)), .int (xs (n + 4)), .int (0), .ref (gAd g 331)]) (rest := []) F (c_L_span l hst F.2.2.1 tX tO e1) (vx_cwSW 7 F.1.2.2.2.2 (gU_SX ml_L_196 st_yL_span ini_L cd_L_span) rfl rfl rfl (by decide +kernel) ⟨Nat.le_of_ble_eq_true rfl, Nat.le_of_ble_eq_true rfl⟩) rfl rfl (Nat.le_of_ble_eq_true rfl) dL_law__2006 ⟨by show _ ≤ 601024; omega, by show _ ≤ 7293034; omega⟩ ?_
  refine v_istore (lv' := [(5, .int t), (4, .int (nI n)), (3, .ref (gAd g 331)), (2, .ref (gAd g 250)), (1, .ref (gAd g 0)), (0, .ref b)]) F dL_law__2009 (by decide) rfl ?_
  refine v_aload_n F dL_law__2011 rfl 3 rfl ?_
  refine v_arg F hb hX hbl 1 (by omega) hL 5 1 rfl rfl dL_law__2012 dL_law__2013 dL_law__2015 (by decide) dL_law__2016 dL_law__2017 ?_
  refine v_arg F hb hX hbl 2 (by omega) hL 5 1 rfl rfl dL_law__2018 dL_law__2019 dL_law__2021 (by decide) dL_law__2022 dL_law__2023 ?_
  refine v_arg F hb hX hbl 3 (by omega) hL 5 1 rfl rfl dL_law__2024 dL_law__2025 dL_law__2027 (by decide) dL_law__2028 dL_law__2029 ?_
  refine v_arg F hb hX hbl 4 (by omega) hL 5 1 rfl rfl dL_law__2030 dL_law__2031 dL_law__2033 (by decide) dL_law__2034 dL_law__2035 ?_
  refine v_arg F hb hX hbl 5 (by omega) hL 5 1 rfl rfl dL_law__2036 dL_law__2037 dL_law__2039 (by decide) dL_law__2040 dL_law__2041 ?_
  refine v_if_eq (tgt := 2049) F dL_law__2042 (by decide) (fun _ => ?_) (fun h => absurd hz h)
  refine v_iconst (v := 0) F dL_law__2049 (by decide) ?_
  refine v_callVi (As := [.int (xs (n + 1)), .int (xs (n + 2)), .int (xs (n + 3)), .int (xs (n + 4)), .int (0)]) (rest := []) F (c_X11_span l F.2.2.1 tM e2) (cwV 5 F.1.2.2.2.2 (gU_V ml_L_198 im_yX11_span se_yX11_span ini_X11 cd_X11_span) rfl rfl rfl (by decide +kernel) ⟨Nat.le_of_ble_eq_true rfl, Nat.le_of_ble_eq_true rfl⟩) tM (by decide) rfl rfl rfl (Nat.le_of_ble_eq_true rfl) dL_law__2050 ⟨by show _ ≤ 601024; omega, by show _ ≤ 7293034; omega⟩ ?_
  refine v_istore (lv' := [(6, .int r), (5, .int t), (4, .int (nI n)), (3, .ref (gAd g 331)), (2, .ref (gAd g 250)), (1, .ref (gAd g 0)), (0, .ref b)]) F dL_law__2053 (by decide) rfl ?_
  refine v_aload_n F dL_law__2055 rfl 4 rfl ?_
  refine v_callVi (As := []) (rest := []) F (c_X11_thrown l F.2.2.1 tM (rfl : f_X11_thrown M2 250 = some (M2 250 0, M2))) (cwV 0 F.1.2.2.2.2 (gU_V ml_L_124 im_yX11_thrown se_yX11_thrown ini_X11 cd_X11_thrown) rfl rfl rfl (by decide +kernel) ⟨Nat.le_of_ble_eq_true rfl, Nat.le_of_ble_eq_true rfl⟩) tM (by decide) rfl rfl rfl (Nat.le_of_ble_eq_true rfl) dL_law__2056 ⟨by show _ ≤ 601024; omega, by show _ ≤ 7293034; omega⟩ ?_
  refine v_iload F dL_law__2059 1 rfl ?_
  refine v_icmp_eq (tgt := 2066) F dL_law__2061 (by decide) (fun _ => ?_) (fun h => absurd e3 h)
  refine v_iload F dL_law__2066 1 rfl ?_
  refine v_if_ne (tgt := 2083) F dL_law__2068 (by decide) (fun _ => ?_) (fun ht => ?_)
  · refine v_goto (tgt := 2639) F dL_law__2083 (by decide) ?_
    refine v_widen (k := cells + 10) (n := slots + 60) (by omega) (by omega) ?_
    exact v_sub (fun ls h9 => lv_sub h9 [2, 3, 4, 5, 6] rfl) (kk _ _ hI2)
  · refine v_aload_n F dL_law__2071 rfl 3 rfl ?_
    refine v_iconst (v := 0) F dL_law__2072 (by decide) ?_
    refine v_lald F tO out_in dL_law__2073 ?_
    refine v_iload F dL_law__2074 0 rfl ?_
    refine v_i2l F dL_law__2076 rfl ?_
    rw [show (M2 250 0, M2).snd 331 (0 : Int32).toNatClampNeg = r from e4 ht]
    refine v_lcmp F dL_law__2077 ?_
    rw [cmp_eq]
    refine v_if_eq (tgt := 2083) F dL_law__2078 (by decide) (fun _ => ?_) (fun h => absurd rfl h)
    refine v_goto (tgt := 2639) F dL_law__2083 (by decide) ?_
    refine v_widen (k := cells + 10) (n := slots + 60) (by omega) (by omega) ?_
    exact v_sub (fun ls h9 => lv_sub h9 [2, 3, 4, 5, 6] rfl) (kk _ _ hI2)
set_option maxHeartbeats 4000000 in
set_option maxRecDepth 100000 in
theorem lc_22n {g : gT} {p : Program} {l : Launch} {e : Env} {s : State} {m : MethodId} {args : Array Value} {below : List Frame} {meth : Method} {c9 : Code} {cells slots : Nat} {Q : State → Prop} {b L n : Nat} {xs : Nat → Int32} {M : Mem} {st : St} (F : Fx g p s m args c9 cL_law_ 7 uL_law_ RL) (hb : gB g = s.heap.size) (hst : l.stackTraces = false) (tX : Ty g 10 0) (tM : Ty g 11 250) (tO : Ty g 17 331) (h332 : 332 ∉ gL g) (h333 : 333 ∉ gL g) (hX : va_X b L xs s s.heap) (hbl : b < s.heap.size) (hn : n + 7 ≤ L) (hL : L < 100000) (hI : Inv M st) (hC : cells + 10 ≤ 601024) (hD : slots + 60 ≤ 7293034) (kk : ∀ M' st', Inv M' st' → V g p l e room_1 s m args below meth c9 7 (cells + 10) (slots + 60) Q 2639 [(4, .int (nI n)), (3, .ref (gAd g 331)), (2, .ref (gAd g 250)), (1, .ref (gAd g 0)), (0, .ref b)] [] M') (hz : ¬ xs (n + 5) = 0) : V g p l e room_1 s m args below meth c9 7 cells slots Q 1966 [(4, .int (nI n)), (3, .ref (gAd g 331)), (2, .ref (gAd g 250)), (1, .ref (gAd g 0)), (0, .ref b)] [] M := by
  obtain ⟨t, M1, r, M2, e1, e2, e3, e4, hI2⟩ := cb_span hI (xs (n + 1)) (xs (n + 2)) (xs (n + 3)) (xs (n + 4)) (1)
  dsimp only at e2
  refine v_aload_n F dL_law__1966 rfl 3 rfl ?_
  refine v_arg F hb hX hbl 1 (by omega) hL 4 0 rfl rfl dL_law__1967 dL_law__1968 dL_law__1970 (by decide) dL_law__1971 dL_law__1972 ?_
  refine v_arg F hb hX hbl 2 (by omega) hL 4 0 rfl rfl dL_law__1973 dL_law__1974 dL_law__1976 (by decide) dL_law__1977 dL_law__1978 ?_
  refine v_arg F hb hX hbl 3 (by omega) hL 4 0 rfl rfl dL_law__1979 dL_law__1980 dL_law__1982 (by decide) dL_law__1983 dL_law__1984 ?_
  refine v_arg F hb hX hbl 4 (by omega) hL 4 0 rfl rfl dL_law__1985 dL_law__1986 dL_law__1988 (by decide) dL_law__1989 dL_law__1990 ?_
  refine v_arg F hb hX hbl 5 (by omega) hL 4 0 rfl rfl dL_law__1991 dL_law__1992 dL_law__1994 (by decide) dL_law__1995 dL_law__1996 ?_
  refine v_if_eq (tgt := 2004) F dL_law__1997 (by decide) (fun h => absurd h hz) (fun _ => ?_)
  refine v_iconst (v := 1) F dL_law__2000 (by decide) ?_
  refine v_goto (tgt := 2005) F dL_law__2001 (by decide) ?_
  refine v_aload_n F dL_law__2005 rfl 1 rfl ?_
  refine v_callSXi (As := [.ref (gAd g 0), .int (xs (n + 1)), .int (xs (n + 2)), .int (xs (n + 3)), .int (xs (n + 4)), .int (1), .ref (gAd g 331)]) (rest := []) F (c_L_span l hst F.2.2.1 tX tO e1) (vx_cwSW 7 F.1.2.2.2.2 (gU_SX ml_L_196 st_yL_span ini_L cd_L_span) rfl rfl rfl (by decide +kernel) ⟨Nat.le_of_ble_eq_true rfl, Nat.le_of_ble_eq_true rfl⟩) rfl rfl (Nat.le_of_ble_eq_true rfl) dL_law__2006 ⟨by show _ ≤ 601024; omega, by show _ ≤ 7293034; omega⟩ ?_
  refine v_istore (lv' := [(5, .int t), (4, .int (nI n)), (3, .ref (gAd g 331)), (2, .ref (gAd g 250)), (1, .ref (gAd g 0)), (0, .ref b)]) F dL_law__2009 (by decide) rfl ?_
  refine v_aload_n F dL_law__2011 rfl 3 rfl ?_
  refine v_arg F hb hX hbl 1 (by omega) hL 5 1 rfl rfl dL_law__2012 dL_law__2013 dL_law__2015 (by decide) dL_law__2016 dL_law__2017 ?_
  refine v_arg F hb hX hbl 2 (by omega) hL 5 1 rfl rfl dL_law__2018 dL_law__2019 dL_law__2021 (by decide) dL_law__2022 dL_law__2023 ?_
  refine v_arg F hb hX hbl 3 (by omega) hL 5 1 rfl rfl dL_law__2024 dL_law__2025 dL_law__2027 (by decide) dL_law__2028 dL_law__2029 ?_
  refine v_arg F hb hX hbl 4 (by omega) hL 5 1 rfl rfl dL_law__2030 dL_law__2031 dL_law__2033 (by decide) dL_law__2034 dL_law__2035 ?_
  refine v_arg F hb hX hbl 5 (by omega) hL 5 1 rfl rfl dL_law__2036 dL_law__2037 dL_law__2039 (by decide) dL_law__2040 dL_law__2041 ?_
  refine v_if_eq (tgt := 2049) F dL_law__2042 (by decide) (fun h => absurd h hz) (fun _ => ?_)
  refine v_iconst (v := 1) F dL_law__2045 (by decide) ?_
  refine v_goto (tgt := 2050) F dL_law__2046 (by decide) ?_
  refine v_callVi (As := [.int (xs (n + 1)), .int (xs (n + 2)), .int (xs (n + 3)), .int (xs (n + 4)), .int (1)]) (rest := []) F (c_X11_span l F.2.2.1 tM e2) (cwV 5 F.1.2.2.2.2 (gU_V ml_L_198 im_yX11_span se_yX11_span ini_X11 cd_X11_span) rfl rfl rfl (by decide +kernel) ⟨Nat.le_of_ble_eq_true rfl, Nat.le_of_ble_eq_true rfl⟩) tM (by decide) rfl rfl rfl (Nat.le_of_ble_eq_true rfl) dL_law__2050 ⟨by show _ ≤ 601024; omega, by show _ ≤ 7293034; omega⟩ ?_
  refine v_istore (lv' := [(6, .int r), (5, .int t), (4, .int (nI n)), (3, .ref (gAd g 331)), (2, .ref (gAd g 250)), (1, .ref (gAd g 0)), (0, .ref b)]) F dL_law__2053 (by decide) rfl ?_
  refine v_aload_n F dL_law__2055 rfl 4 rfl ?_
  refine v_callVi (As := []) (rest := []) F (c_X11_thrown l F.2.2.1 tM (rfl : f_X11_thrown M2 250 = some (M2 250 0, M2))) (cwV 0 F.1.2.2.2.2 (gU_V ml_L_124 im_yX11_thrown se_yX11_thrown ini_X11 cd_X11_thrown) rfl rfl rfl (by decide +kernel) ⟨Nat.le_of_ble_eq_true rfl, Nat.le_of_ble_eq_true rfl⟩) tM (by decide) rfl rfl rfl (Nat.le_of_ble_eq_true rfl) dL_law__2056 ⟨by show _ ≤ 601024; omega, by show _ ≤ 7293034; omega⟩ ?_
  refine v_iload F dL_law__2059 1 rfl ?_
  refine v_icmp_eq (tgt := 2066) F dL_law__2061 (by decide) (fun _ => ?_) (fun h => absurd e3 h)
  refine v_iload F dL_law__2066 1 rfl ?_
  refine v_if_ne (tgt := 2083) F dL_law__2068 (by decide) (fun _ => ?_) (fun ht => ?_)
  · refine v_goto (tgt := 2639) F dL_law__2083 (by decide) ?_
    refine v_widen (k := cells + 10) (n := slots + 60) (by omega) (by omega) ?_
    exact v_sub (fun ls h9 => lv_sub h9 [2, 3, 4, 5, 6] rfl) (kk _ _ hI2)
  · refine v_aload_n F dL_law__2071 rfl 3 rfl ?_
    refine v_iconst (v := 0) F dL_law__2072 (by decide) ?_
    refine v_lald F tO out_in dL_law__2073 ?_
    refine v_iload F dL_law__2074 0 rfl ?_
    refine v_i2l F dL_law__2076 rfl ?_
    rw [show (M2 250 0, M2).snd 331 (0 : Int32).toNatClampNeg = r from e4 ht]
    refine v_lcmp F dL_law__2077 ?_
    rw [cmp_eq]
    refine v_if_eq (tgt := 2083) F dL_law__2078 (by decide) (fun _ => ?_) (fun h => absurd rfl h)
    refine v_goto (tgt := 2639) F dL_law__2083 (by decide) ?_
    refine v_widen (k := cells + 10) (n := slots + 60) (by omega) (by omega) ?_
    exact v_sub (fun ls h9 => lv_sub h9 [2, 3, 4, 5, 6] rfl) (kk _ _ hI2)
theorem lc_22 {g : gT} {p : Program} {l : Launch} {e : Env} {s : State} {m : MethodId} {args : Array Value} {below : List Frame} {meth : Method} {c9 : Code} {cells slots : Nat} {Q : State → Prop} {b L n : Nat} {xs : Nat → Int32} {M : Mem} {st : St} (F : Fx g p s m args c9 cL_law_ 7 uL_law_ RL) (hb : gB g = s.heap.size) (hst : l.stackTraces = false) (tX : Ty g 10 0) (tM : Ty g 11 250) (tO : Ty g 17 331) (h332 : 332 ∉ gL g) (h333 : 333 ∉ gL g) (hX : va_X b L xs s s.heap) (hbl : b < s.heap.size) (hn : n + 7 ≤ L) (hL : L < 100000) (hI : Inv M st) (hC : cells + 10 ≤ 601024) (hD : slots + 60 ≤ 7293034) (kk : ∀ M' st', Inv M' st' → V g p l e room_1 s m args below meth c9 7 (cells + 10) (slots + 60) Q 2639 [(4, .int (nI n)), (3, .ref (gAd g 331)), (2, .ref (gAd g 250)), (1, .ref (gAd g 0)), (0, .ref b)] [] M') : V g p l e room_1 s m args below meth c9 7 cells slots Q 1966 [(4, .int (nI n)), (3, .ref (gAd g 331)), (2, .ref (gAd g 250)), (1, .ref (gAd g 0)), (0, .ref b)] [] M := by
  by_cases hz : xs (n + 5) = 0
  · exact lc_22z F hb hst tX tM tO h332 h333 hX hbl hn hL hI hC hD kk hz
  · exact lc_22n F hb hst tX tM tO h332 h333 hX hbl hn hL hI hC hD kk hz
set_option maxHeartbeats 4000000 in
set_option maxRecDepth 100000 in
theorem lc_23 {g : gT} {p : Program} {l : Launch} {e : Env} {s : State} {m : MethodId} {args : Array Value} {below : List Frame} {meth : Method} {c9 : Code} {cells slots : Nat} {Q : State → Prop} {b L n : Nat} {xs : Nat → Int32} {M : Mem} {st : St} (F : Fx g p s m args c9 cL_law_ 7 uL_law_ RL) (hb : gB g = s.heap.size) (hst : l.stackTraces = false) (tX : Ty g 10 0) (tM : Ty g 11 250) (tO : Ty g 17 331) (h332 : 332 ∉ gL g) (h333 : 333 ∉ gL g) (hX : va_X b L xs s s.heap) (hbl : b < s.heap.size) (hn : n + 7 ≤ L) (hL : L < 100000) (hI : Inv M st) (hC : cells + 10 ≤ 601024) (hD : slots + 60 ≤ 7293034) (kk : ∀ M' st', Inv M' st' → V g p l e room_1 s m args below meth c9 7 (cells + 10) (slots + 60) Q 2639 [(4, .int (nI n)), (3, .ref (gAd g 331)), (2, .ref (gAd g 250)), (1, .ref (gAd g 0)), (0, .ref b)] [] M') : V g p l e room_1 s m args below meth c9 7 cells slots Q 2086 [(4, .int (nI n)), (3, .ref (gAd g 331)), (2, .ref (gAd g 250)), (1, .ref (gAd g 0)), (0, .ref b)] [] M := by
  obtain ⟨t, M1, r, M2, e1, e2, e3, e4, hI2⟩ := cb_bridge hI (xs (n + 1))
  dsimp only at e2
  refine v_aload_n F dL_law__2086 rfl 3 rfl ?_
  refine v_arg F hb hX hbl 1 (by omega) hL 4 0 rfl rfl dL_law__2087 dL_law__2088 dL_law__2090 (by decide) dL_law__2091 dL_law__2092 ?_
  refine v_aload_n F dL_law__2093 rfl 1 rfl ?_
  refine v_callSXi (As := [.ref (gAd g 0), .int (xs (n + 1)), .ref (gAd g 331)]) (rest := []) F (c_L_bridge l hst F.2.2.1 tX tO e1) (vx_cwSW 3 F.1.2.2.2.2 (gU_SX ml_L_199 st_yL_bridge ini_L cd_L_bridge) rfl rfl rfl (by decide +kernel) ⟨Nat.le_of_ble_eq_true rfl, Nat.le_of_ble_eq_true rfl⟩) rfl rfl (Nat.le_of_ble_eq_true rfl) dL_law__2094 ⟨by show _ ≤ 601024; omega, by show _ ≤ 7293034; omega⟩ ?_
  refine v_istore (lv' := [(5, .int t), (4, .int (nI n)), (3, .ref (gAd g 331)), (2, .ref (gAd g 250)), (1, .ref (gAd g 0)), (0, .ref b)]) F dL_law__2097 (by decide) rfl ?_
  refine v_aload_n F dL_law__2099 rfl 3 rfl ?_
  refine v_arg F hb hX hbl 1 (by omega) hL 5 1 rfl rfl dL_law__2100 dL_law__2101 dL_law__2103 (by decide) dL_law__2104 dL_law__2105 ?_
  refine v_callVi (As := [.int (xs (n + 1))]) (rest := []) F (c_X11_bridge l F.2.2.1 tM e2) (cwV 1 F.1.2.2.2.2 (gU_V ml_L_201 im_yX11_bridge se_yX11_bridge ini_X11 cd_X11_bridge) rfl rfl rfl (by decide +kernel) ⟨Nat.le_of_ble_eq_true rfl, Nat.le_of_ble_eq_true rfl⟩) tM (by decide) rfl rfl rfl (Nat.le_of_ble_eq_true rfl) dL_law__2106 ⟨by show _ ≤ 601024; omega, by show _ ≤ 7293034; omega⟩ ?_
  refine v_istore (lv' := [(6, .int r), (5, .int t), (4, .int (nI n)), (3, .ref (gAd g 331)), (2, .ref (gAd g 250)), (1, .ref (gAd g 0)), (0, .ref b)]) F dL_law__2109 (by decide) rfl ?_
  refine v_aload_n F dL_law__2111 rfl 4 rfl ?_
  refine v_callVi (As := []) (rest := []) F (c_X11_thrown l F.2.2.1 tM (rfl : f_X11_thrown M2 250 = some (M2 250 0, M2))) (cwV 0 F.1.2.2.2.2 (gU_V ml_L_124 im_yX11_thrown se_yX11_thrown ini_X11 cd_X11_thrown) rfl rfl rfl (by decide +kernel) ⟨Nat.le_of_ble_eq_true rfl, Nat.le_of_ble_eq_true rfl⟩) tM (by decide) rfl rfl rfl (Nat.le_of_ble_eq_true rfl) dL_law__2112 ⟨by show _ ≤ 601024; omega, by show _ ≤ 7293034; omega⟩ ?_
  refine v_iload F dL_law__2115 1 rfl ?_
  refine v_icmp_eq (tgt := 2122) F dL_law__2117 (by decide) (fun _ => ?_) (fun h => absurd e3 h)
  refine v_iload F dL_law__2122 1 rfl ?_
  refine v_if_ne (tgt := 2139) F dL_law__2124 (by decide) (fun _ => ?_) (fun ht => ?_)
  · refine v_goto (tgt := 2639) F dL_law__2139 (by decide) ?_
    refine v_widen (k := cells + 10) (n := slots + 60) (by omega) (by omega) ?_
    exact v_sub (fun ls h9 => lv_sub h9 [2, 3, 4, 5, 6] rfl) (kk _ _ hI2)
  · refine v_aload_n F dL_law__2127 rfl 3 rfl ?_
    refine v_iconst (v := 0) F dL_law__2128 (by decide) ?_
    refine v_lald F tO out_in dL_law__2129 ?_
    refine v_iload F dL_law__2130 0 rfl ?_
    refine v_i2l F dL_law__2132 rfl ?_
    rw [show (M2 250 0, M2).snd 331 (0 : Int32).toNatClampNeg = r from e4 ht]
    refine v_lcmp F dL_law__2133 ?_
    rw [cmp_eq]
    refine v_if_eq (tgt := 2139) F dL_law__2134 (by decide) (fun _ => ?_) (fun h => absurd rfl h)
    refine v_goto (tgt := 2639) F dL_law__2139 (by decide) ?_
    refine v_widen (k := cells + 10) (n := slots + 60) (by omega) (by omega) ?_
    exact v_sub (fun ls h9 => lv_sub h9 [2, 3, 4, 5, 6] rfl) (kk _ _ hI2)
set_option maxHeartbeats 4000000 in
set_option maxRecDepth 100000 in
theorem lc_24 {g : gT} {p : Program} {l : Launch} {e : Env} {s : State} {m : MethodId} {args : Array Value} {below : List Frame} {meth : Method} {c9 : Code} {cells slots : Nat} {Q : State → Prop} {b L n : Nat} {xs : Nat → Int32} {M : Mem} {st : St} (F : Fx g p s m args c9 cL_law_ 7 uL_law_ RL) (hb : gB g = s.heap.size) (hst : l.stackTraces = false) (tX : Ty g 10 0) (tM : Ty g 11 250) (tO : Ty g 17 331) (h332 : 332 ∉ gL g) (h333 : 333 ∉ gL g) (hX : va_X b L xs s s.heap) (hbl : b < s.heap.size) (hn : n + 7 ≤ L) (hL : L < 100000) (hI : Inv M st) (hC : cells + 10 ≤ 601024) (hD : slots + 60 ≤ 7293034) (kk : ∀ M' st', Inv M' st' → V g p l e room_1 s m args below meth c9 7 (cells + 10) (slots + 60) Q 2639 [(4, .int (nI n)), (3, .ref (gAd g 331)), (2, .ref (gAd g 250)), (1, .ref (gAd g 0)), (0, .ref b)] [] M') : V g p l e room_1 s m args below meth c9 7 cells slots Q 2142 [(4, .int (nI n)), (3, .ref (gAd g 331)), (2, .ref (gAd g 250)), (1, .ref (gAd g 0)), (0, .ref b)] [] M := by
  obtain ⟨t, M1, r, M2, e1, e2, e3, e4, hI2⟩ := cb_blows hI (xs (n + 1)) (xs (n + 2)) (xs (n + 3))
  dsimp only at e2
  refine v_aload_n F dL_law__2142 rfl 3 rfl ?_
  refine v_arg F hb hX hbl 1 (by omega) hL 4 0 rfl rfl dL_law__2143 dL_law__2144 dL_law__2146 (by decide) dL_law__2147 dL_law__2148 ?_
  refine v_arg F hb hX hbl 2 (by omega) hL 4 0 rfl rfl dL_law__2149 dL_law__2150 dL_law__2152 (by decide) dL_law__2153 dL_law__2154 ?_
  refine v_arg F hb hX hbl 3 (by omega) hL 4 0 rfl rfl dL_law__2155 dL_law__2156 dL_law__2158 (by decide) dL_law__2159 dL_law__2160 ?_
  refine v_aload_n F dL_law__2161 rfl 1 rfl ?_
  refine v_callSXi (As := [.ref (gAd g 0), .int (xs (n + 1)), .int (xs (n + 2)), .int (xs (n + 3)), .ref (gAd g 331)]) (rest := []) F (c_L_blows l hst F.2.2.1 tX tO e1) (vx_cwSW 5 F.1.2.2.2.2 (gU_SX ml_L_202 st_yL_blows ini_L cd_L_blows) rfl rfl rfl (by decide +kernel) ⟨Nat.le_of_ble_eq_true rfl, Nat.le_of_ble_eq_true rfl⟩) rfl rfl (Nat.le_of_ble_eq_true rfl) dL_law__2162 ⟨by show _ ≤ 601024; omega, by show _ ≤ 7293034; omega⟩ ?_
  refine v_istore (lv' := [(5, .int t), (4, .int (nI n)), (3, .ref (gAd g 331)), (2, .ref (gAd g 250)), (1, .ref (gAd g 0)), (0, .ref b)]) F dL_law__2165 (by decide) rfl ?_
  refine v_aload_n F dL_law__2167 rfl 3 rfl ?_
  refine v_arg F hb hX hbl 1 (by omega) hL 5 1 rfl rfl dL_law__2168 dL_law__2169 dL_law__2171 (by decide) dL_law__2172 dL_law__2173 ?_
  refine v_arg F hb hX hbl 2 (by omega) hL 5 1 rfl rfl dL_law__2174 dL_law__2175 dL_law__2177 (by decide) dL_law__2178 dL_law__2179 ?_
  refine v_arg F hb hX hbl 3 (by omega) hL 5 1 rfl rfl dL_law__2180 dL_law__2181 dL_law__2183 (by decide) dL_law__2184 dL_law__2185 ?_
  refine v_callVi (As := [.int (xs (n + 1)), .int (xs (n + 2)), .int (xs (n + 3))]) (rest := []) F (c_X11_blows l F.2.2.1 tM e2) (cwV 3 F.1.2.2.2.2 (gU_V ml_L_204 im_yX11_blows se_yX11_blows ini_X11 cd_X11_blows) rfl rfl rfl (by decide +kernel) ⟨Nat.le_of_ble_eq_true rfl, Nat.le_of_ble_eq_true rfl⟩) tM (by decide) rfl rfl rfl (Nat.le_of_ble_eq_true rfl) dL_law__2186 ⟨by show _ ≤ 601024; omega, by show _ ≤ 7293034; omega⟩ ?_
  refine v_istore (lv' := [(6, .int r), (5, .int t), (4, .int (nI n)), (3, .ref (gAd g 331)), (2, .ref (gAd g 250)), (1, .ref (gAd g 0)), (0, .ref b)]) F dL_law__2189 (by decide) rfl ?_
  refine v_aload_n F dL_law__2191 rfl 4 rfl ?_
  refine v_callVi (As := []) (rest := []) F (c_X11_thrown l F.2.2.1 tM (rfl : f_X11_thrown M2 250 = some (M2 250 0, M2))) (cwV 0 F.1.2.2.2.2 (gU_V ml_L_124 im_yX11_thrown se_yX11_thrown ini_X11 cd_X11_thrown) rfl rfl rfl (by decide +kernel) ⟨Nat.le_of_ble_eq_true rfl, Nat.le_of_ble_eq_true rfl⟩) tM (by decide) rfl rfl rfl (Nat.le_of_ble_eq_true rfl) dL_law__2192 ⟨by show _ ≤ 601024; omega, by show _ ≤ 7293034; omega⟩ ?_
  refine v_iload F dL_law__2195 1 rfl ?_
  refine v_icmp_eq (tgt := 2202) F dL_law__2197 (by decide) (fun _ => ?_) (fun h => absurd e3 h)
  refine v_iload F dL_law__2202 1 rfl ?_
  refine v_if_ne (tgt := 2219) F dL_law__2204 (by decide) (fun _ => ?_) (fun ht => ?_)
  · refine v_goto (tgt := 2639) F dL_law__2219 (by decide) ?_
    refine v_widen (k := cells + 10) (n := slots + 60) (by omega) (by omega) ?_
    exact v_sub (fun ls h9 => lv_sub h9 [2, 3, 4, 5, 6] rfl) (kk _ _ hI2)
  · refine v_aload_n F dL_law__2207 rfl 3 rfl ?_
    refine v_iconst (v := 0) F dL_law__2208 (by decide) ?_
    refine v_lald F tO out_in dL_law__2209 ?_
    refine v_iload F dL_law__2210 0 rfl ?_
    refine v_i2l F dL_law__2212 rfl ?_
    rw [show (M2 250 0, M2).snd 331 (0 : Int32).toNatClampNeg = r from e4 ht]
    refine v_lcmp F dL_law__2213 ?_
    rw [cmp_eq]
    refine v_if_eq (tgt := 2219) F dL_law__2214 (by decide) (fun _ => ?_) (fun h => absurd rfl h)
    refine v_goto (tgt := 2639) F dL_law__2219 (by decide) ?_
    refine v_widen (k := cells + 10) (n := slots + 60) (by omega) (by omega) ?_
    exact v_sub (fun ls h9 => lv_sub h9 [2, 3, 4, 5, 6] rfl) (kk _ _ hI2)
set_option maxHeartbeats 4000000 in
set_option maxRecDepth 100000 in
theorem lc_25 {g : gT} {p : Program} {l : Launch} {e : Env} {s : State} {m : MethodId} {args : Array Value} {below : List Frame} {meth : Method} {c9 : Code} {cells slots : Nat} {Q : State → Prop} {b L n : Nat} {xs : Nat → Int32} {M : Mem} {st : St} (F : Fx g p s m args c9 cL_law_ 7 uL_law_ RL) (hb : gB g = s.heap.size) (hst : l.stackTraces = false) (tX : Ty g 10 0) (tM : Ty g 11 250) (tO : Ty g 17 331) (h332 : 332 ∉ gL g) (h333 : 333 ∉ gL g) (hX : va_X b L xs s s.heap) (hbl : b < s.heap.size) (hn : n + 7 ≤ L) (hL : L < 100000) (hI : Inv M st) (hC : cells + 10 ≤ 601024) (hD : slots + 60 ≤ 7293034) (kk : ∀ M' st', Inv M' st' → V g p l e room_1 s m args below meth c9 7 (cells + 10) (slots + 60) Q 2639 [(4, .int (nI n)), (3, .ref (gAd g 331)), (2, .ref (gAd g 250)), (1, .ref (gAd g 0)), (0, .ref b)] [] M') : V g p l e room_1 s m args below meth c9 7 cells slots Q 2222 [(4, .int (nI n)), (3, .ref (gAd g 331)), (2, .ref (gAd g 250)), (1, .ref (gAd g 0)), (0, .ref b)] [] M := by
  obtain ⟨t, M1, r, M2, e1, e2, e3, e4, hI2⟩ := cb_hours hI (xs (n + 1))
  dsimp only at e2
  refine v_aload_n F dL_law__2222 rfl 3 rfl ?_
  refine v_arg F hb hX hbl 1 (by omega) hL 4 0 rfl rfl dL_law__2223 dL_law__2224 dL_law__2226 (by decide) dL_law__2227 dL_law__2228 ?_
  refine v_aload_n F dL_law__2229 rfl 1 rfl ?_
  refine v_callSXi (As := [.ref (gAd g 0), .int (xs (n + 1)), .ref (gAd g 331)]) (rest := []) F (c_L_hours l hst F.2.2.1 tX tO e1) (vx_cwSW 3 F.1.2.2.2.2 (gU_SX ml_L_205 st_yL_hours ini_L cd_L_hours) rfl rfl rfl (by decide +kernel) ⟨Nat.le_of_ble_eq_true rfl, Nat.le_of_ble_eq_true rfl⟩) rfl rfl (Nat.le_of_ble_eq_true rfl) dL_law__2230 ⟨by show _ ≤ 601024; omega, by show _ ≤ 7293034; omega⟩ ?_
  refine v_istore (lv' := [(5, .int t), (4, .int (nI n)), (3, .ref (gAd g 331)), (2, .ref (gAd g 250)), (1, .ref (gAd g 0)), (0, .ref b)]) F dL_law__2233 (by decide) rfl ?_
  refine v_aload_n F dL_law__2235 rfl 3 rfl ?_
  refine v_arg F hb hX hbl 1 (by omega) hL 5 1 rfl rfl dL_law__2236 dL_law__2237 dL_law__2239 (by decide) dL_law__2240 dL_law__2241 ?_
  refine v_callVi (As := [.int (xs (n + 1))]) (rest := []) F (c_X11_hours l F.2.2.1 tM e2) (cwV 1 F.1.2.2.2.2 (gU_V ml_L_207 im_yX11_hours se_yX11_hours ini_X11 cd_X11_hours) rfl rfl rfl (by decide +kernel) ⟨Nat.le_of_ble_eq_true rfl, Nat.le_of_ble_eq_true rfl⟩) tM (by decide) rfl rfl rfl (Nat.le_of_ble_eq_true rfl) dL_law__2242 ⟨by show _ ≤ 601024; omega, by show _ ≤ 7293034; omega⟩ ?_
  refine v_istore (lv' := [(6, .int r), (5, .int t), (4, .int (nI n)), (3, .ref (gAd g 331)), (2, .ref (gAd g 250)), (1, .ref (gAd g 0)), (0, .ref b)]) F dL_law__2245 (by decide) rfl ?_
  refine v_aload_n F dL_law__2247 rfl 4 rfl ?_
  refine v_callVi (As := []) (rest := []) F (c_X11_thrown l F.2.2.1 tM (rfl : f_X11_thrown M2 250 = some (M2 250 0, M2))) (cwV 0 F.1.2.2.2.2 (gU_V ml_L_124 im_yX11_thrown se_yX11_thrown ini_X11 cd_X11_thrown) rfl rfl rfl (by decide +kernel) ⟨Nat.le_of_ble_eq_true rfl, Nat.le_of_ble_eq_true rfl⟩) tM (by decide) rfl rfl rfl (Nat.le_of_ble_eq_true rfl) dL_law__2248 ⟨by show _ ≤ 601024; omega, by show _ ≤ 7293034; omega⟩ ?_
  refine v_iload F dL_law__2251 1 rfl ?_
  refine v_icmp_eq (tgt := 2258) F dL_law__2253 (by decide) (fun _ => ?_) (fun h => absurd e3 h)
  refine v_iload F dL_law__2258 1 rfl ?_
  refine v_if_ne (tgt := 2275) F dL_law__2260 (by decide) (fun _ => ?_) (fun ht => ?_)
  · refine v_goto (tgt := 2639) F dL_law__2275 (by decide) ?_
    refine v_widen (k := cells + 10) (n := slots + 60) (by omega) (by omega) ?_
    exact v_sub (fun ls h9 => lv_sub h9 [2, 3, 4, 5, 6] rfl) (kk _ _ hI2)
  · refine v_aload_n F dL_law__2263 rfl 3 rfl ?_
    refine v_iconst (v := 0) F dL_law__2264 (by decide) ?_
    refine v_lald F tO out_in dL_law__2265 ?_
    refine v_iload F dL_law__2266 0 rfl ?_
    refine v_i2l F dL_law__2268 rfl ?_
    rw [show (M2 250 0, M2).snd 331 (0 : Int32).toNatClampNeg = r from e4 ht]
    refine v_lcmp F dL_law__2269 ?_
    rw [cmp_eq]
    refine v_if_eq (tgt := 2275) F dL_law__2270 (by decide) (fun _ => ?_) (fun h => absurd rfl h)
    refine v_goto (tgt := 2639) F dL_law__2275 (by decide) ?_
    refine v_widen (k := cells + 10) (n := slots + 60) (by omega) (by omega) ?_
    exact v_sub (fun ls h9 => lv_sub h9 [2, 3, 4, 5, 6] rfl) (kk _ _ hI2)
set_option maxHeartbeats 4000000 in
set_option maxRecDepth 100000 in
theorem lc_26 {g : gT} {p : Program} {l : Launch} {e : Env} {s : State} {m : MethodId} {args : Array Value} {below : List Frame} {meth : Method} {c9 : Code} {cells slots : Nat} {Q : State → Prop} {b L n : Nat} {xs : Nat → Int32} {M : Mem} {st : St} (F : Fx g p s m args c9 cL_law_ 7 uL_law_ RL) (hb : gB g = s.heap.size) (hst : l.stackTraces = false) (tX : Ty g 10 0) (tM : Ty g 11 250) (tO : Ty g 17 331) (h332 : 332 ∉ gL g) (h333 : 333 ∉ gL g) (hX : va_X b L xs s s.heap) (hbl : b < s.heap.size) (hn : n + 7 ≤ L) (hL : L < 100000) (hI : Inv M st) (hC : cells + 10 ≤ 601024) (hD : slots + 60 ≤ 7293034) (kk : ∀ M' st', Inv M' st' → V g p l e room_1 s m args below meth c9 7 (cells + 10) (slots + 60) Q 2639 [(4, .int (nI n)), (3, .ref (gAd g 331)), (2, .ref (gAd g 250)), (1, .ref (gAd g 0)), (0, .ref b)] [] M') : V g p l e room_1 s m args below meth c9 7 cells slots Q 2278 [(4, .int (nI n)), (3, .ref (gAd g 331)), (2, .ref (gAd g 250)), (1, .ref (gAd g 0)), (0, .ref b)] [] M := by
  obtain ⟨t, M1, r, M2, e1, e2, e3, e4, hI2⟩ := cb_paper hI (xs (n + 1)) (xs (n + 2)) (xs (n + 3))
  dsimp only at e2
  refine v_aload_n F dL_law__2278 rfl 3 rfl ?_
  refine v_arg F hb hX hbl 1 (by omega) hL 4 0 rfl rfl dL_law__2279 dL_law__2280 dL_law__2282 (by decide) dL_law__2283 dL_law__2284 ?_
  refine v_arg F hb hX hbl 2 (by omega) hL 4 0 rfl rfl dL_law__2285 dL_law__2286 dL_law__2288 (by decide) dL_law__2289 dL_law__2290 ?_
  refine v_arg F hb hX hbl 3 (by omega) hL 4 0 rfl rfl dL_law__2291 dL_law__2292 dL_law__2294 (by decide) dL_law__2295 dL_law__2296 ?_
  refine v_aload_n F dL_law__2297 rfl 1 rfl ?_
  refine v_callSXi (As := [.ref (gAd g 0), .int (xs (n + 1)), .int (xs (n + 2)), .int (xs (n + 3)), .ref (gAd g 331)]) (rest := []) F (c_L_paper l hst F.2.2.1 tX tO e1) (vx_cwSW 5 F.1.2.2.2.2 (gU_SX ml_L_208 st_yL_paper ini_L cd_L_paper) rfl rfl rfl (by decide +kernel) ⟨Nat.le_of_ble_eq_true rfl, Nat.le_of_ble_eq_true rfl⟩) rfl rfl (Nat.le_of_ble_eq_true rfl) dL_law__2298 ⟨by show _ ≤ 601024; omega, by show _ ≤ 7293034; omega⟩ ?_
  refine v_istore (lv' := [(5, .int t), (4, .int (nI n)), (3, .ref (gAd g 331)), (2, .ref (gAd g 250)), (1, .ref (gAd g 0)), (0, .ref b)]) F dL_law__2301 (by decide) rfl ?_
  refine v_aload_n F dL_law__2303 rfl 3 rfl ?_
  refine v_arg F hb hX hbl 1 (by omega) hL 5 1 rfl rfl dL_law__2304 dL_law__2305 dL_law__2307 (by decide) dL_law__2308 dL_law__2309 ?_
  refine v_arg F hb hX hbl 2 (by omega) hL 5 1 rfl rfl dL_law__2310 dL_law__2311 dL_law__2313 (by decide) dL_law__2314 dL_law__2315 ?_
  refine v_arg F hb hX hbl 3 (by omega) hL 5 1 rfl rfl dL_law__2316 dL_law__2317 dL_law__2319 (by decide) dL_law__2320 dL_law__2321 ?_
  refine v_callVi (As := [.int (xs (n + 1)), .int (xs (n + 2)), .int (xs (n + 3))]) (rest := []) F (c_X11_paper l F.2.2.1 tM e2) (cwV 3 F.1.2.2.2.2 (gU_V ml_L_210 im_yX11_paper se_yX11_paper ini_X11 cd_X11_paper) rfl rfl rfl (by decide +kernel) ⟨Nat.le_of_ble_eq_true rfl, Nat.le_of_ble_eq_true rfl⟩) tM (by decide) rfl rfl rfl (Nat.le_of_ble_eq_true rfl) dL_law__2322 ⟨by show _ ≤ 601024; omega, by show _ ≤ 7293034; omega⟩ ?_
  refine v_istore (lv' := [(6, .int r), (5, .int t), (4, .int (nI n)), (3, .ref (gAd g 331)), (2, .ref (gAd g 250)), (1, .ref (gAd g 0)), (0, .ref b)]) F dL_law__2325 (by decide) rfl ?_
  refine v_aload_n F dL_law__2327 rfl 4 rfl ?_
  refine v_callVi (As := []) (rest := []) F (c_X11_thrown l F.2.2.1 tM (rfl : f_X11_thrown M2 250 = some (M2 250 0, M2))) (cwV 0 F.1.2.2.2.2 (gU_V ml_L_124 im_yX11_thrown se_yX11_thrown ini_X11 cd_X11_thrown) rfl rfl rfl (by decide +kernel) ⟨Nat.le_of_ble_eq_true rfl, Nat.le_of_ble_eq_true rfl⟩) tM (by decide) rfl rfl rfl (Nat.le_of_ble_eq_true rfl) dL_law__2328 ⟨by show _ ≤ 601024; omega, by show _ ≤ 7293034; omega⟩ ?_
  refine v_iload F dL_law__2331 1 rfl ?_
  refine v_icmp_eq (tgt := 2338) F dL_law__2333 (by decide) (fun _ => ?_) (fun h => absurd e3 h)
  refine v_iload F dL_law__2338 1 rfl ?_
  refine v_if_ne (tgt := 2355) F dL_law__2340 (by decide) (fun _ => ?_) (fun ht => ?_)
  · refine v_goto (tgt := 2639) F dL_law__2355 (by decide) ?_
    refine v_widen (k := cells + 10) (n := slots + 60) (by omega) (by omega) ?_
    exact v_sub (fun ls h9 => lv_sub h9 [2, 3, 4, 5, 6] rfl) (kk _ _ hI2)
  · refine v_aload_n F dL_law__2343 rfl 3 rfl ?_
    refine v_iconst (v := 0) F dL_law__2344 (by decide) ?_
    refine v_lald F tO out_in dL_law__2345 ?_
    refine v_iload F dL_law__2346 0 rfl ?_
    refine v_i2l F dL_law__2348 rfl ?_
    rw [show (M2 250 0, M2).snd 331 (0 : Int32).toNatClampNeg = r from e4 ht]
    refine v_lcmp F dL_law__2349 ?_
    rw [cmp_eq]
    refine v_if_eq (tgt := 2355) F dL_law__2350 (by decide) (fun _ => ?_) (fun h => absurd rfl h)
    refine v_goto (tgt := 2639) F dL_law__2355 (by decide) ?_
    refine v_widen (k := cells + 10) (n := slots + 60) (by omega) (by omega) ?_
    exact v_sub (fun ls h9 => lv_sub h9 [2, 3, 4, 5, 6] rfl) (kk _ _ hI2)
set_option maxHeartbeats 4000000 in
set_option maxRecDepth 100000 in
theorem lc_27 {g : gT} {p : Program} {l : Launch} {e : Env} {s : State} {m : MethodId} {args : Array Value} {below : List Frame} {meth : Method} {c9 : Code} {cells slots : Nat} {Q : State → Prop} {b L n : Nat} {xs : Nat → Int32} {M : Mem} {st : St} (F : Fx g p s m args c9 cL_law_ 7 uL_law_ RL) (hb : gB g = s.heap.size) (hst : l.stackTraces = false) (tX : Ty g 10 0) (tM : Ty g 11 250) (tO : Ty g 17 331) (h332 : 332 ∉ gL g) (h333 : 333 ∉ gL g) (hX : va_X b L xs s s.heap) (hbl : b < s.heap.size) (hn : n + 7 ≤ L) (hL : L < 100000) (hI : Inv M st) (hC : cells + 10 ≤ 601024) (hD : slots + 60 ≤ 7293034) (kk : ∀ M' st', Inv M' st' → V g p l e room_1 s m args below meth c9 7 (cells + 10) (slots + 60) Q 2639 [(4, .int (nI n)), (3, .ref (gAd g 331)), (2, .ref (gAd g 250)), (1, .ref (gAd g 0)), (0, .ref b)] [] M') : V g p l e room_1 s m args below meth c9 7 cells slots Q 2358 [(4, .int (nI n)), (3, .ref (gAd g 331)), (2, .ref (gAd g 250)), (1, .ref (gAd g 0)), (0, .ref b)] [] M := by
  obtain ⟨t, M1, r, M2, e1, e2, e3, e4, hI2⟩ := cb_known hI (xs (n + 1))
  dsimp only at e2
  refine v_aload_n F dL_law__2358 rfl 3 rfl ?_
  refine v_arg F hb hX hbl 1 (by omega) hL 4 0 rfl rfl dL_law__2359 dL_law__2360 dL_law__2362 (by decide) dL_law__2363 dL_law__2364 ?_
  refine v_aload_n F dL_law__2365 rfl 1 rfl ?_
  refine v_callSXi (As := [.ref (gAd g 0), .int (xs (n + 1)), .ref (gAd g 331)]) (rest := []) F (c_L_known l hst F.2.2.1 tX tO e1) (vx_cwSW 3 F.1.2.2.2.2 (gU_SX ml_L_211 st_yL_known ini_L cd_L_known) rfl rfl rfl (by decide +kernel) ⟨Nat.le_of_ble_eq_true rfl, Nat.le_of_ble_eq_true rfl⟩) rfl rfl (Nat.le_of_ble_eq_true rfl) dL_law__2366 ⟨by show _ ≤ 601024; omega, by show _ ≤ 7293034; omega⟩ ?_
  refine v_istore (lv' := [(5, .int t), (4, .int (nI n)), (3, .ref (gAd g 331)), (2, .ref (gAd g 250)), (1, .ref (gAd g 0)), (0, .ref b)]) F dL_law__2369 (by decide) rfl ?_
  refine v_aload_n F dL_law__2371 rfl 3 rfl ?_
  refine v_arg F hb hX hbl 1 (by omega) hL 5 1 rfl rfl dL_law__2372 dL_law__2373 dL_law__2375 (by decide) dL_law__2376 dL_law__2377 ?_
  refine v_callVi (As := [.int (xs (n + 1))]) (rest := []) F (c_X11_known l F.2.2.1 tM e2) (cwV 1 F.1.2.2.2.2 (gU_V ml_L_213 im_yX11_known se_yX11_known ini_X11 cd_X11_known) rfl rfl rfl (by decide +kernel) ⟨Nat.le_of_ble_eq_true rfl, Nat.le_of_ble_eq_true rfl⟩) tM (by decide) rfl rfl rfl (Nat.le_of_ble_eq_true rfl) dL_law__2378 ⟨by show _ ≤ 601024; omega, by show _ ≤ 7293034; omega⟩ ?_
  refine v_istore (lv' := [(6, .int r), (5, .int t), (4, .int (nI n)), (3, .ref (gAd g 331)), (2, .ref (gAd g 250)), (1, .ref (gAd g 0)), (0, .ref b)]) F dL_law__2381 (by decide) rfl ?_
  refine v_aload_n F dL_law__2383 rfl 4 rfl ?_
  refine v_callVi (As := []) (rest := []) F (c_X11_thrown l F.2.2.1 tM (rfl : f_X11_thrown M2 250 = some (M2 250 0, M2))) (cwV 0 F.1.2.2.2.2 (gU_V ml_L_124 im_yX11_thrown se_yX11_thrown ini_X11 cd_X11_thrown) rfl rfl rfl (by decide +kernel) ⟨Nat.le_of_ble_eq_true rfl, Nat.le_of_ble_eq_true rfl⟩) tM (by decide) rfl rfl rfl (Nat.le_of_ble_eq_true rfl) dL_law__2384 ⟨by show _ ≤ 601024; omega, by show _ ≤ 7293034; omega⟩ ?_
  refine v_iload F dL_law__2387 1 rfl ?_
  refine v_icmp_eq (tgt := 2394) F dL_law__2389 (by decide) (fun _ => ?_) (fun h => absurd e3 h)
  refine v_iload F dL_law__2394 1 rfl ?_
  refine v_if_ne (tgt := 2411) F dL_law__2396 (by decide) (fun _ => ?_) (fun ht => ?_)
  · refine v_goto (tgt := 2639) F dL_law__2411 (by decide) ?_
    refine v_widen (k := cells + 10) (n := slots + 60) (by omega) (by omega) ?_
    exact v_sub (fun ls h9 => lv_sub h9 [2, 3, 4, 5, 6] rfl) (kk _ _ hI2)
  · refine v_aload_n F dL_law__2399 rfl 3 rfl ?_
    refine v_iconst (v := 0) F dL_law__2400 (by decide) ?_
    refine v_lald F tO out_in dL_law__2401 ?_
    refine v_iload F dL_law__2402 0 rfl ?_
    refine v_i2l F dL_law__2404 rfl ?_
    rw [show (M2 250 0, M2).snd 331 (0 : Int32).toNatClampNeg = r from e4 ht]
    refine v_lcmp F dL_law__2405 ?_
    rw [cmp_eq]
    refine v_if_eq (tgt := 2411) F dL_law__2406 (by decide) (fun _ => ?_) (fun h => absurd rfl h)
    refine v_goto (tgt := 2639) F dL_law__2411 (by decide) ?_
    refine v_widen (k := cells + 10) (n := slots + 60) (by omega) (by omega) ?_
    exact v_sub (fun ls h9 => lv_sub h9 [2, 3, 4, 5, 6] rfl) (kk _ _ hI2)
set_option maxHeartbeats 4000000 in
set_option maxRecDepth 100000 in
theorem lc_28 {g : gT} {p : Program} {l : Launch} {e : Env} {s : State} {m : MethodId} {args : Array Value} {below : List Frame} {meth : Method} {c9 : Code} {cells slots : Nat} {Q : State → Prop} {b L n : Nat} {xs : Nat → Int32} {M : Mem} {st : St} (F : Fx g p s m args c9 cL_law_ 7 uL_law_ RL) (hb : gB g = s.heap.size) (hst : l.stackTraces = false) (tX : Ty g 10 0) (tM : Ty g 11 250) (tO : Ty g 17 331) (h332 : 332 ∉ gL g) (h333 : 333 ∉ gL g) (hX : va_X b L xs s s.heap) (hbl : b < s.heap.size) (hn : n + 7 ≤ L) (hL : L < 100000) (hI : Inv M st) (hC : cells + 10 ≤ 601024) (hD : slots + 60 ≤ 7293034) (kk : ∀ M' st', Inv M' st' → V g p l e room_1 s m args below meth c9 7 (cells + 10) (slots + 60) Q 2639 [(4, .int (nI n)), (3, .ref (gAd g 331)), (2, .ref (gAd g 250)), (1, .ref (gAd g 0)), (0, .ref b)] [] M') : V g p l e room_1 s m args below meth c9 7 cells slots Q 2414 [(4, .int (nI n)), (3, .ref (gAd g 331)), (2, .ref (gAd g 250)), (1, .ref (gAd g 0)), (0, .ref b)] [] M := by
  obtain ⟨t, M1, r, M2, e1, e2, e3, e4, hI2⟩ := cb_could hI (xs (n + 1))
  dsimp only at e2
  refine v_aload_n F dL_law__2414 rfl 3 rfl ?_
  refine v_arg F hb hX hbl 1 (by omega) hL 4 0 rfl rfl dL_law__2415 dL_law__2416 dL_law__2418 (by decide) dL_law__2419 dL_law__2420 ?_
  refine v_aload_n F dL_law__2421 rfl 1 rfl ?_
  refine v_callSXi (As := [.ref (gAd g 0), .int (xs (n + 1)), .ref (gAd g 331)]) (rest := []) F (c_L_could l hst F.2.2.1 tX tO e1) (vx_cwSW 3 F.1.2.2.2.2 (gU_SX ml_L_214 st_yL_could ini_L cd_L_could) rfl rfl rfl (by decide +kernel) ⟨Nat.le_of_ble_eq_true rfl, Nat.le_of_ble_eq_true rfl⟩) rfl rfl (Nat.le_of_ble_eq_true rfl) dL_law__2422 ⟨by show _ ≤ 601024; omega, by show _ ≤ 7293034; omega⟩ ?_
  refine v_istore (lv' := [(5, .int t), (4, .int (nI n)), (3, .ref (gAd g 331)), (2, .ref (gAd g 250)), (1, .ref (gAd g 0)), (0, .ref b)]) F dL_law__2425 (by decide) rfl ?_
  refine v_aload_n F dL_law__2427 rfl 3 rfl ?_
  refine v_arg F hb hX hbl 1 (by omega) hL 5 1 rfl rfl dL_law__2428 dL_law__2429 dL_law__2431 (by decide) dL_law__2432 dL_law__2433 ?_
  refine v_callVi (As := [.int (xs (n + 1))]) (rest := []) F (c_X11_could l F.2.2.1 tM e2) (cwV 1 F.1.2.2.2.2 (gU_V ml_L_216 im_yX11_could se_yX11_could ini_X11 cd_X11_could) rfl rfl rfl (by decide +kernel) ⟨Nat.le_of_ble_eq_true rfl, Nat.le_of_ble_eq_true rfl⟩) tM (by decide) rfl rfl rfl (Nat.le_of_ble_eq_true rfl) dL_law__2434 ⟨by show _ ≤ 601024; omega, by show _ ≤ 7293034; omega⟩ ?_
  refine v_istore (lv' := [(6, .int r), (5, .int t), (4, .int (nI n)), (3, .ref (gAd g 331)), (2, .ref (gAd g 250)), (1, .ref (gAd g 0)), (0, .ref b)]) F dL_law__2437 (by decide) rfl ?_
  refine v_aload_n F dL_law__2439 rfl 4 rfl ?_
  refine v_callVi (As := []) (rest := []) F (c_X11_thrown l F.2.2.1 tM (rfl : f_X11_thrown M2 250 = some (M2 250 0, M2))) (cwV 0 F.1.2.2.2.2 (gU_V ml_L_124 im_yX11_thrown se_yX11_thrown ini_X11 cd_X11_thrown) rfl rfl rfl (by decide +kernel) ⟨Nat.le_of_ble_eq_true rfl, Nat.le_of_ble_eq_true rfl⟩) tM (by decide) rfl rfl rfl (Nat.le_of_ble_eq_true rfl) dL_law__2440 ⟨by show _ ≤ 601024; omega, by show _ ≤ 7293034; omega⟩ ?_
  refine v_iload F dL_law__2443 1 rfl ?_
  refine v_icmp_eq (tgt := 2450) F dL_law__2445 (by decide) (fun _ => ?_) (fun h => absurd e3 h)
  refine v_iload F dL_law__2450 1 rfl ?_
  refine v_if_ne (tgt := 2467) F dL_law__2452 (by decide) (fun _ => ?_) (fun ht => ?_)
  · refine v_goto (tgt := 2639) F dL_law__2467 (by decide) ?_
    refine v_widen (k := cells + 10) (n := slots + 60) (by omega) (by omega) ?_
    exact v_sub (fun ls h9 => lv_sub h9 [2, 3, 4, 5, 6] rfl) (kk _ _ hI2)
  · refine v_aload_n F dL_law__2455 rfl 3 rfl ?_
    refine v_iconst (v := 0) F dL_law__2456 (by decide) ?_
    refine v_lald F tO out_in dL_law__2457 ?_
    refine v_iload F dL_law__2458 0 rfl ?_
    refine v_i2l F dL_law__2460 rfl ?_
    rw [show (M2 250 0, M2).snd 331 (0 : Int32).toNatClampNeg = r from e4 ht]
    refine v_lcmp F dL_law__2461 ?_
    rw [cmp_eq]
    refine v_if_eq (tgt := 2467) F dL_law__2462 (by decide) (fun _ => ?_) (fun h => absurd rfl h)
    refine v_goto (tgt := 2639) F dL_law__2467 (by decide) ?_
    refine v_widen (k := cells + 10) (n := slots + 60) (by omega) (by omega) ?_
    exact v_sub (fun ls h9 => lv_sub h9 [2, 3, 4, 5, 6] rfl) (kk _ _ hI2)
set_option maxHeartbeats 4000000 in
set_option maxRecDepth 100000 in
theorem lc_29 {g : gT} {p : Program} {l : Launch} {e : Env} {s : State} {m : MethodId} {args : Array Value} {below : List Frame} {meth : Method} {c9 : Code} {cells slots : Nat} {Q : State → Prop} {b L n : Nat} {xs : Nat → Int32} {M : Mem} {st : St} (F : Fx g p s m args c9 cL_law_ 7 uL_law_ RL) (hb : gB g = s.heap.size) (hst : l.stackTraces = false) (tX : Ty g 10 0) (tM : Ty g 11 250) (tO : Ty g 17 331) (h332 : 332 ∉ gL g) (h333 : 333 ∉ gL g) (hX : va_X b L xs s s.heap) (hbl : b < s.heap.size) (hn : n + 7 ≤ L) (hL : L < 100000) (hI : Inv M st) (hC : cells + 10 ≤ 601024) (hD : slots + 60 ≤ 7293034) (kk : ∀ M' st', Inv M' st' → V g p l e room_1 s m args below meth c9 7 (cells + 10) (slots + 60) Q 2639 [(4, .int (nI n)), (3, .ref (gAd g 331)), (2, .ref (gAd g 250)), (1, .ref (gAd g 0)), (0, .ref b)] [] M') : V g p l e room_1 s m args below meth c9 7 cells slots Q 2470 [(4, .int (nI n)), (3, .ref (gAd g 331)), (2, .ref (gAd g 250)), (1, .ref (gAd g 0)), (0, .ref b)] [] M := by
  obtain ⟨t, M1, r, M2, e1, e2, e3, e4, hI2⟩ := cb_shut hI (xs (n + 1)) (xs (n + 2)) (xs (n + 3)) (xs (n + 4)) (xs (n + 5)) (xs (n + 6))
  dsimp only at e2
  refine v_aload_n F dL_law__2470 rfl 3 rfl ?_
  refine v_arg F hb hX hbl 1 (by omega) hL 4 0 rfl rfl dL_law__2471 dL_law__2472 dL_law__2474 (by decide) dL_law__2475 dL_law__2476 ?_
  refine v_arg F hb hX hbl 2 (by omega) hL 4 0 rfl rfl dL_law__2477 dL_law__2478 dL_law__2480 (by decide) dL_law__2481 dL_law__2482 ?_
  refine v_arg F hb hX hbl 3 (by omega) hL 4 0 rfl rfl dL_law__2483 dL_law__2484 dL_law__2486 (by decide) dL_law__2487 dL_law__2488 ?_
  refine v_arg F hb hX hbl 4 (by omega) hL 4 0 rfl rfl dL_law__2489 dL_law__2490 dL_law__2492 (by decide) dL_law__2493 dL_law__2494 ?_
  refine v_arg F hb hX hbl 5 (by omega) hL 4 0 rfl rfl dL_law__2495 dL_law__2496 dL_law__2498 (by decide) dL_law__2499 dL_law__2500 ?_
  refine v_arg6 F hb hX hbl 6 (by omega) hL 4 0 rfl rfl dL_law__2501 dL_law__2502 dL_law__2504 (by decide) dL_law__2506 dL_law__2507 ?_
  refine v_aload_n F dL_law__2508 rfl 1 rfl ?_
  refine v_callSXi (As := [.ref (gAd g 0), .int (xs (n + 1)), .int (xs (n + 2)), .int (xs (n + 3)), .int (xs (n + 4)), .int (xs (n + 5)), .int (xs (n + 6)), .ref (gAd g 331)]) (rest := []) F (c_L_shut l hst F.2.2.1 tX tO e1) (vx_cwSW 8 F.1.2.2.2.2 (gU_SX ml_L_217 st_yL_shut ini_L cd_L_shut) rfl rfl rfl (by decide +kernel) ⟨Nat.le_of_ble_eq_true rfl, Nat.le_of_ble_eq_true rfl⟩) rfl rfl (Nat.le_of_ble_eq_true rfl) dL_law__2509 ⟨by show _ ≤ 601024; omega, by show _ ≤ 7293034; omega⟩ ?_
  refine v_istore (lv' := [(5, .int t), (4, .int (nI n)), (3, .ref (gAd g 331)), (2, .ref (gAd g 250)), (1, .ref (gAd g 0)), (0, .ref b)]) F dL_law__2512 (by decide) rfl ?_
  refine v_aload_n F dL_law__2514 rfl 3 rfl ?_
  refine v_arg F hb hX hbl 1 (by omega) hL 5 1 rfl rfl dL_law__2515 dL_law__2516 dL_law__2518 (by decide) dL_law__2519 dL_law__2520 ?_
  refine v_arg F hb hX hbl 2 (by omega) hL 5 1 rfl rfl dL_law__2521 dL_law__2522 dL_law__2524 (by decide) dL_law__2525 dL_law__2526 ?_
  refine v_arg F hb hX hbl 3 (by omega) hL 5 1 rfl rfl dL_law__2527 dL_law__2528 dL_law__2530 (by decide) dL_law__2531 dL_law__2532 ?_
  refine v_arg F hb hX hbl 4 (by omega) hL 5 1 rfl rfl dL_law__2533 dL_law__2534 dL_law__2536 (by decide) dL_law__2537 dL_law__2538 ?_
  refine v_arg F hb hX hbl 5 (by omega) hL 5 1 rfl rfl dL_law__2539 dL_law__2540 dL_law__2542 (by decide) dL_law__2543 dL_law__2544 ?_
  refine v_arg6 F hb hX hbl 6 (by omega) hL 5 1 rfl rfl dL_law__2545 dL_law__2546 dL_law__2548 (by decide) dL_law__2550 dL_law__2551 ?_
  refine v_callVi (As := [.int (xs (n + 1)), .int (xs (n + 2)), .int (xs (n + 3)), .int (xs (n + 4)), .int (xs (n + 5)), .int (xs (n + 6))]) (rest := []) F (c_X11_shut l F.2.2.1 tM e2) (cwV 6 F.1.2.2.2.2 (gU_V ml_L_219 im_yX11_shut se_yX11_shut ini_X11 cd_X11_shut) rfl rfl rfl (by decide +kernel) ⟨Nat.le_of_ble_eq_true rfl, Nat.le_of_ble_eq_true rfl⟩) tM (by decide) rfl rfl rfl (Nat.le_of_ble_eq_true rfl) dL_law__2552 ⟨by show _ ≤ 601024; omega, by show _ ≤ 7293034; omega⟩ ?_
  refine v_istore (lv' := [(6, .int r), (5, .int t), (4, .int (nI n)), (3, .ref (gAd g 331)), (2, .ref (gAd g 250)), (1, .ref (gAd g 0)), (0, .ref b)]) F dL_law__2555 (by decide) rfl ?_
  refine v_aload_n F dL_law__2557 rfl 4 rfl ?_
  refine v_callVi (As := []) (rest := []) F (c_X11_thrown l F.2.2.1 tM (rfl : f_X11_thrown M2 250 = some (M2 250 0, M2))) (cwV 0 F.1.2.2.2.2 (gU_V ml_L_124 im_yX11_thrown se_yX11_thrown ini_X11 cd_X11_thrown) rfl rfl rfl (by decide +kernel) ⟨Nat.le_of_ble_eq_true rfl, Nat.le_of_ble_eq_true rfl⟩) tM (by decide) rfl rfl rfl (Nat.le_of_ble_eq_true rfl) dL_law__2558 ⟨by show _ ≤ 601024; omega, by show _ ≤ 7293034; omega⟩ ?_
  refine v_iload F dL_law__2561 1 rfl ?_
  refine v_icmp_eq (tgt := 2568) F dL_law__2563 (by decide) (fun _ => ?_) (fun h => absurd e3 h)
  refine v_iload F dL_law__2568 1 rfl ?_
  refine v_if_ne (tgt := 2585) F dL_law__2570 (by decide) (fun _ => ?_) (fun ht => ?_)
  · refine v_goto (tgt := 2639) F dL_law__2585 (by decide) ?_
    refine v_widen (k := cells + 10) (n := slots + 60) (by omega) (by omega) ?_
    exact v_sub (fun ls h9 => lv_sub h9 [2, 3, 4, 5, 6] rfl) (kk _ _ hI2)
  · refine v_aload_n F dL_law__2573 rfl 3 rfl ?_
    refine v_iconst (v := 0) F dL_law__2574 (by decide) ?_
    refine v_lald F tO out_in dL_law__2575 ?_
    refine v_iload F dL_law__2576 0 rfl ?_
    refine v_i2l F dL_law__2578 rfl ?_
    rw [show (M2 250 0, M2).snd 331 (0 : Int32).toNatClampNeg = r from e4 ht]
    refine v_lcmp F dL_law__2579 ?_
    rw [cmp_eq]
    refine v_if_eq (tgt := 2585) F dL_law__2580 (by decide) (fun _ => ?_) (fun h => absurd rfl h)
    refine v_goto (tgt := 2639) F dL_law__2585 (by decide) ?_
    refine v_widen (k := cells + 10) (n := slots + 60) (by omega) (by omega) ?_
    exact v_sub (fun ls h9 => lv_sub h9 [2, 3, 4, 5, 6] rfl) (kk _ _ hI2)
set_option maxHeartbeats 4000000 in
set_option maxRecDepth 100000 in
theorem lc_30 {g : gT} {p : Program} {l : Launch} {e : Env} {s : State} {m : MethodId} {args : Array Value} {below : List Frame} {meth : Method} {c9 : Code} {cells slots : Nat} {Q : State → Prop} {b L n : Nat} {xs : Nat → Int32} {M : Mem} {st : St} (F : Fx g p s m args c9 cL_law_ 7 uL_law_ RL) (hb : gB g = s.heap.size) (hst : l.stackTraces = false) (tX : Ty g 10 0) (tM : Ty g 11 250) (tO : Ty g 17 331) (h332 : 332 ∉ gL g) (h333 : 333 ∉ gL g) (hX : va_X b L xs s s.heap) (hbl : b < s.heap.size) (hn : n + 7 ≤ L) (hL : L < 100000) (hI : Inv M st) (hC : cells + 10 ≤ 601024) (hD : slots + 60 ≤ 7293034) (kk : ∀ M' st', Inv M' st' → V g p l e room_1 s m args below meth c9 7 (cells + 10) (slots + 60) Q 2639 [(4, .int (nI n)), (3, .ref (gAd g 331)), (2, .ref (gAd g 250)), (1, .ref (gAd g 0)), (0, .ref b)] [] M') : V g p l e room_1 s m args below meth c9 7 cells slots Q 2588 [(4, .int (nI n)), (3, .ref (gAd g 331)), (2, .ref (gAd g 250)), (1, .ref (gAd g 0)), (0, .ref b)] [] M := by
  obtain ⟨r, M1, M2, e1, e2, hI2⟩ := cb_image hI 
  dsimp only at e2
  refine v_aload_n F dL_law__2588 rfl 3 rfl ?_
  refine v_callVi (As := []) (rest := []) F (c_X10_image l F.2.2.1 tX e1) (cwV 0 F.1.2.2.2.2 (gU_V ml_L_220 im_yX10_image se_yX10_image ini_X10 cd_X10_image) rfl rfl rfl (by decide +kernel) ⟨Nat.le_of_ble_eq_true rfl, Nat.le_of_ble_eq_true rfl⟩) tX (by decide) rfl rfl rfl (Nat.le_of_ble_eq_true rfl) dL_law__2589 ⟨by show _ ≤ 601024; omega, by show _ ≤ 7293034; omega⟩ ?_
  refine v_aload_n F dL_law__2592 rfl 2 rfl ?_
  refine v_callVi (As := []) (rest := [.int r]) F (c_X11_image l F.2.2.1 tM e2) (cwV 0 F.1.2.2.2.2 (gU_V ml_L_223 im_yX11_image se_yX11_image ini_X11 cd_X11_image) rfl rfl rfl (by decide +kernel) ⟨Nat.le_of_ble_eq_true rfl, Nat.le_of_ble_eq_true rfl⟩) tM (by decide) rfl rfl rfl (Nat.le_of_ble_eq_true rfl) dL_law__2593 ⟨by show _ ≤ 601024; omega, by show _ ≤ 7293034; omega⟩ ?_
  refine v_icmp_eq (tgt := 2639) F dL_law__2596 (by decide) (fun _ => ?_) (fun h => absurd rfl h)
  refine v_widen (k := cells + 10) (n := slots + 60) (by omega) (by omega) ?_
  exact kk _ _ hI2
set_option maxHeartbeats 4000000 in
set_option maxRecDepth 100000 in
theorem lc_31 {g : gT} {p : Program} {l : Launch} {e : Env} {s : State} {m : MethodId} {args : Array Value} {below : List Frame} {meth : Method} {c9 : Code} {cells slots : Nat} {Q : State → Prop} {b L n : Nat} {xs : Nat → Int32} {M : Mem} {st : St} (F : Fx g p s m args c9 cL_law_ 7 uL_law_ RL) (hb : gB g = s.heap.size) (hst : l.stackTraces = false) (tX : Ty g 10 0) (tM : Ty g 11 250) (tO : Ty g 17 331) (h332 : 332 ∉ gL g) (h333 : 333 ∉ gL g) (hX : va_X b L xs s s.heap) (hbl : b < s.heap.size) (hn : n + 7 ≤ L) (hL : L < 100000) (hI : Inv M st) (hC : cells + 10 ≤ 601024) (hD : slots + 60 ≤ 7293034) (kk : ∀ M' st', Inv M' st' → V g p l e room_1 s m args below meth c9 7 (cells + 10) (slots + 60) Q 2639 [(4, .int (nI n)), (3, .ref (gAd g 331)), (2, .ref (gAd g 250)), (1, .ref (gAd g 0)), (0, .ref b)] [] M') : V g p l e room_1 s m args below meth c9 7 cells slots Q 2601 [(4, .int (nI n)), (3, .ref (gAd g 331)), (2, .ref (gAd g 250)), (1, .ref (gAd g 0)), (0, .ref b)] [] M := by
  obtain ⟨r, M1, M2, e1, e2, hI2⟩ := cb_restore hI 
  dsimp only at e2
  refine v_aload_n F dL_law__2601 rfl 3 rfl ?_
  refine v_callVi (As := []) (rest := []) F (c_X10_restore l F.2.2.1 tX e1) (cwV 0 F.1.2.2.2.2 (gU_V ml_L_224 im_yX10_restore se_yX10_restore ini_X10 cd_X10_restore) rfl rfl rfl (by decide +kernel) ⟨Nat.le_of_ble_eq_true rfl, Nat.le_of_ble_eq_true rfl⟩) tX (by decide) rfl rfl rfl (Nat.le_of_ble_eq_true rfl) dL_law__2602 ⟨by show _ ≤ 601024; omega, by show _ ≤ 7293034; omega⟩ ?_
  refine v_aload_n F dL_law__2605 rfl 2 rfl ?_
  refine v_callVi (As := []) (rest := [.int r]) F (c_X11_restore l F.2.2.1 tM e2) (cwV 0 F.1.2.2.2.2 (gU_V ml_L_227 im_yX11_restore se_yX11_restore ini_X11 cd_X11_restore) rfl rfl rfl (by decide +kernel) ⟨Nat.le_of_ble_eq_true rfl, Nat.le_of_ble_eq_true rfl⟩) tM (by decide) rfl rfl rfl (Nat.le_of_ble_eq_true rfl) dL_law__2606 ⟨by show _ ≤ 601024; omega, by show _ ≤ 7293034; omega⟩ ?_
  refine v_icmp_eq (tgt := 2639) F dL_law__2609 (by decide) (fun _ => ?_) (fun h => absurd rfl h)
  refine v_widen (k := cells + 10) (n := slots + 60) (by omega) (by omega) ?_
  exact kk _ _ hI2
set_option maxHeartbeats 4000000 in
set_option maxRecDepth 100000 in
theorem lc_32 {g : gT} {p : Program} {l : Launch} {e : Env} {s : State} {m : MethodId} {args : Array Value} {below : List Frame} {meth : Method} {c9 : Code} {cells slots : Nat} {Q : State → Prop} {b L n : Nat} {xs : Nat → Int32} {M : Mem} {st : St} (F : Fx g p s m args c9 cL_law_ 7 uL_law_ RL) (hb : gB g = s.heap.size) (hst : l.stackTraces = false) (tX : Ty g 10 0) (tM : Ty g 11 250) (tO : Ty g 17 331) (h332 : 332 ∉ gL g) (h333 : 333 ∉ gL g) (hX : va_X b L xs s s.heap) (hbl : b < s.heap.size) (hn : n + 7 ≤ L) (hL : L < 100000) (hI : Inv M st) (hC : cells + 10 ≤ 601024) (hD : slots + 60 ≤ 7293034) (kk : ∀ M' st', Inv M' st' → V g p l e room_1 s m args below meth c9 7 (cells + 10) (slots + 60) Q 2639 [(4, .int (nI n)), (3, .ref (gAd g 331)), (2, .ref (gAd g 250)), (1, .ref (gAd g 0)), (0, .ref b)] [] M') : V g p l e room_1 s m args below meth c9 7 cells slots Q 2614 [(4, .int (nI n)), (3, .ref (gAd g 331)), (2, .ref (gAd g 250)), (1, .ref (gAd g 0)), (0, .ref b)] [] M := by
  obtain ⟨r, M1, M2, e1, e2, hI2⟩ := cb_count hI (xs (n + 1))
  dsimp only at e2
  refine v_aload_n F dL_law__2614 rfl 3 rfl ?_
  refine v_arg F hb hX hbl 1 (by omega) hL 4 0 rfl rfl dL_law__2615 dL_law__2616 dL_law__2618 (by decide) dL_law__2619 dL_law__2620 ?_
  refine v_callVi (As := [.int (xs (n + 1))]) (rest := []) F (c_X10_count l F.2.2.1 tX e1) (cwV 1 F.1.2.2.2.2 (gU_V ml_L_228 im_yX10_count se_yX10_count ini_X10 cd_X10_count) rfl rfl rfl (by decide +kernel) ⟨Nat.le_of_ble_eq_true rfl, Nat.le_of_ble_eq_true rfl⟩) tX (by decide) rfl rfl rfl (Nat.le_of_ble_eq_true rfl) dL_law__2621 ⟨by show _ ≤ 601024; omega, by show _ ≤ 7293034; omega⟩ ?_
  refine v_aload_n F dL_law__2624 rfl 2 rfl ?_
  refine v_arg F hb hX hbl 1 (by omega) hL 4 0 rfl rfl dL_law__2625 dL_law__2626 dL_law__2628 (by decide) dL_law__2629 dL_law__2630 ?_
  refine v_callVi (As := [.int (xs (n + 1))]) (rest := [.int r]) F (c_X11_count l F.2.2.1 tM e2) (cwV 1 F.1.2.2.2.2 (gU_V ml_L_231 im_yX11_count se_yX11_count ini_X11 cd_X11_count) rfl rfl rfl (by decide +kernel) ⟨Nat.le_of_ble_eq_true rfl, Nat.le_of_ble_eq_true rfl⟩) tM (by decide) rfl rfl rfl (Nat.le_of_ble_eq_true rfl) dL_law__2631 ⟨by show _ ≤ 601024; omega, by show _ ≤ 7293034; omega⟩ ?_
  refine v_icmp_eq (tgt := 2639) F dL_law__2634 (by decide) (fun _ => ?_) (fun h => absurd rfl h)
  refine v_widen (k := cells + 10) (n := slots + 60) (by omega) (by omega) ?_
  exact kk _ _ hI2
