/-! The tables are right: methods, by and by. -/
set_option maxRecDepth 100000 in
theorem hq_164 : hP1 164 hc_164 := hP1_of (n := 115) (fun pc h => by unfold hc_164; rw [h]; rfl) (by decide +kernel) (by decide +kernel)
set_option maxRecDepth 100000 in
theorem hq_165 : hP1 165 hc_165 := hP1_of (n := 142) (fun pc h => by unfold hc_165; rw [h]; rfl) (by decide +kernel) (by decide +kernel)
set_option maxRecDepth 100000 in
theorem hq_166 : hP1 166 hc_166 := hP1_of (n := 21) (fun pc h => by unfold hc_166; rw [h]; rfl) (by decide +kernel) (by decide +kernel)
set_option maxRecDepth 100000 in
theorem hq_167 : hP1 167 hc_167 := hP1_of (n := 109) (fun pc h => by unfold hc_167; rw [h]; rfl) (by decide +kernel) (by decide +kernel)
set_option maxRecDepth 100000 in
theorem hq_168 : hP1 168 hc_168 := hP1_of (n := 59) (fun pc h => by unfold hc_168; rw [h]; rfl) (by decide +kernel) (by decide +kernel)
set_option maxRecDepth 100000 in
theorem hq_169 : hP1 169 hc_169 := hP1_of (n := 44) (fun pc h => by unfold hc_169; rw [h]; rfl) (by decide +kernel) (by decide +kernel)
set_option maxRecDepth 100000 in
theorem hq_170 : hP1 170 hc_170 := hP1_of (n := 62) (fun pc h => by unfold hc_170; rw [h]; rfl) (by decide +kernel) (by decide +kernel)
set_option maxRecDepth 100000 in
theorem hq_171 : hP1 171 hc_171 := hP1_of (n := 102) (fun pc h => by unfold hc_171; rw [h]; rfl) (by decide +kernel) (by decide +kernel)
set_option maxRecDepth 100000 in
theorem hq_172 : hP1 172 hc_172 := hP1_of (n := 111) (fun pc h => by unfold hc_172; rw [h]; rfl) (by decide +kernel) (by decide +kernel)
set_option maxRecDepth 100000 in
theorem hq_173 : hP1 173 hc_173 := hP1_of (n := 59) (fun pc h => by unfold hc_173; rw [h]; rfl) (by decide +kernel) (by decide +kernel)
set_option maxRecDepth 100000 in
theorem hq_174 : hP1 174 hc_174 := hP1_of (n := 313) (fun pc h => by unfold hc_174; rw [h]; rfl) (by decide +kernel) (by decide +kernel)
set_option maxRecDepth 100000 in
theorem hq_175 : hP1 175 hc_175 := hP1_of (n := 116) (fun pc h => by unfold hc_175; rw [h]; rfl) (by decide +kernel) (by decide +kernel)
set_option maxRecDepth 100000 in
theorem hq_176 : hP1 176 hc_176 := hP1_of (n := 295) (fun pc h => by unfold hc_176; rw [h]; rfl) (by decide +kernel) (by decide +kernel)
set_option maxRecDepth 100000 in
theorem hq_177 : hP1 177 hc_177 := hP1_of (n := 64) (fun pc h => by unfold hc_177; rw [h]; rfl) (by decide +kernel) (by decide +kernel)
set_option maxRecDepth 100000 in
theorem hq_178 : hP1 178 hc_178 := hP1_of (n := 67) (fun pc h => by unfold hc_178; rw [h]; rfl) (by decide +kernel) (by decide +kernel)
set_option maxRecDepth 100000 in
theorem hq_179 : hP1 179 hc_179 := hP1_of (n := 111) (fun pc h => by unfold hc_179; rw [h]; rfl) (by decide +kernel) (by decide +kernel)
set_option maxRecDepth 100000 in
theorem hq_180 : hP1 180 hc_180 := hP1_of (n := 156) (fun pc h => by unfold hc_180; rw [h]; rfl) (by decide +kernel) (by decide +kernel)
set_option maxRecDepth 100000 in
theorem hq_181 : hP1 181 hc_181 := hP1_of (n := 143) (fun pc h => by unfold hc_181; rw [h]; rfl) (by decide +kernel) (by decide +kernel)
set_option maxRecDepth 100000 in
theorem hq_182 : hP1 182 hc_182 := hP1_of (n := 136) (fun pc h => by unfold hc_182; rw [h]; rfl) (by decide +kernel) (by decide +kernel)
set_option maxRecDepth 100000 in
theorem hq_183 : hP1 183 hc_183 := hP1_of (n := 77) (fun pc h => by unfold hc_183; rw [h]; rfl) (by decide +kernel) (by decide +kernel)
set_option maxRecDepth 100000 in
theorem hq_184 : hP1 184 hc_184 := hP1_of (n := 70) (fun pc h => by unfold hc_184; rw [h]; rfl) (by decide +kernel) (by decide +kernel)
set_option maxRecDepth 100000 in
theorem hq_185 : hP1 185 hc_185 := hP1_of (n := 256) (fun pc h => by unfold hc_185; rw [h]; rfl) (by decide +kernel) (by decide +kernel)
set_option maxRecDepth 100000 in
theorem hq_186 : hP1 186 hc_186 := hP1_of (n := 35) (fun pc h => by unfold hc_186; rw [h]; rfl) (by decide +kernel) (by decide +kernel)
set_option maxRecDepth 100000 in
theorem hq_187 : hP1 187 hc_187 := hP1_of (n := 50) (fun pc h => by unfold hc_187; rw [h]; rfl) (by decide +kernel) (by decide +kernel)
set_option maxRecDepth 100000 in
theorem hq_188 : hP1 188 hc_188 := hP1_of (n := 199) (fun pc h => by unfold hc_188; rw [h]; rfl) (by decide +kernel) (by decide +kernel)
set_option maxRecDepth 100000 in
theorem hq_189 : hP1 189 hc_189 := hP1_of (n := 29) (fun pc h => by unfold hc_189; rw [h]; rfl) (by decide +kernel) (by decide +kernel)
set_option maxRecDepth 100000 in
theorem hq_190 : hP1 190 hc_190 := hP1_of (n := 63) (fun pc h => by unfold hc_190; rw [h]; rfl) (by decide +kernel) (by decide +kernel)
set_option maxRecDepth 100000 in
theorem hq_191 : hP1 191 hc_191 := hP1_of (n := 89) (fun pc h => by unfold hc_191; rw [h]; rfl) (by decide +kernel) (by decide +kernel)
set_option maxRecDepth 100000 in
theorem hq_192 : hP1 192 hc_192 := hP1_of (n := 111) (fun pc h => by unfold hc_192; rw [h]; rfl) (by decide +kernel) (by decide +kernel)
set_option maxRecDepth 100000 in
theorem hq_193 : hP1 193 hc_193 := hP1_of (n := 135) (fun pc h => by unfold hc_193; rw [h]; rfl) (by decide +kernel) (by decide +kernel)
set_option maxRecDepth 100000 in
theorem hq_194 : hP1 194 hc_194 := hP1_of (n := 18) (fun pc h => by unfold hc_194; rw [h]; rfl) (by decide +kernel) (by decide +kernel)
set_option maxRecDepth 100000 in
theorem hq_195 : hP1 195 hc_195 := hP1_of (n := 64) (fun pc h => by unfold hc_195; rw [h]; rfl) (by decide +kernel) (by decide +kernel)
set_option maxRecDepth 100000 in
theorem hq_196 : hP1 196 hc_196 := hP1_of (n := 81) (fun pc h => by unfold hc_196; rw [h]; rfl) (by decide +kernel) (by decide +kernel)
set_option maxRecDepth 100000 in
theorem hq_197 : hP1 197 hc_197 := hP1_of (n := 85) (fun pc h => by unfold hc_197; rw [h]; rfl) (by decide +kernel) (by decide +kernel)
set_option maxRecDepth 100000 in
theorem hq_198 : hP1 198 hc_198 := hP1_of (n := 78) (fun pc h => by unfold hc_198; rw [h]; rfl) (by decide +kernel) (by decide +kernel)
set_option maxRecDepth 100000 in
theorem hq_199 : hP1 199 hc_199 := hP1_of (n := 77) (fun pc h => by unfold hc_199; rw [h]; rfl) (by decide +kernel) (by decide +kernel)
set_option maxRecDepth 100000 in
theorem hq_200 : hP1 200 hc_200 := hP1_of (n := 49) (fun pc h => by unfold hc_200; rw [h]; rfl) (by decide +kernel) (by decide +kernel)
set_option maxRecDepth 100000 in
theorem hq_201 : hP1 201 hc_201 := hP1_of (n := 126) (fun pc h => by unfold hc_201; rw [h]; rfl) (by decide +kernel) (by decide +kernel)
set_option maxRecDepth 100000 in
theorem hq_202 : hP1 202 hc_202 := hP1_of (n := 41) (fun pc h => by unfold hc_202; rw [h]; rfl) (by decide +kernel) (by decide +kernel)
set_option maxRecDepth 100000 in
theorem hq_203 : hP1 203 hc_203 := hP1_of (n := 5) (fun pc h => by unfold hc_203; rw [h]; rfl) (by decide +kernel) (by decide +kernel)
set_option maxRecDepth 100000 in
theorem hq_204 : hP1 204 hc_204 := hP1_of (n := 23) (fun pc h => by unfold hc_204; rw [h]; rfl) (by decide +kernel) (by decide +kernel)
set_option maxRecDepth 100000 in
theorem hq_205 : hP1 205 hc_205 := hP1_of (n := 66) (fun pc h => by unfold hc_205; rw [h]; rfl) (by decide +kernel) (by decide +kernel)
set_option maxRecDepth 100000 in
theorem hq_206 : hP1 206 hc_206 := hP1_of (n := 26) (fun pc h => by unfold hc_206; rw [h]; rfl) (by decide +kernel) (by decide +kernel)
set_option maxRecDepth 100000 in
theorem hq_207 : hP1 207 hc_207 := hP1_of (n := 33) (fun pc h => by unfold hc_207; rw [h]; rfl) (by decide +kernel) (by decide +kernel)
set_option maxRecDepth 100000 in
theorem hq_208 : hP1 208 hc_208 := hP1_of (n := 12) (fun pc h => by unfold hc_208; rw [h]; rfl) (by decide +kernel) (by decide +kernel)
set_option maxRecDepth 100000 in
theorem hq_209 : hP1 209 hc_209 := hP1_of (n := 32) (fun pc h => by unfold hc_209; rw [h]; rfl) (by decide +kernel) (by decide +kernel)
set_option maxRecDepth 100000 in
theorem hq_210 : hP1 210 hc_210 := hP1_of (n := 12) (fun pc h => by unfold hc_210; rw [h]; rfl) (by decide +kernel) (by decide +kernel)
set_option maxRecDepth 100000 in
theorem hq_211 : hP1 211 hc_211 := hP1_of (n := 8) (fun pc h => by unfold hc_211; rw [h]; rfl) (by decide +kernel) (by decide +kernel)
set_option maxRecDepth 100000 in
theorem hq_212 : hP1 212 hc_212 := hP1_of (n := 23) (fun pc h => by unfold hc_212; rw [h]; rfl) (by decide +kernel) (by decide +kernel)
set_option maxRecDepth 100000 in
theorem hq_213 : hP1 213 hc_213 := hP1_of (n := 37) (fun pc h => by unfold hc_213; rw [h]; rfl) (by decide +kernel) (by decide +kernel)
set_option maxRecDepth 100000 in
theorem hq_214 : hP1 214 hc_214 := hP1_of (n := 8) (fun pc h => by unfold hc_214; rw [h]; rfl) (by decide +kernel) (by decide +kernel)
set_option maxRecDepth 100000 in
theorem hq_215 : hP1 215 hc_215 := hP1_of (n := 9) (fun pc h => by unfold hc_215; rw [h]; rfl) (by decide +kernel) (by decide +kernel)
set_option maxRecDepth 100000 in
theorem hq_216 : hP1 216 hc_216 := hP1_of (n := 69) (fun pc h => by unfold hc_216; rw [h]; rfl) (by decide +kernel) (by decide +kernel)
set_option maxRecDepth 100000 in
theorem hq_217 : hP1 217 hc_217 := hP1_of (n := 9) (fun pc h => by unfold hc_217; rw [h]; rfl) (by decide +kernel) (by decide +kernel)
set_option maxRecDepth 100000 in
theorem hq_218 : hP1 218 hc_218 := hP1_of (n := 133) (fun pc h => by unfold hc_218; rw [h]; rfl) (by decide +kernel) (by decide +kernel)
set_option maxRecDepth 100000 in
theorem hq_219 : hP1 219 hc_219 := hP1_of (n := 43) (fun pc h => by unfold hc_219; rw [h]; rfl) (by decide +kernel) (by decide +kernel)
set_option maxRecDepth 100000 in
theorem hq_220 : hP1 220 hc_220 := hP1_of (n := 26) (fun pc h => by unfold hc_220; rw [h]; rfl) (by decide +kernel) (by decide +kernel)
set_option maxRecDepth 100000 in
theorem hq_221 : hP1 221 hc_221 := hP1_of (n := 85) (fun pc h => by unfold hc_221; rw [h]; rfl) (by decide +kernel) (by decide +kernel)
set_option maxRecDepth 100000 in
theorem hq_222 : hP1 222 hc_222 := hP1_of (n := 123) (fun pc h => by unfold hc_222; rw [h]; rfl) (by decide +kernel) (by decide +kernel)
set_option maxRecDepth 100000 in
theorem hq_223 : hP1 223 hc_223 := hP1_of (n := 91) (fun pc h => by unfold hc_223; rw [h]; rfl) (by decide +kernel) (by decide +kernel)
set_option maxRecDepth 100000 in
theorem hq_224 : hP1 224 hc_224 := hP1_of (n := 97) (fun pc h => by unfold hc_224; rw [h]; rfl) (by decide +kernel) (by decide +kernel)
set_option maxRecDepth 100000 in
theorem hq_225 : hP1 225 hc_225 := hP1_of (n := 53) (fun pc h => by unfold hc_225; rw [h]; rfl) (by decide +kernel) (by decide +kernel)
set_option maxRecDepth 100000 in
theorem hq_226 : hP1 226 hc_226 := hP1_of (n := 85) (fun pc h => by unfold hc_226; rw [h]; rfl) (by decide +kernel) (by decide +kernel)
set_option maxRecDepth 100000 in
theorem hq_227 : hP1 227 hc_227 := hP1_of (n := 2233) (fun pc h => by unfold hc_227; rw [h]; rfl) (by decide +kernel) (by decide +kernel)
