/-! The tables are right: methods, by and by. -/
set_option maxRecDepth 100000 in
theorem hq_228 : hP1 228 hc_228 := hP1_of (n := 20) (fun pc h => by unfold hc_228; rw [h]; rfl) (by decide +kernel) (by decide +kernel)
set_option maxRecDepth 100000 in
theorem hq_229 : hP1 229 hc_229 := hP1_of (n := 47) (fun pc h => by unfold hc_229; rw [h]; rfl) (by decide +kernel) (by decide +kernel)
set_option maxRecDepth 100000 in
theorem hq_230 : hP1 230 hc_230 := hP1_of (n := 36) (fun pc h => by unfold hc_230; rw [h]; rfl) (by decide +kernel) (by decide +kernel)
set_option maxRecDepth 100000 in
theorem hq_231 : hP1 231 hc_231 := hP1_of (n := 149) (fun pc h => by unfold hc_231; rw [h]; rfl) (by decide +kernel) (by decide +kernel)
set_option maxRecDepth 100000 in
theorem hq_232 : hP1 232 hc_232 := hP1_of (n := 35) (fun pc h => by unfold hc_232; rw [h]; rfl) (by decide +kernel) (by decide +kernel)
set_option maxRecDepth 100000 in
theorem hq_233 : hP1 233 hc_233 := hP1_of (n := 116) (fun pc h => by unfold hc_233; rw [h]; rfl) (by decide +kernel) (by decide +kernel)
set_option maxRecDepth 100000 in
theorem hq_234 : hP1 234 hc_234 := hP1_of (n := 81) (fun pc h => by unfold hc_234; rw [h]; rfl) (by decide +kernel) (by decide +kernel)
set_option maxRecDepth 100000 in
theorem hq_235 : hP1 235 hc_235 := hP1_of (n := 70) (fun pc h => by unfold hc_235; rw [h]; rfl) (by decide +kernel) (by decide +kernel)
set_option maxRecDepth 100000 in
theorem hq_236 : hP1 236 hc_236 := hP1_of (n := 45) (fun pc h => by unfold hc_236; rw [h]; rfl) (by decide +kernel) (by decide +kernel)
set_option maxRecDepth 100000 in
theorem hq_237 : hP1 237 hc_237 := hP1_of (n := 47) (fun pc h => by unfold hc_237; rw [h]; rfl) (by decide +kernel) (by decide +kernel)
set_option maxRecDepth 100000 in
theorem hq_238 : hP1 238 hc_238 := hP1_of (n := 133) (fun pc h => by unfold hc_238; rw [h]; rfl) (by decide +kernel) (by decide +kernel)
set_option maxRecDepth 100000 in
theorem hq_239 : hP1 239 hc_239 := hP1_of (n := 179) (fun pc h => by unfold hc_239; rw [h]; rfl) (by decide +kernel) (by decide +kernel)
set_option maxRecDepth 100000 in
theorem hq_240 : hP1 240 hc_240 := hP1_of (n := 96) (fun pc h => by unfold hc_240; rw [h]; rfl) (by decide +kernel) (by decide +kernel)
set_option maxRecDepth 100000 in
theorem hq_241 : hP1 241 hc_241 := hP1_of (n := 28) (fun pc h => by unfold hc_241; rw [h]; rfl) (by decide +kernel) (by decide +kernel)
set_option maxRecDepth 100000 in
theorem hq_242 : hP1 242 hc_242 := hP1_of (n := 68) (fun pc h => by unfold hc_242; rw [h]; rfl) (by decide +kernel) (by decide +kernel)
set_option maxRecDepth 100000 in
theorem hq_243 : hP1 243 hc_243 := hP1_of (n := 9) (fun pc h => by unfold hc_243; rw [h]; rfl) (by decide +kernel) (by decide +kernel)
set_option maxRecDepth 100000 in
theorem hq_244 : hP1 244 hc_244 := hP1_of (n := 85) (fun pc h => by unfold hc_244; rw [h]; rfl) (by decide +kernel) (by decide +kernel)
set_option maxRecDepth 100000 in
theorem hq_245 : hP1 245 hc_245 := hP1_of (n := 53) (fun pc h => by unfold hc_245; rw [h]; rfl) (by decide +kernel) (by decide +kernel)
set_option maxRecDepth 100000 in
theorem hq_246 : hP1 246 hc_246 := hP1_of (n := 43) (fun pc h => by unfold hc_246; rw [h]; rfl) (by decide +kernel) (by decide +kernel)
set_option maxRecDepth 100000 in
theorem hq_247 : hP1 247 hc_247 := hP1_of (n := 7) (fun pc h => by unfold hc_247; rw [h]; rfl) (by decide +kernel) (by decide +kernel)
set_option maxRecDepth 100000 in
theorem hq_248 : hP1 248 hc_248 := hP1_of (n := 61) (fun pc h => by unfold hc_248; rw [h]; rfl) (by decide +kernel) (by decide +kernel)
set_option maxRecDepth 100000 in
theorem hq_249 : hP1 249 hc_249 := hP1_of (n := 60) (fun pc h => by unfold hc_249; rw [h]; rfl) (by decide +kernel) (by decide +kernel)
set_option maxRecDepth 100000 in
theorem hq_250 : hP1 250 hc_250 := hP1_of (n := 40) (fun pc h => by unfold hc_250; rw [h]; rfl) (by decide +kernel) (by decide +kernel)
set_option maxRecDepth 100000 in
theorem hq_251 : hP1 251 hc_251 := hP1_of (n := 25) (fun pc h => by unfold hc_251; rw [h]; rfl) (by decide +kernel) (by decide +kernel)
set_option maxRecDepth 100000 in
theorem hq_252 : hP1 252 hc_252 := hP1_of (n := 15) (fun pc h => by unfold hc_252; rw [h]; rfl) (by decide +kernel) (by decide +kernel)
set_option maxRecDepth 100000 in
theorem hq_253 : hP1 253 hc_253 := hP1_of (n := 241) (fun pc h => by unfold hc_253; rw [h]; rfl) (by decide +kernel) (by decide +kernel)
set_option maxRecDepth 100000 in
theorem hq_254 : hP1 254 hc_254 := hP1_of (n := 129) (fun pc h => by unfold hc_254; rw [h]; rfl) (by decide +kernel) (by decide +kernel)
set_option maxRecDepth 100000 in
theorem hq_255 : hP1 255 hc_255 := hP1_of (n := 26) (fun pc h => by unfold hc_255; rw [h]; rfl) (by decide +kernel) (by decide +kernel)
set_option maxRecDepth 100000 in
theorem hq_256 : hP1 256 hc_256 := hP1_of (n := 64) (fun pc h => by unfold hc_256; rw [h]; rfl) (by decide +kernel) (by decide +kernel)
set_option maxRecDepth 100000 in
theorem hq_257 : hP1 257 hc_257 := hP1_of (n := 43) (fun pc h => by unfold hc_257; rw [h]; rfl) (by decide +kernel) (by decide +kernel)
set_option maxRecDepth 100000 in
theorem hq_258 : hP1 258 hc_258 := hP1_of (n := 155) (fun pc h => by unfold hc_258; rw [h]; rfl) (by decide +kernel) (by decide +kernel)
set_option maxRecDepth 100000 in
theorem hq_259 : hP1 259 hc_259 := hP1_of (n := 80) (fun pc h => by unfold hc_259; rw [h]; rfl) (by decide +kernel) (by decide +kernel)
set_option maxRecDepth 100000 in
theorem hq_260 : hP1 260 hc_260 := hP1_of (n := 37) (fun pc h => by unfold hc_260; rw [h]; rfl) (by decide +kernel) (by decide +kernel)
set_option maxRecDepth 100000 in
theorem hq_261 : hP1 261 hc_261 := hP1_of (n := 53) (fun pc h => by unfold hc_261; rw [h]; rfl) (by decide +kernel) (by decide +kernel)
set_option maxRecDepth 100000 in
theorem hq_262 : hP1 262 hc_262 := hP1_of (n := 75) (fun pc h => by unfold hc_262; rw [h]; rfl) (by decide +kernel) (by decide +kernel)
set_option maxRecDepth 100000 in
theorem hq_263 : hP1 263 hc_263 := hP1_of (n := 20) (fun pc h => by unfold hc_263; rw [h]; rfl) (by decide +kernel) (by decide +kernel)
set_option maxRecDepth 100000 in
theorem hq_264 : hP1 264 hc_264 := hP1_of (n := 63) (fun pc h => by unfold hc_264; rw [h]; rfl) (by decide +kernel) (by decide +kernel)
set_option maxRecDepth 100000 in
theorem hq_265 : hP1 265 hc_265 := hP1_of (n := 20) (fun pc h => by unfold hc_265; rw [h]; rfl) (by decide +kernel) (by decide +kernel)
set_option maxRecDepth 100000 in
theorem hq_266 : hP1 266 hc_266 := hP1_of (n := 327) (fun pc h => by unfold hc_266; rw [h]; rfl) (by decide +kernel) (by decide +kernel)
set_option maxRecDepth 100000 in
theorem hq_267 : hP1 267 hc_267 := hP1_of (n := 129) (fun pc h => by unfold hc_267; rw [h]; rfl) (by decide +kernel) (by decide +kernel)
set_option maxRecDepth 100000 in
theorem hq_268 : hP1 268 hc_268 := hP1_of (n := 120) (fun pc h => by unfold hc_268; rw [h]; rfl) (by decide +kernel) (by decide +kernel)
set_option maxRecDepth 100000 in
theorem hq_269 : hP1 269 hc_269 := hP1_of (n := 69) (fun pc h => by unfold hc_269; rw [h]; rfl) (by decide +kernel) (by decide +kernel)
set_option maxRecDepth 100000 in
theorem hq_270 : hP1 270 hc_270 := hP1_of (n := 26) (fun pc h => by unfold hc_270; rw [h]; rfl) (by decide +kernel) (by decide +kernel)
set_option maxRecDepth 100000 in
theorem hq_271 : hP1 271 hc_271 := hP1_of (n := 55) (fun pc h => by unfold hc_271; rw [h]; rfl) (by decide +kernel) (by decide +kernel)
set_option maxRecDepth 100000 in
theorem hq_272 : hP1 272 hc_272 := hP1_of (n := 27) (fun pc h => by unfold hc_272; rw [h]; rfl) (by decide +kernel) (by decide +kernel)
set_option maxRecDepth 100000 in
theorem hq_273 : hP1 273 hc_273 := hP1_of (n := 45) (fun pc h => by unfold hc_273; rw [h]; rfl) (by decide +kernel) (by decide +kernel)
set_option maxRecDepth 100000 in
theorem hq_274 : hP1 274 hc_274 := hP1_of (n := 191) (fun pc h => by unfold hc_274; rw [h]; rfl) (by decide +kernel) (by decide +kernel)
set_option maxRecDepth 100000 in
theorem hq_275 : hP1 275 hc_275 := hP1_of (n := 197) (fun pc h => by unfold hc_275; rw [h]; rfl) (by decide +kernel) (by decide +kernel)
set_option maxRecDepth 100000 in
theorem hq_276 : hP1 276 hc_276 := hP1_of (n := 70) (fun pc h => by unfold hc_276; rw [h]; rfl) (by decide +kernel) (by decide +kernel)
set_option maxRecDepth 100000 in
theorem hq_277 : hP1 277 hc_277 := hP1_of (n := 22) (fun pc h => by unfold hc_277; rw [h]; rfl) (by decide +kernel) (by decide +kernel)
set_option maxRecDepth 100000 in
theorem hq_278 : hP1 278 hc_278 := hP1_of (n := 121) (fun pc h => by unfold hc_278; rw [h]; rfl) (by decide +kernel) (by decide +kernel)
set_option maxRecDepth 100000 in
theorem hq_279 : hP1 279 hc_279 := hP1_of (n := 366) (fun pc h => by unfold hc_279; rw [h]; rfl) (by decide +kernel) (by decide +kernel)
set_option maxRecDepth 100000 in
theorem hq_280 : hP1 280 hc_280 := hP1_of (n := 215) (fun pc h => by unfold hc_280; rw [h]; rfl) (by decide +kernel) (by decide +kernel)
set_option maxRecDepth 100000 in
theorem hq_281 : hP1 281 hc_281 := hP1_of (n := 102) (fun pc h => by unfold hc_281; rw [h]; rfl) (by decide +kernel) (by decide +kernel)
set_option maxRecDepth 100000 in
theorem hq_282 : hP1 282 hc_282 := hP1_of (n := 19) (fun pc h => by unfold hc_282; rw [h]; rfl) (by decide +kernel) (by decide +kernel)
set_option maxRecDepth 100000 in
theorem hq_283 : hP1 283 hc_283 := hP1_of (n := 26) (fun pc h => by unfold hc_283; rw [h]; rfl) (by decide +kernel) (by decide +kernel)
set_option maxRecDepth 100000 in
theorem hq_284 : hP1 284 hc_284 := hP1_of (n := 55) (fun pc h => by unfold hc_284; rw [h]; rfl) (by decide +kernel) (by decide +kernel)
set_option maxRecDepth 100000 in
theorem hq_285 : hP1 285 hc_285 := hP1_of (n := 318) (fun pc h => by unfold hc_285; rw [h]; rfl) (by decide +kernel) (by decide +kernel)
set_option maxRecDepth 100000 in
theorem hq_286 : hP1 286 hc_286 := hP1_of (n := 117) (fun pc h => by unfold hc_286; rw [h]; rfl) (by decide +kernel) (by decide +kernel)
set_option maxRecDepth 100000 in
theorem hq_287 : hP1 287 hc_287 := hP1_of (n := 10) (fun pc h => by unfold hc_287; rw [h]; rfl) (by decide +kernel) (by decide +kernel)
set_option maxRecDepth 100000 in
theorem hq_288 : hP1 288 hc_288 := hP1_of (n := 143) (fun pc h => by unfold hc_288; rw [h]; rfl) (by decide +kernel) (by decide +kernel)
set_option maxRecDepth 100000 in
theorem hq_289 : hP1 289 hc_289 := hP1_of (n := 29) (fun pc h => by unfold hc_289; rw [h]; rfl) (by decide +kernel) (by decide +kernel)
set_option maxRecDepth 100000 in
theorem hq_290 : hP1 290 hc_290 := hP1_of (n := 38) (fun pc h => by unfold hc_290; rw [h]; rfl) (by decide +kernel) (by decide +kernel)
set_option maxRecDepth 100000 in
theorem hq_291 : hP1 291 hc_291 := hP1_of (n := 25) (fun pc h => by unfold hc_291; rw [h]; rfl) (by decide +kernel) (by decide +kernel)
set_option maxRecDepth 100000 in
theorem hq_292 : hP1 292 hc_292 := hP1_of (n := 80) (fun pc h => by unfold hc_292; rw [h]; rfl) (by decide +kernel) (by decide +kernel)
set_option maxRecDepth 100000 in
theorem hq_293 : hP1 293 hc_293 := hP1_of (n := 83) (fun pc h => by unfold hc_293; rw [h]; rfl) (by decide +kernel) (by decide +kernel)
set_option maxRecDepth 100000 in
theorem hq_294 : hP1 294 hc_294 := hP1_of (n := 56) (fun pc h => by unfold hc_294; rw [h]; rfl) (by decide +kernel) (by decide +kernel)
set_option maxRecDepth 100000 in
theorem hq_295 : hP1 295 hc_295 := hP1_of (n := 107) (fun pc h => by unfold hc_295; rw [h]; rfl) (by decide +kernel) (by decide +kernel)
set_option maxRecDepth 100000 in
theorem hq_296 : hP1 296 hc_296 := hP1_of (n := 40) (fun pc h => by unfold hc_296; rw [h]; rfl) (by decide +kernel) (by decide +kernel)
set_option maxRecDepth 100000 in
theorem hq_297 : hP1 297 hc_297 := hP1_of (n := 336) (fun pc h => by unfold hc_297; rw [h]; rfl) (by decide +kernel) (by decide +kernel)
set_option maxRecDepth 100000 in
theorem hq_298 : hP1 298 hc_298 := hP1_of (n := 132) (fun pc h => by unfold hc_298; rw [h]; rfl) (by decide +kernel) (by decide +kernel)
set_option maxRecDepth 100000 in
theorem hq_299 : hP1 299 hc_299 := hP1_of (n := 41) (fun pc h => by unfold hc_299; rw [h]; rfl) (by decide +kernel) (by decide +kernel)
set_option maxRecDepth 100000 in
theorem hq_300 : hP1 300 hc_300 := hP1_of (n := 133) (fun pc h => by unfold hc_300; rw [h]; rfl) (by decide +kernel) (by decide +kernel)
set_option maxRecDepth 100000 in
theorem hq_301 : hP1 301 hc_301 := hP1_of (n := 205) (fun pc h => by unfold hc_301; rw [h]; rfl) (by decide +kernel) (by decide +kernel)
set_option maxRecDepth 100000 in
theorem hq_302 : hP1 302 hc_302 := hP1_of (n := 482) (fun pc h => by unfold hc_302; rw [h]; rfl) (by decide +kernel) (by decide +kernel)
