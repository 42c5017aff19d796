/-! the law: a call of both -/
theorem r_sldN {E : EnvT} {M : MD} {d pc pc2 : Nat} (j : Nat) {i : Int32} {ls st : List Value} {h : Hp} {Q : Option Value → Hp → Prop} (hd : decode M.2.1 pc = .ok (.iaload, 1)) (hi : i = nI j) (hj : j < e_n E) (hn : e_n E < 2 ^ 31) (hp : pc + 1 = pc2) (kk : Fr E M d pc2 ls (.int (e_s E j) :: st) h Q) : Fr E M d pc ls (.int i :: .ref 61 :: st) h Q := by
  obtain ⟨v1, v2⟩ := nI_vp hi hj hn
  exact r_sld hd v1 hp (by rw [v2]; exact kk)
theorem lgc_self (x : Int64) : lg_cmp x x = 0 := Int32.le_antisymm ((lgc_le x x).mpr (Int64.le_refl x)) ((lgc_ge x x).mpr (Int64.le_refl x))
set_option maxRecDepth 20000 in
set_option maxHeartbeats 1000000 in
theorem lw_feed {E : EnvT} {h : Hp} {c : Nat} {Q : Option Value → Hp → Prop} (h6 : 6 * c + 6 ≤ e_n E) (hn : e_n E ≤ 3072) (hJ : JS h c) (rest : ∀ h2 : Hp, JS h2 (c + 1) → Fr E mL 656 1273 [.ref 61, .ref 64, .ref 117, .int (nI (6 * c))] [] h2 Q) : Fr E mL 656 204 [.ref 61, .ref 64, .ref 117, .int (nI (6 * c))] [] h Q := by
  obtain ⟨l9, c64⟩ := hJ.c64
  obtain ⟨x9, hC⟩ := b_feed (E := E) (x1 := (e_s E (6 * c + 1))) (x2 := (e_s E (6 * c + 2))) (x3 := (e_s E (6 * c + 3))) (x4 := (e_s E (6 * c + 4))) (x5 := (e_s E (6 * c + 5))) hJ (by omega)
  refine r_aload_n (pc2 := 205) 1 dL_law_204 rfl rfl rfl rfl ?_
  refine r_aload_n (pc2 := 206) 0 dL_law_205 rfl rfl rfl rfl ?_
  refine r_iload_n (pc2 := 207) 3 dL_law_206 rfl rfl rfl ?_
  refine r_iconst (pc2 := 208) (v := 1) dL_law_207 (by decide) rfl ?_
  refine r_iadd (pc2 := 209) dL_law_208 rfl ?_
  refine r_sldN (pc2 := 210) (6 * c + 1) dL_law_209 (nI_add _ 1) (by omega) (by omega) rfl ?_
  refine r_aload_n (pc2 := 211) 0 dL_law_210 rfl rfl rfl rfl ?_
  refine r_iload_n (pc2 := 212) 3 dL_law_211 rfl rfl rfl ?_
  refine r_iconst (pc2 := 213) (v := 2) dL_law_212 (by decide) rfl ?_
  refine r_iadd (pc2 := 214) dL_law_213 rfl ?_
  refine r_sldN (pc2 := 215) (6 * c + 2) dL_law_214 (nI_add _ 2) (by omega) (by omega) rfl ?_
  refine r_aload_n (pc2 := 216) 0 dL_law_215 rfl rfl rfl rfl ?_
  refine r_iload_n (pc2 := 217) 3 dL_law_216 rfl rfl rfl ?_
  refine r_iconst (pc2 := 218) (v := 3) dL_law_217 (by decide) rfl ?_
  refine r_iadd (pc2 := 219) dL_law_218 rfl ?_
  refine r_sldN (pc2 := 220) (6 * c + 3) dL_law_219 (nI_add _ 3) (by omega) (by omega) rfl ?_
  refine r_aload_n (pc2 := 221) 0 dL_law_220 rfl rfl rfl rfl ?_
  refine r_iload_n (pc2 := 222) 3 dL_law_221 rfl rfl rfl ?_
  refine r_iconst (pc2 := 223) (v := 4) dL_law_222 (by decide) rfl ?_
  refine r_iadd (pc2 := 224) dL_law_223 rfl ?_
  refine r_sldN (pc2 := 225) (6 * c + 4) dL_law_224 (nI_add _ 4) (by omega) (by omega) rfl ?_
  refine r_aload_n (pc2 := 226) 0 dL_law_225 rfl rfl rfl rfl ?_
  refine r_iload_n (pc2 := 227) 3 dL_law_226 rfl rfl rfl ?_
  refine r_iconst (pc2 := 228) (v := 5) dL_law_227 (by decide) rfl ?_
  refine r_iadd (pc2 := 229) dL_law_228 rfl ?_
  refine r_sldN (pc2 := 230) (6 * c + 5) dL_law_229 (nI_add _ 5) (by omega) (by omega) rfl ?_
  refine r_callV1 (pc2 := 233) (As := [.int (e_s E (6 * c + 1)), .int (e_s E (6 * c + 2)), .int (e_s E (6 * c + 3)), .int (e_s E (6 * c + 4)), .int (e_s E (6 * c + 5))]) (st := []) kL_13 rfl rfl dL_law_230 c64 (by decide) rfl rfl (Nat.le_of_ble_eq_true rfl) (by omega) hC rfl (fun h hq230 => ?_)
  obtain ⟨⟨v9, c117⟩, hC2⟩ := hq230
  refine r_aload_n (pc2 := 234) 2 dL_law_233 rfl rfl rfl rfl ?_
  refine r_aload_n (pc2 := 235) 0 dL_law_234 rfl rfl rfl rfl ?_
  refine r_iload_n (pc2 := 236) 3 dL_law_235 rfl rfl rfl ?_
  refine r_iconst (pc2 := 237) (v := 1) dL_law_236 (by decide) rfl ?_
  refine r_iadd (pc2 := 238) dL_law_237 rfl ?_
  refine r_sldN (pc2 := 239) (6 * c + 1) dL_law_238 (nI_add _ 1) (by omega) (by omega) rfl ?_
  refine r_aload_n (pc2 := 240) 0 dL_law_239 rfl rfl rfl rfl ?_
  refine r_iload_n (pc2 := 241) 3 dL_law_240 rfl rfl rfl ?_
  refine r_iconst (pc2 := 242) (v := 2) dL_law_241 (by decide) rfl ?_
  refine r_iadd (pc2 := 243) dL_law_242 rfl ?_
  refine r_sldN (pc2 := 244) (6 * c + 2) dL_law_243 (nI_add _ 2) (by omega) (by omega) rfl ?_
  refine r_aload_n (pc2 := 245) 0 dL_law_244 rfl rfl rfl rfl ?_
  refine r_iload_n (pc2 := 246) 3 dL_law_245 rfl rfl rfl ?_
  refine r_iconst (pc2 := 247) (v := 3) dL_law_246 (by decide) rfl ?_
  refine r_iadd (pc2 := 248) dL_law_247 rfl ?_
  refine r_sldN (pc2 := 249) (6 * c + 3) dL_law_248 (nI_add _ 3) (by omega) (by omega) rfl ?_
  refine r_aload_n (pc2 := 250) 0 dL_law_249 rfl rfl rfl rfl ?_
  refine r_iload_n (pc2 := 251) 3 dL_law_250 rfl rfl rfl ?_
  refine r_iconst (pc2 := 252) (v := 4) dL_law_251 (by decide) rfl ?_
  refine r_iadd (pc2 := 253) dL_law_252 rfl ?_
  refine r_sldN (pc2 := 254) (6 * c + 4) dL_law_253 (nI_add _ 4) (by omega) (by omega) rfl ?_
  refine r_aload_n (pc2 := 255) 0 dL_law_254 rfl rfl rfl rfl ?_
  refine r_iload_n (pc2 := 256) 3 dL_law_255 rfl rfl rfl ?_
  refine r_iconst (pc2 := 257) (v := 5) dL_law_256 (by decide) rfl ?_
  refine r_iadd (pc2 := 258) dL_law_257 rfl ?_
  refine r_sldN (pc2 := 259) (6 * c + 5) dL_law_258 (nI_add _ 5) (by omega) (by omega) rfl ?_
  refine r_callV1 (pc2 := 262) (As := [.int (e_s E (6 * c + 1)), .int (e_s E (6 * c + 2)), .int (e_s E (6 * c + 3)), .int (e_s E (6 * c + 4)), .int (e_s E (6 * c + 5))]) (st := [.int x9]) kL_17 rfl rfl dL_law_259 c117 (by decide) rfl rfl (Nat.le_of_ble_eq_true rfl) (by omega) hC2 rfl (fun h hq259 => ?_)
  have hJ2 := hq259
  refine r_icmp_eq (tgt := 1273) (pc2 := 265) dL_law_262 (by decide) rfl (fun b262 => ?_) (fun b262 => ?_)
  · skip
    exact rest _ hJ2
  · exact absurd rfl b262
set_option maxRecDepth 20000 in
set_option maxHeartbeats 1000000 in
theorem lw_street {E : EnvT} {h : Hp} {c : Nat} {Q : Option Value → Hp → Prop} (h6 : 6 * c + 6 ≤ e_n E) (hn : e_n E ≤ 3072) (hJ : JS h c) (rest : ∀ h2 : Hp, JS h2 (c + 1) → Fr E mL 656 1273 [.ref 61, .ref 64, .ref 117, .int (nI (6 * c))] [] h2 Q) : Fr E mL 656 267 [.ref 61, .ref 64, .ref 117, .int (nI (6 * c))] [] h Q := by
  obtain ⟨l9, c64⟩ := hJ.c64
  obtain ⟨x9, hC⟩ := b_street (E := E) (y1 := (e_s E (6 * c + 1))) hJ (by omega)
  refine r_aload_n (pc2 := 268) 1 dL_law_267 rfl rfl rfl rfl ?_
  refine r_aload_n (pc2 := 269) 0 dL_law_268 rfl rfl rfl rfl ?_
  refine r_iload_n (pc2 := 270) 3 dL_law_269 rfl rfl rfl ?_
  refine r_iconst (pc2 := 271) (v := 1) dL_law_270 (by decide) rfl ?_
  refine r_iadd (pc2 := 272) dL_law_271 rfl ?_
  refine r_sldN (pc2 := 273) (6 * c + 1) dL_law_272 (nI_add _ 1) (by omega) (by omega) rfl ?_
  refine r_callV1 (pc2 := 276) (As := [.int (e_s E (6 * c + 1))]) (st := []) kL_18 rfl rfl dL_law_273 c64 (by decide) rfl rfl (Nat.le_of_ble_eq_true rfl) (by omega) hC rfl (fun h hq273 => ?_)
  obtain ⟨⟨v9, c117⟩, hC2⟩ := hq273
  refine r_aload_n (pc2 := 277) 2 dL_law_276 rfl rfl rfl rfl ?_
  refine r_aload_n (pc2 := 278) 0 dL_law_277 rfl rfl rfl rfl ?_
  refine r_iload_n (pc2 := 279) 3 dL_law_278 rfl rfl rfl ?_
  refine r_iconst (pc2 := 280) (v := 1) dL_law_279 (by decide) rfl ?_
  refine r_iadd (pc2 := 281) dL_law_280 rfl ?_
  refine r_sldN (pc2 := 282) (6 * c + 1) dL_law_281 (nI_add _ 1) (by omega) (by omega) rfl ?_
  refine r_callV1 (pc2 := 285) (As := [.int (e_s E (6 * c + 1))]) (st := [.int x9]) kL_22 rfl rfl dL_law_282 c117 (by decide) rfl rfl (Nat.le_of_ble_eq_true rfl) (by omega) hC2 rfl (fun h hq282 => ?_)
  have hJ2 := hq282
  refine r_icmp_eq (tgt := 1273) (pc2 := 288) dL_law_285 (by decide) rfl (fun b285 => ?_) (fun b285 => ?_)
  · skip
    exact rest _ hJ2
  · exact absurd rfl b285
set_option maxRecDepth 20000 in
set_option maxHeartbeats 1000000 in
theorem lw_fault {E : EnvT} {h : Hp} {c : Nat} {Q : Option Value → Hp → Prop} (h6 : 6 * c + 6 ≤ e_n E) (hn : e_n E ≤ 3072) (hJ : JS h c) (rest : ∀ h2 : Hp, JS h2 (c + 1) → Fr E mL 656 1273 [.ref 61, .ref 64, .ref 117, .int (nI (6 * c))] [] h2 Q) : Fr E mL 656 290 [.ref 61, .ref 64, .ref 117, .int (nI (6 * c))] [] h Q := by
  obtain ⟨l9, c64⟩ := hJ.c64
  obtain ⟨x9, hC⟩ := b_fault (E := E) (y1 := (e_s E (6 * c + 1))) hJ (by omega)
  refine r_aload_n (pc2 := 291) 1 dL_law_290 rfl rfl rfl rfl ?_
  refine r_aload_n (pc2 := 292) 0 dL_law_291 rfl rfl rfl rfl ?_
  refine r_iload_n (pc2 := 293) 3 dL_law_292 rfl rfl rfl ?_
  refine r_iconst (pc2 := 294) (v := 1) dL_law_293 (by decide) rfl ?_
  refine r_iadd (pc2 := 295) dL_law_294 rfl ?_
  refine r_sldN (pc2 := 296) (6 * c + 1) dL_law_295 (nI_add _ 1) (by omega) (by omega) rfl ?_
  refine r_callV1 (pc2 := 299) (As := [.int (e_s E (6 * c + 1))]) (st := []) kL_23 rfl rfl dL_law_296 c64 (by decide) rfl rfl (Nat.le_of_ble_eq_true rfl) (by omega) hC rfl (fun h hq296 => ?_)
  obtain ⟨⟨v9, c117⟩, hC2⟩ := hq296
  refine r_aload_n (pc2 := 300) 2 dL_law_299 rfl rfl rfl rfl ?_
  refine r_aload_n (pc2 := 301) 0 dL_law_300 rfl rfl rfl rfl ?_
  refine r_iload_n (pc2 := 302) 3 dL_law_301 rfl rfl rfl ?_
  refine r_iconst (pc2 := 303) (v := 1) dL_law_302 (by decide) rfl ?_
  refine r_iadd (pc2 := 304) dL_law_303 rfl ?_
  refine r_sldN (pc2 := 305) (6 * c + 1) dL_law_304 (nI_add _ 1) (by omega) (by omega) rfl ?_
  refine r_callV1 (pc2 := 308) (As := [.int (e_s E (6 * c + 1))]) (st := [.int x9]) kL_26 rfl rfl dL_law_305 c117 (by decide) rfl rfl (Nat.le_of_ble_eq_true rfl) (by omega) hC2 rfl (fun h hq305 => ?_)
  have hJ2 := hq305
  refine r_icmp_eq (tgt := 1273) (pc2 := 311) dL_law_308 (by decide) rfl (fun b308 => ?_) (fun b308 => ?_)
  · skip
    exact rest _ hJ2
  · exact absurd rfl b308
set_option maxRecDepth 20000 in
set_option maxHeartbeats 1000000 in
theorem lw_goer {E : EnvT} {h : Hp} {c : Nat} {Q : Option Value → Hp → Prop} (h6 : 6 * c + 6 ≤ e_n E) (hn : e_n E ≤ 3072) (hJ : JS h c) (rest : ∀ h2 : Hp, JS h2 (c + 1) → Fr E mL 656 1273 [.ref 61, .ref 64, .ref 117, .int (nI (6 * c))] [] h2 Q) : Fr E mL 656 313 [.ref 61, .ref 64, .ref 117, .int (nI (6 * c))] [] h Q := by
  obtain ⟨l9, c64⟩ := hJ.c64
  obtain ⟨x9, hC⟩ := b_goer (E := E) (y1 := (e_s E (6 * c + 1))) (y2 := (e_s E (6 * c + 2))) hJ (by omega)
  refine r_aload_n (pc2 := 314) 1 dL_law_313 rfl rfl rfl rfl ?_
  refine r_aload_n (pc2 := 315) 0 dL_law_314 rfl rfl rfl rfl ?_
  refine r_iload_n (pc2 := 316) 3 dL_law_315 rfl rfl rfl ?_
  refine r_iconst (pc2 := 317) (v := 1) dL_law_316 (by decide) rfl ?_
  refine r_iadd (pc2 := 318) dL_law_317 rfl ?_
  refine r_sldN (pc2 := 319) (6 * c + 1) dL_law_318 (nI_add _ 1) (by omega) (by omega) rfl ?_
  refine r_aload_n (pc2 := 320) 0 dL_law_319 rfl rfl rfl rfl ?_
  refine r_iload_n (pc2 := 321) 3 dL_law_320 rfl rfl rfl ?_
  refine r_iconst (pc2 := 322) (v := 2) dL_law_321 (by decide) rfl ?_
  refine r_iadd (pc2 := 323) dL_law_322 rfl ?_
  refine r_sldN (pc2 := 324) (6 * c + 2) dL_law_323 (nI_add _ 2) (by omega) (by omega) rfl ?_
  refine r_callV1 (pc2 := 327) (As := [.int (e_s E (6 * c + 1)), .int (e_s E (6 * c + 2))]) (st := []) kL_27 rfl rfl dL_law_324 c64 (by decide) rfl rfl (Nat.le_of_ble_eq_true rfl) (by omega) hC rfl (fun h hq324 => ?_)
  obtain ⟨⟨v9, c117⟩, hC2⟩ := hq324
  refine r_aload_n (pc2 := 328) 2 dL_law_327 rfl rfl rfl rfl ?_
  refine r_aload_n (pc2 := 329) 0 dL_law_328 rfl rfl rfl rfl ?_
  refine r_iload_n (pc2 := 330) 3 dL_law_329 rfl rfl rfl ?_
  refine r_iconst (pc2 := 331) (v := 1) dL_law_330 (by decide) rfl ?_
  refine r_iadd (pc2 := 332) dL_law_331 rfl ?_
  refine r_sldN (pc2 := 333) (6 * c + 1) dL_law_332 (nI_add _ 1) (by omega) (by omega) rfl ?_
  refine r_aload_n (pc2 := 334) 0 dL_law_333 rfl rfl rfl rfl ?_
  refine r_iload_n (pc2 := 335) 3 dL_law_334 rfl rfl rfl ?_
  refine r_iconst (pc2 := 336) (v := 2) dL_law_335 (by decide) rfl ?_
  refine r_iadd (pc2 := 337) dL_law_336 rfl ?_
  refine r_sldN (pc2 := 338) (6 * c + 2) dL_law_337 (nI_add _ 2) (by omega) (by omega) rfl ?_
  refine r_callV1 (pc2 := 341) (As := [.int (e_s E (6 * c + 1)), .int (e_s E (6 * c + 2))]) (st := [.int x9]) kL_31 rfl rfl dL_law_338 c117 (by decide) rfl rfl (Nat.le_of_ble_eq_true rfl) (by omega) hC2 rfl (fun h hq338 => ?_)
  have hJ2 := hq338
  refine r_icmp_eq (tgt := 1273) (pc2 := 344) dL_law_341 (by decide) rfl (fun b341 => ?_) (fun b341 => ?_)
  · skip
    exact rest _ hJ2
  · exact absurd rfl b341
set_option maxRecDepth 20000 in
set_option maxHeartbeats 1000000 in
theorem lw_by {E : EnvT} {h : Hp} {c : Nat} {Q : Option Value → Hp → Prop} (h6 : 6 * c + 6 ≤ e_n E) (hn : e_n E ≤ 3072) (hJ : JS h c) (rest : ∀ h2 : Hp, JS h2 (c + 1) → Fr E mL 656 1273 [.ref 61, .ref 64, .ref 117, .int (nI (6 * c))] [] h2 Q) : Fr E mL 656 346 [.ref 61, .ref 64, .ref 117, .int (nI (6 * c))] [] h Q := by
  obtain ⟨l9, c64⟩ := hJ.c64
  obtain ⟨x9, hC⟩ := b_by (E := E) (y1 := (e_s E (6 * c + 1))) hJ (by omega)
  refine r_aload_n (pc2 := 347) 1 dL_law_346 rfl rfl rfl rfl ?_
  refine r_aload_n (pc2 := 348) 0 dL_law_347 rfl rfl rfl rfl ?_
  refine r_iload_n (pc2 := 349) 3 dL_law_348 rfl rfl rfl ?_
  refine r_iconst (pc2 := 350) (v := 1) dL_law_349 (by decide) rfl ?_
  refine r_iadd (pc2 := 351) dL_law_350 rfl ?_
  refine r_sldN (pc2 := 352) (6 * c + 1) dL_law_351 (nI_add _ 1) (by omega) (by omega) rfl ?_
  refine r_callV1 (pc2 := 355) (As := [.int (e_s E (6 * c + 1))]) (st := []) kL_32 rfl rfl dL_law_352 c64 (by decide) rfl rfl (Nat.le_of_ble_eq_true rfl) (by omega) hC rfl (fun h hq352 => ?_)
  obtain ⟨⟨v9, c117⟩, hC2⟩ := hq352
  refine r_aload_n (pc2 := 356) 2 dL_law_355 rfl rfl rfl rfl ?_
  refine r_aload_n (pc2 := 357) 0 dL_law_356 rfl rfl rfl rfl ?_
  refine r_iload_n (pc2 := 358) 3 dL_law_357 rfl rfl rfl ?_
  refine r_iconst (pc2 := 359) (v := 1) dL_law_358 (by decide) rfl ?_
  refine r_iadd (pc2 := 360) dL_law_359 rfl ?_
  refine r_sldN (pc2 := 361) (6 * c + 1) dL_law_360 (nI_add _ 1) (by omega) (by omega) rfl ?_
  refine r_callV1 (pc2 := 364) (As := [.int (e_s E (6 * c + 1))]) (st := [.int x9]) kL_35 rfl rfl dL_law_361 c117 (by decide) rfl rfl (Nat.le_of_ble_eq_true rfl) (by omega) hC2 rfl (fun h hq361 => ?_)
  have hJ2 := hq361
  refine r_icmp_eq (tgt := 1273) (pc2 := 367) dL_law_364 (by decide) rfl (fun b364 => ?_) (fun b364 => ?_)
  · skip
    exact rest _ hJ2
  · exact absurd rfl b364
set_option maxRecDepth 20000 in
set_option maxHeartbeats 1000000 in
theorem lw_hour {E : EnvT} {h : Hp} {c : Nat} {Q : Option Value → Hp → Prop} (h6 : 6 * c + 6 ≤ e_n E) (hn : e_n E ≤ 3072) (hJ : JS h c) (rest : ∀ h2 : Hp, JS h2 (c + 1) → Fr E mL 656 1273 [.ref 61, .ref 64, .ref 117, .int (nI (6 * c))] [] h2 Q) : Fr E mL 656 369 [.ref 61, .ref 64, .ref 117, .int (nI (6 * c))] [] h Q := by
  obtain ⟨l9, c64⟩ := hJ.c64
  obtain ⟨x9, hC⟩ := b_hour (E := E) (y1 := (e_s E (6 * c + 1))) hJ (by omega)
  refine r_aload_n (pc2 := 370) 1 dL_law_369 rfl rfl rfl rfl ?_
  refine r_aload_n (pc2 := 371) 0 dL_law_370 rfl rfl rfl rfl ?_
  refine r_iload_n (pc2 := 372) 3 dL_law_371 rfl rfl rfl ?_
  refine r_iconst (pc2 := 373) (v := 1) dL_law_372 (by decide) rfl ?_
  refine r_iadd (pc2 := 374) dL_law_373 rfl ?_
  refine r_sldN (pc2 := 375) (6 * c + 1) dL_law_374 (nI_add _ 1) (by omega) (by omega) rfl ?_
  refine r_callV1 (pc2 := 378) (As := [.int (e_s E (6 * c + 1))]) (st := []) kL_36 rfl rfl dL_law_375 c64 (by decide) rfl rfl (Nat.le_of_ble_eq_true rfl) (by omega) hC rfl (fun h hq375 => ?_)
  obtain ⟨⟨v9, c117⟩, hC2⟩ := hq375
  refine r_aload_n (pc2 := 379) 2 dL_law_378 rfl rfl rfl rfl ?_
  refine r_aload_n (pc2 := 380) 0 dL_law_379 rfl rfl rfl rfl ?_
  refine r_iload_n (pc2 := 381) 3 dL_law_380 rfl rfl rfl ?_
  refine r_iconst (pc2 := 382) (v := 1) dL_law_381 (by decide) rfl ?_
  refine r_iadd (pc2 := 383) dL_law_382 rfl ?_
  refine r_sldN (pc2 := 384) (6 * c + 1) dL_law_383 (nI_add _ 1) (by omega) (by omega) rfl ?_
  refine r_callV1 (pc2 := 387) (As := [.int (e_s E (6 * c + 1))]) (st := [.int x9]) kL_39 rfl rfl dL_law_384 c117 (by decide) rfl rfl (Nat.le_of_ble_eq_true rfl) (by omega) hC2 rfl (fun h hq384 => ?_)
  have hJ2 := hq384
  refine r_icmp_eq (tgt := 1273) (pc2 := 390) dL_law_387 (by decide) rfl (fun b387 => ?_) (fun b387 => ?_)
  · skip
    exact rest _ hJ2
  · exact absurd rfl b387
set_option maxRecDepth 20000 in
set_option maxHeartbeats 1000000 in
theorem lw_hours {E : EnvT} {h : Hp} {c : Nat} {Q : Option Value → Hp → Prop} (h6 : 6 * c + 6 ≤ e_n E) (hn : e_n E ≤ 3072) (hJ : JS h c) (rest : ∀ h2 : Hp, JS h2 (c + 1) → Fr E mL 656 1273 [.ref 61, .ref 64, .ref 117, .int (nI (6 * c))] [] h2 Q) : Fr E mL 656 392 [.ref 61, .ref 64, .ref 117, .int (nI (6 * c))] [] h Q := by
  obtain ⟨l9, c64⟩ := hJ.c64
  obtain ⟨x9, hC⟩ := b_hours (E := E) (y1 := (e_s E (6 * c + 1))) hJ (by omega)
  refine r_aload_n (pc2 := 393) 1 dL_law_392 rfl rfl rfl rfl ?_
  refine r_aload_n (pc2 := 394) 0 dL_law_393 rfl rfl rfl rfl ?_
  refine r_iload_n (pc2 := 395) 3 dL_law_394 rfl rfl rfl ?_
  refine r_iconst (pc2 := 396) (v := 1) dL_law_395 (by decide) rfl ?_
  refine r_iadd (pc2 := 397) dL_law_396 rfl ?_
  refine r_sldN (pc2 := 398) (6 * c + 1) dL_law_397 (nI_add _ 1) (by omega) (by omega) rfl ?_
  refine r_callV1 (pc2 := 401) (As := [.int (e_s E (6 * c + 1))]) (st := []) kL_40 rfl rfl dL_law_398 c64 (by decide) rfl rfl (Nat.le_of_ble_eq_true rfl) (by omega) hC rfl (fun h hq398 => ?_)
  obtain ⟨⟨v9, c117⟩, hC2⟩ := hq398
  refine r_aload_n (pc2 := 402) 2 dL_law_401 rfl rfl rfl rfl ?_
  refine r_aload_n (pc2 := 403) 0 dL_law_402 rfl rfl rfl rfl ?_
  refine r_iload_n (pc2 := 404) 3 dL_law_403 rfl rfl rfl ?_
  refine r_iconst (pc2 := 405) (v := 1) dL_law_404 (by decide) rfl ?_
  refine r_iadd (pc2 := 406) dL_law_405 rfl ?_
  refine r_sldN (pc2 := 407) (6 * c + 1) dL_law_406 (nI_add _ 1) (by omega) (by omega) rfl ?_
  refine r_callV1 (pc2 := 410) (As := [.int (e_s E (6 * c + 1))]) (st := [.int x9]) kL_43 rfl rfl dL_law_407 c117 (by decide) rfl rfl (Nat.le_of_ble_eq_true rfl) (by omega) hC2 rfl (fun h hq407 => ?_)
  have hJ2 := hq407
  refine r_icmp_eq (tgt := 1273) (pc2 := 413) dL_law_410 (by decide) rfl (fun b410 => ?_) (fun b410 => ?_)
  · skip
    exact rest _ hJ2
  · exact absurd rfl b410
set_option maxRecDepth 20000 in
set_option maxHeartbeats 1000000 in
theorem lw_hint {E : EnvT} {h : Hp} {c : Nat} {Q : Option Value → Hp → Prop} (h6 : 6 * c + 6 ≤ e_n E) (hn : e_n E ≤ 3072) (hJ : JS h c) (rest : ∀ h2 : Hp, JS h2 (c + 1) → Fr E mL 656 1273 [.ref 61, .ref 64, .ref 117, .int (nI (6 * c))] [] h2 Q) : Fr E mL 656 415 [.ref 61, .ref 64, .ref 117, .int (nI (6 * c))] [] h Q := by
  obtain ⟨l9, c64⟩ := hJ.c64
  obtain ⟨x9, hC⟩ := b_hint (E := E) (y1 := (e_s E (6 * c + 1))) (y2 := (e_s E (6 * c + 2))) (y3 := (e_s E (6 * c + 3))) hJ (by omega)
  refine r_aload_n (pc2 := 416) 1 dL_law_415 rfl rfl rfl rfl ?_
  refine r_aload_n (pc2 := 417) 0 dL_law_416 rfl rfl rfl rfl ?_
  refine r_iload_n (pc2 := 418) 3 dL_law_417 rfl rfl rfl ?_
  refine r_iconst (pc2 := 419) (v := 1) dL_law_418 (by decide) rfl ?_
  refine r_iadd (pc2 := 420) dL_law_419 rfl ?_
  refine r_sldN (pc2 := 421) (6 * c + 1) dL_law_420 (nI_add _ 1) (by omega) (by omega) rfl ?_
  refine r_aload_n (pc2 := 422) 0 dL_law_421 rfl rfl rfl rfl ?_
  refine r_iload_n (pc2 := 423) 3 dL_law_422 rfl rfl rfl ?_
  refine r_iconst (pc2 := 424) (v := 2) dL_law_423 (by decide) rfl ?_
  refine r_iadd (pc2 := 425) dL_law_424 rfl ?_
  refine r_sldN (pc2 := 426) (6 * c + 2) dL_law_425 (nI_add _ 2) (by omega) (by omega) rfl ?_
  refine r_aload_n (pc2 := 427) 0 dL_law_426 rfl rfl rfl rfl ?_
  refine r_iload_n (pc2 := 428) 3 dL_law_427 rfl rfl rfl ?_
  refine r_iconst (pc2 := 429) (v := 3) dL_law_428 (by decide) rfl ?_
  refine r_iadd (pc2 := 430) dL_law_429 rfl ?_
  refine r_sldN (pc2 := 431) (6 * c + 3) dL_law_430 (nI_add _ 3) (by omega) (by omega) rfl ?_
  refine r_callV1 (pc2 := 434) (As := [.int (e_s E (6 * c + 1)), .int (e_s E (6 * c + 2)), .int (e_s E (6 * c + 3))]) (st := []) kL_44 rfl rfl dL_law_431 c64 (by decide) rfl rfl (Nat.le_of_ble_eq_true rfl) (by omega) hC rfl (fun h hq431 => ?_)
  obtain ⟨⟨v9, c117⟩, hC2⟩ := hq431
  refine r_aload_n (pc2 := 435) 2 dL_law_434 rfl rfl rfl rfl ?_
  refine r_aload_n (pc2 := 436) 0 dL_law_435 rfl rfl rfl rfl ?_
  refine r_iload_n (pc2 := 437) 3 dL_law_436 rfl rfl rfl ?_
  refine r_iconst (pc2 := 438) (v := 1) dL_law_437 (by decide) rfl ?_
  refine r_iadd (pc2 := 439) dL_law_438 rfl ?_
  refine r_sldN (pc2 := 440) (6 * c + 1) dL_law_439 (nI_add _ 1) (by omega) (by omega) rfl ?_
  refine r_aload_n (pc2 := 441) 0 dL_law_440 rfl rfl rfl rfl ?_
  refine r_iload_n (pc2 := 442) 3 dL_law_441 rfl rfl rfl ?_
  refine r_iconst (pc2 := 443) (v := 2) dL_law_442 (by decide) rfl ?_
  refine r_iadd (pc2 := 444) dL_law_443 rfl ?_
  refine r_sldN (pc2 := 445) (6 * c + 2) dL_law_444 (nI_add _ 2) (by omega) (by omega) rfl ?_
  refine r_aload_n (pc2 := 446) 0 dL_law_445 rfl rfl rfl rfl ?_
  refine r_iload_n (pc2 := 447) 3 dL_law_446 rfl rfl rfl ?_
  refine r_iconst (pc2 := 448) (v := 3) dL_law_447 (by decide) rfl ?_
  refine r_iadd (pc2 := 449) dL_law_448 rfl ?_
  refine r_sldN (pc2 := 450) (6 * c + 3) dL_law_449 (nI_add _ 3) (by omega) (by omega) rfl ?_
  refine r_callV1 (pc2 := 453) (As := [.int (e_s E (6 * c + 1)), .int (e_s E (6 * c + 2)), .int (e_s E (6 * c + 3))]) (st := [.int x9]) kL_48 rfl rfl dL_law_450 c117 (by decide) rfl rfl (Nat.le_of_ble_eq_true rfl) (by omega) hC2 rfl (fun h hq450 => ?_)
  have hJ2 := hq450
  refine r_icmp_eq (tgt := 1273) (pc2 := 456) dL_law_453 (by decide) rfl (fun b453 => ?_) (fun b453 => ?_)
  · skip
    exact rest _ hJ2
  · exact absurd rfl b453
set_option maxRecDepth 20000 in
set_option maxHeartbeats 1000000 in
theorem lw_draught {E : EnvT} {h : Hp} {c : Nat} {Q : Option Value → Hp → Prop} (h6 : 6 * c + 6 ≤ e_n E) (hn : e_n E ≤ 3072) (hJ : JS h c) (rest : ∀ h2 : Hp, JS h2 (c + 1) → Fr E mL 656 1273 [.ref 61, .ref 64, .ref 117, .int (nI (6 * c))] [] h2 Q) : Fr E mL 656 458 [.ref 61, .ref 64, .ref 117, .int (nI (6 * c))] [] h Q := by
  obtain ⟨l9, c64⟩ := hJ.c64
  obtain ⟨x9, hC⟩ := b_draught (E := E) (y1 := (e_s E (6 * c + 1))) hJ (by omega)
  refine r_aload_n (pc2 := 459) 1 dL_law_458 rfl rfl rfl rfl ?_
  refine r_aload_n (pc2 := 460) 0 dL_law_459 rfl rfl rfl rfl ?_
  refine r_iload_n (pc2 := 461) 3 dL_law_460 rfl rfl rfl ?_
  refine r_iconst (pc2 := 462) (v := 1) dL_law_461 (by decide) rfl ?_
  refine r_iadd (pc2 := 463) dL_law_462 rfl ?_
  refine r_sldN (pc2 := 464) (6 * c + 1) dL_law_463 (nI_add _ 1) (by omega) (by omega) rfl ?_
  refine r_callV1 (pc2 := 467) (As := [.int (e_s E (6 * c + 1))]) (st := []) kL_49 rfl rfl dL_law_464 c64 (by decide) rfl rfl (Nat.le_of_ble_eq_true rfl) (by omega) hC rfl (fun h hq464 => ?_)
  obtain ⟨⟨v9, c117⟩, hC2⟩ := hq464
  refine r_aload_n (pc2 := 468) 2 dL_law_467 rfl rfl rfl rfl ?_
  refine r_aload_n (pc2 := 469) 0 dL_law_468 rfl rfl rfl rfl ?_
  refine r_iload_n (pc2 := 470) 3 dL_law_469 rfl rfl rfl ?_
  refine r_iconst (pc2 := 471) (v := 1) dL_law_470 (by decide) rfl ?_
  refine r_iadd (pc2 := 472) dL_law_471 rfl ?_
  refine r_sldN (pc2 := 473) (6 * c + 1) dL_law_472 (nI_add _ 1) (by omega) (by omega) rfl ?_
  refine r_callV1 (pc2 := 476) (As := [.int (e_s E (6 * c + 1))]) (st := [.int x9]) kL_52 rfl rfl dL_law_473 c117 (by decide) rfl rfl (Nat.le_of_ble_eq_true rfl) (by omega) hC2 rfl (fun h hq473 => ?_)
  have hJ2 := hq473
  refine r_icmp_eq (tgt := 1273) (pc2 := 479) dL_law_476 (by decide) rfl (fun b476 => ?_) (fun b476 => ?_)
  · skip
    exact rest _ hJ2
  · exact absurd rfl b476
set_option maxRecDepth 20000 in
set_option maxHeartbeats 1000000 in
theorem lw_undo {E : EnvT} {h : Hp} {c : Nat} {Q : Option Value → Hp → Prop} (h6 : 6 * c + 6 ≤ e_n E) (hn : e_n E ≤ 3072) (hJ : JS h c) (rest : ∀ h2 : Hp, JS h2 (c + 1) → Fr E mL 656 1273 [.ref 61, .ref 64, .ref 117, .int (nI (6 * c))] [] h2 Q) : Fr E mL 656 481 [.ref 61, .ref 64, .ref 117, .int (nI (6 * c))] [] h Q := by
  obtain ⟨l9, c64⟩ := hJ.c64
  obtain ⟨x9, hC⟩ := b_undo (E := E) (y1 := (e_s E (6 * c + 1))) hJ (by omega)
  refine r_aload_n (pc2 := 482) 1 dL_law_481 rfl rfl rfl rfl ?_
  refine r_aload_n (pc2 := 483) 0 dL_law_482 rfl rfl rfl rfl ?_
  refine r_iload_n (pc2 := 484) 3 dL_law_483 rfl rfl rfl ?_
  refine r_iconst (pc2 := 485) (v := 1) dL_law_484 (by decide) rfl ?_
  refine r_iadd (pc2 := 486) dL_law_485 rfl ?_
  refine r_sldN (pc2 := 487) (6 * c + 1) dL_law_486 (nI_add _ 1) (by omega) (by omega) rfl ?_
  refine r_callV1 (pc2 := 490) (As := [.int (e_s E (6 * c + 1))]) (st := []) kL_53 rfl rfl dL_law_487 c64 (by decide) rfl rfl (Nat.le_of_ble_eq_true rfl) (by omega) hC rfl (fun h hq487 => ?_)
  obtain ⟨⟨v9, c117⟩, hC2⟩ := hq487
  refine r_aload_n (pc2 := 491) 2 dL_law_490 rfl rfl rfl rfl ?_
  refine r_aload_n (pc2 := 492) 0 dL_law_491 rfl rfl rfl rfl ?_
  refine r_iload_n (pc2 := 493) 3 dL_law_492 rfl rfl rfl ?_
  refine r_iconst (pc2 := 494) (v := 1) dL_law_493 (by decide) rfl ?_
  refine r_iadd (pc2 := 495) dL_law_494 rfl ?_
  refine r_sldN (pc2 := 496) (6 * c + 1) dL_law_495 (nI_add _ 1) (by omega) (by omega) rfl ?_
  refine r_callV1 (pc2 := 499) (As := [.int (e_s E (6 * c + 1))]) (st := [.int x9]) kL_56 rfl rfl dL_law_496 c117 (by decide) rfl rfl (Nat.le_of_ble_eq_true rfl) (by omega) hC2 rfl (fun h hq496 => ?_)
  have hJ2 := hq496
  refine r_icmp_eq (tgt := 1273) (pc2 := 502) dL_law_499 (by decide) rfl (fun b499 => ?_) (fun b499 => ?_)
  · skip
    exact rest _ hJ2
  · exact absurd rfl b499
set_option maxRecDepth 20000 in
set_option maxHeartbeats 1000000 in
theorem lw_judge {E : EnvT} {h : Hp} {c : Nat} {Q : Option Value → Hp → Prop} (h6 : 6 * c + 6 ≤ e_n E) (hn : e_n E ≤ 3072) (hJ : JS h c) (rest : ∀ h2 : Hp, JS h2 (c + 1) → Fr E mL 656 1273 [.ref 61, .ref 64, .ref 117, .int (nI (6 * c))] [] h2 Q) : Fr E mL 656 504 [.ref 61, .ref 64, .ref 117, .int (nI (6 * c))] [] h Q := by
  obtain ⟨l9, c64⟩ := hJ.c64
  obtain ⟨x9, hC⟩ := b_judge (E := E) (y1 := (e_s E (6 * c + 1))) (y2 := (e_s E (6 * c + 2))) hJ (by omega)
  refine r_aload_n (pc2 := 505) 1 dL_law_504 rfl rfl rfl rfl ?_
  refine r_aload_n (pc2 := 506) 0 dL_law_505 rfl rfl rfl rfl ?_
  refine r_iload_n (pc2 := 507) 3 dL_law_506 rfl rfl rfl ?_
  refine r_iconst (pc2 := 508) (v := 1) dL_law_507 (by decide) rfl ?_
  refine r_iadd (pc2 := 509) dL_law_508 rfl ?_
  refine r_sldN (pc2 := 510) (6 * c + 1) dL_law_509 (nI_add _ 1) (by omega) (by omega) rfl ?_
  refine r_aload_n (pc2 := 511) 0 dL_law_510 rfl rfl rfl rfl ?_
  refine r_iload_n (pc2 := 512) 3 dL_law_511 rfl rfl rfl ?_
  refine r_iconst (pc2 := 513) (v := 2) dL_law_512 (by decide) rfl ?_
  refine r_iadd (pc2 := 514) dL_law_513 rfl ?_
  refine r_sldN (pc2 := 515) (6 * c + 2) dL_law_514 (nI_add _ 2) (by omega) (by omega) rfl ?_
  refine r_callV1 (pc2 := 518) (As := [.int (e_s E (6 * c + 1)), .int (e_s E (6 * c + 2))]) (st := []) kL_57 rfl rfl dL_law_515 c64 (by decide) rfl rfl (Nat.le_of_ble_eq_true rfl) (by omega) hC rfl (fun h hq515 => ?_)
  obtain ⟨⟨v9, c117⟩, hC2⟩ := hq515
  refine r_aload_n (pc2 := 519) 2 dL_law_518 rfl rfl rfl rfl ?_
  refine r_aload_n (pc2 := 520) 0 dL_law_519 rfl rfl rfl rfl ?_
  refine r_iload_n (pc2 := 521) 3 dL_law_520 rfl rfl rfl ?_
  refine r_iconst (pc2 := 522) (v := 1) dL_law_521 (by decide) rfl ?_
  refine r_iadd (pc2 := 523) dL_law_522 rfl ?_
  refine r_sldN (pc2 := 524) (6 * c + 1) dL_law_523 (nI_add _ 1) (by omega) (by omega) rfl ?_
  refine r_aload_n (pc2 := 525) 0 dL_law_524 rfl rfl rfl rfl ?_
  refine r_iload_n (pc2 := 526) 3 dL_law_525 rfl rfl rfl ?_
  refine r_iconst (pc2 := 527) (v := 2) dL_law_526 (by decide) rfl ?_
  refine r_iadd (pc2 := 528) dL_law_527 rfl ?_
  refine r_sldN (pc2 := 529) (6 * c + 2) dL_law_528 (nI_add _ 2) (by omega) (by omega) rfl ?_
  refine r_callV1 (pc2 := 532) (As := [.int (e_s E (6 * c + 1)), .int (e_s E (6 * c + 2))]) (st := [.int x9]) kL_60 rfl rfl dL_law_529 c117 (by decide) rfl rfl (Nat.le_of_ble_eq_true rfl) (by omega) hC2 rfl (fun h hq529 => ?_)
  have hJ2 := hq529
  refine r_icmp_eq (tgt := 1273) (pc2 := 535) dL_law_532 (by decide) rfl (fun b532 => ?_) (fun b532 => ?_)
  · skip
    exact rest _ hJ2
  · exact absurd rfl b532
set_option maxRecDepth 20000 in
set_option maxHeartbeats 1000000 in
theorem lw_perform {E : EnvT} {h : Hp} {c : Nat} {Q : Option Value → Hp → Prop} (h6 : 6 * c + 6 ≤ e_n E) (hn : e_n E ≤ 3072) (hJ : JS h c) (rest : ∀ h2 : Hp, JS h2 (c + 1) → Fr E mL 656 1273 [.ref 61, .ref 64, .ref 117, .int (nI (6 * c))] [] h2 Q) : Fr E mL 656 537 [.ref 61, .ref 64, .ref 117, .int (nI (6 * c))] [] h Q := by
  obtain ⟨l9, c64⟩ := hJ.c64
  obtain ⟨x9, hC⟩ := b_perform (E := E) (y1 := (e_s E (6 * c + 1))) hJ (by omega)
  refine r_aload_n (pc2 := 538) 1 dL_law_537 rfl rfl rfl rfl ?_
  refine r_aload_n (pc2 := 539) 0 dL_law_538 rfl rfl rfl rfl ?_
  refine r_iload_n (pc2 := 540) 3 dL_law_539 rfl rfl rfl ?_
  refine r_iconst (pc2 := 541) (v := 1) dL_law_540 (by decide) rfl ?_
  refine r_iadd (pc2 := 542) dL_law_541 rfl ?_
  refine r_sldN (pc2 := 543) (6 * c + 1) dL_law_542 (nI_add _ 1) (by omega) (by omega) rfl ?_
  refine r_callV1 (pc2 := 546) (As := [.int (e_s E (6 * c + 1))]) (st := []) kL_61 rfl rfl dL_law_543 c64 (by decide) rfl rfl (Nat.le_of_ble_eq_true rfl) (by omega) hC rfl (fun h hq543 => ?_)
  obtain ⟨⟨v9, c117⟩, hC2⟩ := hq543
  refine r_aload_n (pc2 := 547) 2 dL_law_546 rfl rfl rfl rfl ?_
  refine r_aload_n (pc2 := 548) 0 dL_law_547 rfl rfl rfl rfl ?_
  refine r_iload_n (pc2 := 549) 3 dL_law_548 rfl rfl rfl ?_
  refine r_iconst (pc2 := 550) (v := 1) dL_law_549 (by decide) rfl ?_
  refine r_iadd (pc2 := 551) dL_law_550 rfl ?_
  refine r_sldN (pc2 := 552) (6 * c + 1) dL_law_551 (nI_add _ 1) (by omega) (by omega) rfl ?_
  refine r_callV1 (pc2 := 555) (As := [.int (e_s E (6 * c + 1))]) (st := [.int x9]) kL_64 rfl rfl dL_law_552 c117 (by decide) rfl rfl (Nat.le_of_ble_eq_true rfl) (by omega) hC2 rfl (fun h hq552 => ?_)
  have hJ2 := hq552
  refine r_icmp_eq (tgt := 1273) (pc2 := 558) dL_law_555 (by decide) rfl (fun b555 => ?_) (fun b555 => ?_)
  · skip
    exact rest _ hJ2
  · exact absurd rfl b555
set_option maxRecDepth 20000 in
set_option maxHeartbeats 1000000 in
theorem lw_night {E : EnvT} {h : Hp} {c : Nat} {Q : Option Value → Hp → Prop} (h6 : 6 * c + 6 ≤ e_n E) (hn : e_n E ≤ 3072) (hJ : JS h c) (rest : ∀ h2 : Hp, JS h2 (c + 1) → Fr E mL 656 1273 [.ref 61, .ref 64, .ref 117, .int (nI (6 * c))] [] h2 Q) : Fr E mL 656 560 [.ref 61, .ref 64, .ref 117, .int (nI (6 * c))] [] h Q := by
  obtain ⟨l9, c64⟩ := hJ.c64
  obtain ⟨x9, hC⟩ := b_night (E := E) (y1 := (e_s E (6 * c + 1))) (y2 := (e_s E (6 * c + 2))) hJ (by omega)
  refine r_aload_n (pc2 := 561) 1 dL_law_560 rfl rfl rfl rfl ?_
  refine r_aload_n (pc2 := 562) 0 dL_law_561 rfl rfl rfl rfl ?_
  refine r_iload_n (pc2 := 563) 3 dL_law_562 rfl rfl rfl ?_
  refine r_iconst (pc2 := 564) (v := 1) dL_law_563 (by decide) rfl ?_
  refine r_iadd (pc2 := 565) dL_law_564 rfl ?_
  refine r_sldN (pc2 := 566) (6 * c + 1) dL_law_565 (nI_add _ 1) (by omega) (by omega) rfl ?_
  refine r_aload_n (pc2 := 567) 0 dL_law_566 rfl rfl rfl rfl ?_
  refine r_iload_n (pc2 := 568) 3 dL_law_567 rfl rfl rfl ?_
  refine r_iconst (pc2 := 569) (v := 2) dL_law_568 (by decide) rfl ?_
  refine r_iadd (pc2 := 570) dL_law_569 rfl ?_
  refine r_sldN (pc2 := 571) (6 * c + 2) dL_law_570 (nI_add _ 2) (by omega) (by omega) rfl ?_
  refine r_callV1 (pc2 := 574) (As := [.int (e_s E (6 * c + 1)), .int (e_s E (6 * c + 2))]) (st := []) kL_65 rfl rfl dL_law_571 c64 (by decide) rfl rfl (Nat.le_of_ble_eq_true rfl) (by omega) hC rfl (fun h hq571 => ?_)
  obtain ⟨⟨v9, c117⟩, hC2⟩ := hq571
  refine r_aload_n (pc2 := 575) 2 dL_law_574 rfl rfl rfl rfl ?_
  refine r_aload_n (pc2 := 576) 0 dL_law_575 rfl rfl rfl rfl ?_
  refine r_iload_n (pc2 := 577) 3 dL_law_576 rfl rfl rfl ?_
  refine r_iconst (pc2 := 578) (v := 1) dL_law_577 (by decide) rfl ?_
  refine r_iadd (pc2 := 579) dL_law_578 rfl ?_
  refine r_sldN (pc2 := 580) (6 * c + 1) dL_law_579 (nI_add _ 1) (by omega) (by omega) rfl ?_
  refine r_aload_n (pc2 := 581) 0 dL_law_580 rfl rfl rfl rfl ?_
  refine r_iload_n (pc2 := 582) 3 dL_law_581 rfl rfl rfl ?_
  refine r_iconst (pc2 := 583) (v := 2) dL_law_582 (by decide) rfl ?_
  refine r_iadd (pc2 := 584) dL_law_583 rfl ?_
  refine r_sldN (pc2 := 585) (6 * c + 2) dL_law_584 (nI_add _ 2) (by omega) (by omega) rfl ?_
  refine r_callV1 (pc2 := 588) (As := [.int (e_s E (6 * c + 1)), .int (e_s E (6 * c + 2))]) (st := [.int x9]) kL_68 rfl rfl dL_law_585 c117 (by decide) rfl rfl (Nat.le_of_ble_eq_true rfl) (by omega) hC2 rfl (fun h hq585 => ?_)
  have hJ2 := hq585
  refine r_icmp_eq (tgt := 1273) (pc2 := 591) dL_law_588 (by decide) rfl (fun b588 => ?_) (fun b588 => ?_)
  · skip
    exact rest _ hJ2
  · exact absurd rfl b588
set_option maxRecDepth 20000 in
set_option maxHeartbeats 1000000 in
theorem lw_soonest {E : EnvT} {h : Hp} {c : Nat} {Q : Option Value → Hp → Prop} (h6 : 6 * c + 6 ≤ e_n E) (hn : e_n E ≤ 3072) (hJ : JS h c) (rest : ∀ h2 : Hp, JS h2 (c + 1) → Fr E mL 656 1273 [.ref 61, .ref 64, .ref 117, .int (nI (6 * c))] [] h2 Q) : Fr E mL 656 593 [.ref 61, .ref 64, .ref 117, .int (nI (6 * c))] [] h Q := by
  obtain ⟨l9, c64⟩ := hJ.c64
  obtain ⟨x9, hC⟩ := b_soonest (E := E) (y1 := (e_s E (6 * c + 1))) hJ (by omega)
  refine r_aload_n (pc2 := 594) 1 dL_law_593 rfl rfl rfl rfl ?_
  refine r_aload_n (pc2 := 595) 0 dL_law_594 rfl rfl rfl rfl ?_
  refine r_iload_n (pc2 := 596) 3 dL_law_595 rfl rfl rfl ?_
  refine r_iconst (pc2 := 597) (v := 1) dL_law_596 (by decide) rfl ?_
  refine r_iadd (pc2 := 598) dL_law_597 rfl ?_
  refine r_sldN (pc2 := 599) (6 * c + 1) dL_law_598 (nI_add _ 1) (by omega) (by omega) rfl ?_
  refine r_callV1 (pc2 := 602) (As := [.int (e_s E (6 * c + 1))]) (st := []) kL_69 rfl rfl dL_law_599 c64 (by decide) rfl rfl (Nat.le_of_ble_eq_true rfl) (by omega) hC rfl (fun h hq599 => ?_)
  obtain ⟨⟨v9, c117⟩, hC2⟩ := hq599
  refine r_aload_n (pc2 := 603) 2 dL_law_602 rfl rfl rfl rfl ?_
  refine r_aload_n (pc2 := 604) 0 dL_law_603 rfl rfl rfl rfl ?_
  refine r_iload_n (pc2 := 605) 3 dL_law_604 rfl rfl rfl ?_
  refine r_iconst (pc2 := 606) (v := 1) dL_law_605 (by decide) rfl ?_
  refine r_iadd (pc2 := 607) dL_law_606 rfl ?_
  refine r_sldN (pc2 := 608) (6 * c + 1) dL_law_607 (nI_add _ 1) (by omega) (by omega) rfl ?_
  refine r_callV1 (pc2 := 611) (As := [.int (e_s E (6 * c + 1))]) (st := [.int x9]) kL_72 rfl rfl dL_law_608 c117 (by decide) rfl rfl (Nat.le_of_ble_eq_true rfl) (by omega) hC2 rfl (fun h hq608 => ?_)
  have hJ2 := hq608
  refine r_icmp_eq (tgt := 1273) (pc2 := 614) dL_law_611 (by decide) rfl (fun b611 => ?_) (fun b611 => ?_)
  · skip
    exact rest _ hJ2
  · exact absurd rfl b611
set_option maxRecDepth 20000 in
set_option maxHeartbeats 1000000 in
theorem lw_way {E : EnvT} {h : Hp} {c : Nat} {Q : Option Value → Hp → Prop} (h6 : 6 * c + 6 ≤ e_n E) (hn : e_n E ≤ 3072) (hJ : JS h c) (rest : ∀ h2 : Hp, JS h2 (c + 1) → Fr E mL 656 1273 [.ref 61, .ref 64, .ref 117, .int (nI (6 * c))] [] h2 Q) : Fr E mL 656 616 [.ref 61, .ref 64, .ref 117, .int (nI (6 * c))] [] h Q := by
  obtain ⟨l9, c64⟩ := hJ.c64
  obtain ⟨x9, hC⟩ := b_way (E := E) (y1 := (e_s E (6 * c + 1))) (y2 := (e_s E (6 * c + 2))) hJ (by omega)
  refine r_aload_n (pc2 := 617) 1 dL_law_616 rfl rfl rfl rfl ?_
  refine r_aload_n (pc2 := 618) 0 dL_law_617 rfl rfl rfl rfl ?_
  refine r_iload_n (pc2 := 619) 3 dL_law_618 rfl rfl rfl ?_
  refine r_iconst (pc2 := 620) (v := 1) dL_law_619 (by decide) rfl ?_
  refine r_iadd (pc2 := 621) dL_law_620 rfl ?_
  refine r_sldN (pc2 := 622) (6 * c + 1) dL_law_621 (nI_add _ 1) (by omega) (by omega) rfl ?_
  refine r_aload_n (pc2 := 623) 0 dL_law_622 rfl rfl rfl rfl ?_
  refine r_iload_n (pc2 := 624) 3 dL_law_623 rfl rfl rfl ?_
  refine r_iconst (pc2 := 625) (v := 2) dL_law_624 (by decide) rfl ?_
  refine r_iadd (pc2 := 626) dL_law_625 rfl ?_
  refine r_sldN (pc2 := 627) (6 * c + 2) dL_law_626 (nI_add _ 2) (by omega) (by omega) rfl ?_
  refine r_callV1 (pc2 := 630) (As := [.int (e_s E (6 * c + 1)), .int (e_s E (6 * c + 2))]) (st := []) kL_73 rfl rfl dL_law_627 c64 (by decide) rfl rfl (Nat.le_of_ble_eq_true rfl) (by omega) hC rfl (fun h hq627 => ?_)
  obtain ⟨⟨v9, c117⟩, hC2⟩ := hq627
  refine r_aload_n (pc2 := 631) 2 dL_law_630 rfl rfl rfl rfl ?_
  refine r_aload_n (pc2 := 632) 0 dL_law_631 rfl rfl rfl rfl ?_
  refine r_iload_n (pc2 := 633) 3 dL_law_632 rfl rfl rfl ?_
  refine r_iconst (pc2 := 634) (v := 1) dL_law_633 (by decide) rfl ?_
  refine r_iadd (pc2 := 635) dL_law_634 rfl ?_
  refine r_sldN (pc2 := 636) (6 * c + 1) dL_law_635 (nI_add _ 1) (by omega) (by omega) rfl ?_
  refine r_aload_n (pc2 := 637) 0 dL_law_636 rfl rfl rfl rfl ?_
  refine r_iload_n (pc2 := 638) 3 dL_law_637 rfl rfl rfl ?_
  refine r_iconst (pc2 := 639) (v := 2) dL_law_638 (by decide) rfl ?_
  refine r_iadd (pc2 := 640) dL_law_639 rfl ?_
  refine r_sldN (pc2 := 641) (6 * c + 2) dL_law_640 (nI_add _ 2) (by omega) (by omega) rfl ?_
  refine r_callV1 (pc2 := 644) (As := [.int (e_s E (6 * c + 1)), .int (e_s E (6 * c + 2))]) (st := [.int x9]) kL_76 rfl rfl dL_law_641 c117 (by decide) rfl rfl (Nat.le_of_ble_eq_true rfl) (by omega) hC2 rfl (fun h hq641 => ?_)
  have hJ2 := hq641
  refine r_icmp_eq (tgt := 1273) (pc2 := 647) dL_law_644 (by decide) rfl (fun b644 => ?_) (fun b644 => ?_)
  · skip
    exact rest _ hJ2
  · exact absurd rfl b644
set_option maxRecDepth 20000 in
set_option maxHeartbeats 1000000 in
theorem lw_rows {E : EnvT} {h : Hp} {c : Nat} {Q : Option Value → Hp → Prop} (h6 : 6 * c + 6 ≤ e_n E) (hn : e_n E ≤ 3072) (hJ : JS h c) (rest : ∀ h2 : Hp, JS h2 (c + 1) → Fr E mL 656 1273 [.ref 61, .ref 64, .ref 117, .int (nI (6 * c))] [] h2 Q) : Fr E mL 656 649 [.ref 61, .ref 64, .ref 117, .int (nI (6 * c))] [] h Q := by
  obtain ⟨l9, c64⟩ := hJ.c64
  obtain ⟨x9, hC⟩ := b_rows (E := E) (y1 := (e_s E (6 * c + 1))) (y2 := (e_s E (6 * c + 2))) hJ (by omega)
  refine r_aload_n (pc2 := 650) 1 dL_law_649 rfl rfl rfl rfl ?_
  refine r_aload_n (pc2 := 651) 0 dL_law_650 rfl rfl rfl rfl ?_
  refine r_iload_n (pc2 := 652) 3 dL_law_651 rfl rfl rfl ?_
  refine r_iconst (pc2 := 653) (v := 1) dL_law_652 (by decide) rfl ?_
  refine r_iadd (pc2 := 654) dL_law_653 rfl ?_
  refine r_sldN (pc2 := 655) (6 * c + 1) dL_law_654 (nI_add _ 1) (by omega) (by omega) rfl ?_
  refine r_aload_n (pc2 := 656) 0 dL_law_655 rfl rfl rfl rfl ?_
  refine r_iload_n (pc2 := 657) 3 dL_law_656 rfl rfl rfl ?_
  refine r_iconst (pc2 := 658) (v := 2) dL_law_657 (by decide) rfl ?_
  refine r_iadd (pc2 := 659) dL_law_658 rfl ?_
  refine r_sldN (pc2 := 660) (6 * c + 2) dL_law_659 (nI_add _ 2) (by omega) (by omega) rfl ?_
  refine r_callV1 (pc2 := 663) (As := [.int (e_s E (6 * c + 1)), .int (e_s E (6 * c + 2))]) (st := []) kL_77 rfl rfl dL_law_660 c64 (by decide) rfl rfl (Nat.le_of_ble_eq_true rfl) (by omega) hC rfl (fun h hq660 => ?_)
  obtain ⟨⟨v9, c117⟩, hC2⟩ := hq660
  refine r_aload_n (pc2 := 664) 2 dL_law_663 rfl rfl rfl rfl ?_
  refine r_aload_n (pc2 := 665) 0 dL_law_664 rfl rfl rfl rfl ?_
  refine r_iload_n (pc2 := 666) 3 dL_law_665 rfl rfl rfl ?_
  refine r_iconst (pc2 := 667) (v := 1) dL_law_666 (by decide) rfl ?_
  refine r_iadd (pc2 := 668) dL_law_667 rfl ?_
  refine r_sldN (pc2 := 669) (6 * c + 1) dL_law_668 (nI_add _ 1) (by omega) (by omega) rfl ?_
  refine r_aload_n (pc2 := 670) 0 dL_law_669 rfl rfl rfl rfl ?_
  refine r_iload_n (pc2 := 671) 3 dL_law_670 rfl rfl rfl ?_
  refine r_iconst (pc2 := 672) (v := 2) dL_law_671 (by decide) rfl ?_
  refine r_iadd (pc2 := 673) dL_law_672 rfl ?_
  refine r_sldN (pc2 := 674) (6 * c + 2) dL_law_673 (nI_add _ 2) (by omega) (by omega) rfl ?_
  refine r_callV1 (pc2 := 677) (As := [.int (e_s E (6 * c + 1)), .int (e_s E (6 * c + 2))]) (st := [.long x9]) kL_81 rfl rfl dL_law_674 c117 (by decide) rfl rfl (Nat.le_of_ble_eq_true rfl) (by omega) hC2 rfl (fun h hq674 => ?_)
  have hJ2 := hq674
  refine r_lcmp (pc2 := 678) dL_law_677 rfl ?_
  refine r_cast (0) (lgc_self x9) ?_
  refine r_if_eq (tgt := 1273) (pc2 := 681) dL_law_678 (by decide) rfl (fun b678 => ?_) (fun b678 => ?_)
  · skip
    exact rest _ hJ2
  · exact absurd rfl b678
set_option maxRecDepth 20000 in
set_option maxHeartbeats 1000000 in
theorem lw_can {E : EnvT} {h : Hp} {c : Nat} {Q : Option Value → Hp → Prop} (h6 : 6 * c + 6 ≤ e_n E) (hn : e_n E ≤ 3072) (hJ : JS h c) (rest : ∀ h2 : Hp, JS h2 (c + 1) → Fr E mL 656 1273 [.ref 61, .ref 64, .ref 117, .int (nI (6 * c))] [] h2 Q) : Fr E mL 656 683 [.ref 61, .ref 64, .ref 117, .int (nI (6 * c))] [] h Q := by
  obtain ⟨l9, c64⟩ := hJ.c64
  obtain ⟨x9, hC⟩ := b_can (E := E) hJ (by omega)
  refine r_aload_n (pc2 := 684) 1 dL_law_683 rfl rfl rfl rfl ?_
  refine r_callV1 (pc2 := 687) (As := []) (st := []) kL_82 rfl rfl dL_law_684 c64 (by decide) rfl rfl (Nat.le_of_ble_eq_true rfl) (by omega) hC rfl (fun h hq684 => ?_)
  obtain ⟨⟨v9, c117⟩, hC2⟩ := hq684
  refine r_aload_n (pc2 := 688) 2 dL_law_687 rfl rfl rfl rfl ?_
  refine r_callV1 (pc2 := 691) (As := []) (st := [.int x9]) kL_86 rfl rfl dL_law_688 c117 (by decide) rfl rfl (Nat.le_of_ble_eq_true rfl) (by omega) hC2 rfl (fun h hq688 => ?_)
  have hJ2 := hq688
  refine r_icmp_eq (tgt := 1273) (pc2 := 694) dL_law_691 (by decide) rfl (fun b691 => ?_) (fun b691 => ?_)
  · skip
    exact rest _ hJ2
  · exact absurd rfl b691
set_option maxRecDepth 20000 in
set_option maxHeartbeats 1000000 in
theorem lw_most {E : EnvT} {h : Hp} {c : Nat} {Q : Option Value → Hp → Prop} (h6 : 6 * c + 6 ≤ e_n E) (hn : e_n E ≤ 3072) (hJ : JS h c) (rest : ∀ h2 : Hp, JS h2 (c + 1) → Fr E mL 656 1273 [.ref 61, .ref 64, .ref 117, .int (nI (6 * c))] [] h2 Q) : Fr E mL 656 696 [.ref 61, .ref 64, .ref 117, .int (nI (6 * c))] [] h Q := by
  obtain ⟨l9, c64⟩ := hJ.c64
  obtain ⟨x9, hC⟩ := b_most (E := E) (y1 := (e_s E (6 * c + 1))) hJ (by omega)
  refine r_aload_n (pc2 := 697) 1 dL_law_696 rfl rfl rfl rfl ?_
  refine r_aload_n (pc2 := 698) 0 dL_law_697 rfl rfl rfl rfl ?_
  refine r_iload_n (pc2 := 699) 3 dL_law_698 rfl rfl rfl ?_
  refine r_iconst (pc2 := 700) (v := 1) dL_law_699 (by decide) rfl ?_
  refine r_iadd (pc2 := 701) dL_law_700 rfl ?_
  refine r_sldN (pc2 := 702) (6 * c + 1) dL_law_701 (nI_add _ 1) (by omega) (by omega) rfl ?_
  refine r_callV1 (pc2 := 705) (As := [.int (e_s E (6 * c + 1))]) (st := []) kL_87 rfl rfl dL_law_702 c64 (by decide) rfl rfl (Nat.le_of_ble_eq_true rfl) (by omega) hC rfl (fun h hq702 => ?_)
  obtain ⟨⟨v9, c117⟩, hC2⟩ := hq702
  refine r_aload_n (pc2 := 706) 2 dL_law_705 rfl rfl rfl rfl ?_
  refine r_aload_n (pc2 := 707) 0 dL_law_706 rfl rfl rfl rfl ?_
  refine r_iload_n (pc2 := 708) 3 dL_law_707 rfl rfl rfl ?_
  refine r_iconst (pc2 := 709) (v := 1) dL_law_708 (by decide) rfl ?_
  refine r_iadd (pc2 := 710) dL_law_709 rfl ?_
  refine r_sldN (pc2 := 711) (6 * c + 1) dL_law_710 (nI_add _ 1) (by omega) (by omega) rfl ?_
  refine r_callV1 (pc2 := 714) (As := [.int (e_s E (6 * c + 1))]) (st := [.int x9]) kL_90 rfl rfl dL_law_711 c117 (by decide) rfl rfl (Nat.le_of_ble_eq_true rfl) (by omega) hC2 rfl (fun h hq711 => ?_)
  have hJ2 := hq711
  refine r_icmp_eq (tgt := 1273) (pc2 := 717) dL_law_714 (by decide) rfl (fun b714 => ?_) (fun b714 => ?_)
  · skip
    exact rest _ hJ2
  · exact absurd rfl b714
set_option maxRecDepth 20000 in
set_option maxHeartbeats 1000000 in
theorem lw_deepest {E : EnvT} {h : Hp} {c : Nat} {Q : Option Value → Hp → Prop} (h6 : 6 * c + 6 ≤ e_n E) (hn : e_n E ≤ 3072) (hJ : JS h c) (rest : ∀ h2 : Hp, JS h2 (c + 1) → Fr E mL 656 1273 [.ref 61, .ref 64, .ref 117, .int (nI (6 * c))] [] h2 Q) : Fr E mL 656 719 [.ref 61, .ref 64, .ref 117, .int (nI (6 * c))] [] h Q := by
  obtain ⟨l9, c64⟩ := hJ.c64
  obtain ⟨x9, hC⟩ := b_deepest (E := E) hJ (by omega)
  refine r_aload_n (pc2 := 720) 1 dL_law_719 rfl rfl rfl rfl ?_
  refine r_callV1 (pc2 := 723) (As := []) (st := []) kL_91 rfl rfl dL_law_720 c64 (by decide) rfl rfl (Nat.le_of_ble_eq_true rfl) (by omega) hC rfl (fun h hq720 => ?_)
  obtain ⟨⟨v9, c117⟩, hC2⟩ := hq720
  refine r_aload_n (pc2 := 724) 2 dL_law_723 rfl rfl rfl rfl ?_
  refine r_callV1 (pc2 := 727) (As := []) (st := [.int x9]) kL_94 rfl rfl dL_law_724 c117 (by decide) rfl rfl (Nat.le_of_ble_eq_true rfl) (by omega) hC2 rfl (fun h hq724 => ?_)
  have hJ2 := hq724
  refine r_icmp_eq (tgt := 1273) (pc2 := 730) dL_law_727 (by decide) rfl (fun b727 => ?_) (fun b727 => ?_)
  · skip
    exact rest _ hJ2
  · exact absurd rfl b727
set_option maxRecDepth 20000 in
set_option maxHeartbeats 1000000 in
theorem lw_atOnce {E : EnvT} {h : Hp} {c : Nat} {Q : Option Value → Hp → Prop} (h6 : 6 * c + 6 ≤ e_n E) (hn : e_n E ≤ 3072) (hJ : JS h c) (rest : ∀ h2 : Hp, JS h2 (c + 1) → Fr E mL 656 1273 [.ref 61, .ref 64, .ref 117, .int (nI (6 * c))] [] h2 Q) : Fr E mL 656 732 [.ref 61, .ref 64, .ref 117, .int (nI (6 * c))] [] h Q := by
  obtain ⟨l9, c64⟩ := hJ.c64
  obtain ⟨x9, hC⟩ := b_atOnce (E := E) hJ (by omega)
  refine r_aload_n (pc2 := 733) 1 dL_law_732 rfl rfl rfl rfl ?_
  refine r_callV1 (pc2 := 736) (As := []) (st := []) kL_95 rfl rfl dL_law_733 c64 (by decide) rfl rfl (Nat.le_of_ble_eq_true rfl) (by omega) hC rfl (fun h hq733 => ?_)
  obtain ⟨⟨v9, c117⟩, hC2⟩ := hq733
  refine r_aload_n (pc2 := 737) 2 dL_law_736 rfl rfl rfl rfl ?_
  refine r_callV1 (pc2 := 740) (As := []) (st := [.int x9]) kL_98 rfl rfl dL_law_737 c117 (by decide) rfl rfl (Nat.le_of_ble_eq_true rfl) (by omega) hC2 rfl (fun h hq737 => ?_)
  have hJ2 := hq737
  refine r_icmp_eq (tgt := 1273) (pc2 := 743) dL_law_740 (by decide) rfl (fun b740 => ?_) (fun b740 => ?_)
  · skip
    exact rest _ hJ2
  · exact absurd rfl b740
set_option maxRecDepth 20000 in
set_option maxHeartbeats 1000000 in
theorem lw_stands {E : EnvT} {h : Hp} {c : Nat} {Q : Option Value → Hp → Prop} (h6 : 6 * c + 6 ≤ e_n E) (hn : e_n E ≤ 3072) (hJ : JS h c) (rest : ∀ h2 : Hp, JS h2 (c + 1) → Fr E mL 656 1273 [.ref 61, .ref 64, .ref 117, .int (nI (6 * c))] [] h2 Q) : Fr E mL 656 745 [.ref 61, .ref 64, .ref 117, .int (nI (6 * c))] [] h Q := by
  obtain ⟨l9, c64⟩ := hJ.c64
  obtain ⟨x9, hC⟩ := b_stands (E := E) hJ (by omega)
  refine r_aload_n (pc2 := 746) 1 dL_law_745 rfl rfl rfl rfl ?_
  refine r_callV1 (pc2 := 749) (As := []) (st := []) kL_99 rfl rfl dL_law_746 c64 (by decide) rfl rfl (Nat.le_of_ble_eq_true rfl) (by omega) hC rfl (fun h hq746 => ?_)
  obtain ⟨⟨v9, c117⟩, hC2⟩ := hq746
  refine r_aload_n (pc2 := 750) 2 dL_law_749 rfl rfl rfl rfl ?_
  refine r_callV1 (pc2 := 753) (As := []) (st := [.int x9]) kL_102 rfl rfl dL_law_750 c117 (by decide) rfl rfl (Nat.le_of_ble_eq_true rfl) (by omega) hC2 rfl (fun h hq750 => ?_)
  have hJ2 := hq750
  refine r_icmp_eq (tgt := 1273) (pc2 := 756) dL_law_753 (by decide) rfl (fun b753 => ?_) (fun b753 => ?_)
  · skip
    exact rest _ hJ2
  · exact absurd rfl b753
set_option maxRecDepth 20000 in
set_option maxHeartbeats 1000000 in
theorem lw_ways {E : EnvT} {h : Hp} {c : Nat} {Q : Option Value → Hp → Prop} (h6 : 6 * c + 6 ≤ e_n E) (hn : e_n E ≤ 3072) (hJ : JS h c) (rest : ∀ h2 : Hp, JS h2 (c + 1) → Fr E mL 656 1273 [.ref 61, .ref 64, .ref 117, .int (nI (6 * c))] [] h2 Q) : Fr E mL 656 758 [.ref 61, .ref 64, .ref 117, .int (nI (6 * c))] [] h Q := by
  obtain ⟨l9, c64⟩ := hJ.c64
  obtain ⟨x9, hC⟩ := b_ways (E := E) hJ (by omega)
  refine r_aload_n (pc2 := 759) 1 dL_law_758 rfl rfl rfl rfl ?_
  refine r_callV1 (pc2 := 762) (As := []) (st := []) kL_103 rfl rfl dL_law_759 c64 (by decide) rfl rfl (Nat.le_of_ble_eq_true rfl) (by omega) hC rfl (fun h hq759 => ?_)
  obtain ⟨⟨v9, c117⟩, hC2⟩ := hq759
  refine r_aload_n (pc2 := 763) 2 dL_law_762 rfl rfl rfl rfl ?_
  refine r_callV1 (pc2 := 766) (As := []) (st := [.int x9]) kL_106 rfl rfl dL_law_763 c117 (by decide) rfl rfl (Nat.le_of_ble_eq_true rfl) (by omega) hC2 rfl (fun h hq763 => ?_)
  have hJ2 := hq763
  refine r_icmp_eq (tgt := 1273) (pc2 := 769) dL_law_766 (by decide) rfl (fun b766 => ?_) (fun b766 => ?_)
  · skip
    exact rest _ hJ2
  · exact absurd rfl b766
set_option maxRecDepth 20000 in
set_option maxHeartbeats 1000000 in
theorem lw_first {E : EnvT} {h : Hp} {c : Nat} {Q : Option Value → Hp → Prop} (h6 : 6 * c + 6 ≤ e_n E) (hn : e_n E ≤ 3072) (hJ : JS h c) (rest : ∀ h2 : Hp, JS h2 (c + 1) → Fr E mL 656 1273 [.ref 61, .ref 64, .ref 117, .int (nI (6 * c))] [] h2 Q) : Fr E mL 656 771 [.ref 61, .ref 64, .ref 117, .int (nI (6 * c))] [] h Q := by
  obtain ⟨l9, c64⟩ := hJ.c64
  obtain ⟨x9, hC⟩ := b_first (E := E) (y1 := (e_s E (6 * c + 1))) hJ (by omega)
  refine r_aload_n (pc2 := 772) 1 dL_law_771 rfl rfl rfl rfl ?_
  refine r_aload_n (pc2 := 773) 0 dL_law_772 rfl rfl rfl rfl ?_
  refine r_iload_n (pc2 := 774) 3 dL_law_773 rfl rfl rfl ?_
  refine r_iconst (pc2 := 775) (v := 1) dL_law_774 (by decide) rfl ?_
  refine r_iadd (pc2 := 776) dL_law_775 rfl ?_
  refine r_sldN (pc2 := 777) (6 * c + 1) dL_law_776 (nI_add _ 1) (by omega) (by omega) rfl ?_
  refine r_callV1 (pc2 := 780) (As := [.int (e_s E (6 * c + 1))]) (st := []) kL_107 rfl rfl dL_law_777 c64 (by decide) rfl rfl (Nat.le_of_ble_eq_true rfl) (by omega) hC rfl (fun h hq777 => ?_)
  obtain ⟨⟨v9, c117⟩, hC2⟩ := hq777
  refine r_aload_n (pc2 := 781) 2 dL_law_780 rfl rfl rfl rfl ?_
  refine r_aload_n (pc2 := 782) 0 dL_law_781 rfl rfl rfl rfl ?_
  refine r_iload_n (pc2 := 783) 3 dL_law_782 rfl rfl rfl ?_
  refine r_iconst (pc2 := 784) (v := 1) dL_law_783 (by decide) rfl ?_
  refine r_iadd (pc2 := 785) dL_law_784 rfl ?_
  refine r_sldN (pc2 := 786) (6 * c + 1) dL_law_785 (nI_add _ 1) (by omega) (by omega) rfl ?_
  refine r_callV1 (pc2 := 789) (As := [.int (e_s E (6 * c + 1))]) (st := [.int x9]) kL_110 rfl rfl dL_law_786 c117 (by decide) rfl rfl (Nat.le_of_ble_eq_true rfl) (by omega) hC2 rfl (fun h hq786 => ?_)
  have hJ2 := hq786
  refine r_icmp_eq (tgt := 1273) (pc2 := 792) dL_law_789 (by decide) rfl (fun b789 => ?_) (fun b789 => ?_)
  · skip
    exact rest _ hJ2
  · exact absurd rfl b789
set_option maxRecDepth 20000 in
set_option maxHeartbeats 1000000 in
theorem lw_surely {E : EnvT} {h : Hp} {c : Nat} {Q : Option Value → Hp → Prop} (h6 : 6 * c + 6 ≤ e_n E) (hn : e_n E ≤ 3072) (hJ : JS h c) (rest : ∀ h2 : Hp, JS h2 (c + 1) → Fr E mL 656 1273 [.ref 61, .ref 64, .ref 117, .int (nI (6 * c))] [] h2 Q) : Fr E mL 656 794 [.ref 61, .ref 64, .ref 117, .int (nI (6 * c))] [] h Q := by
  obtain ⟨l9, c64⟩ := hJ.c64
  obtain ⟨x9, hC⟩ := b_surely (E := E) (y1 := (e_s E (6 * c + 1))) hJ (by omega)
  refine r_aload_n (pc2 := 795) 1 dL_law_794 rfl rfl rfl rfl ?_
  refine r_aload_n (pc2 := 796) 0 dL_law_795 rfl rfl rfl rfl ?_
  refine r_iload_n (pc2 := 797) 3 dL_law_796 rfl rfl rfl ?_
  refine r_iconst (pc2 := 798) (v := 1) dL_law_797 (by decide) rfl ?_
  refine r_iadd (pc2 := 799) dL_law_798 rfl ?_
  refine r_sldN (pc2 := 800) (6 * c + 1) dL_law_799 (nI_add _ 1) (by omega) (by omega) rfl ?_
  refine r_callV1 (pc2 := 803) (As := [.int (e_s E (6 * c + 1))]) (st := []) kL_111 rfl rfl dL_law_800 c64 (by decide) rfl rfl (Nat.le_of_ble_eq_true rfl) (by omega) hC rfl (fun h hq800 => ?_)
  obtain ⟨⟨v9, c117⟩, hC2⟩ := hq800
  refine r_aload_n (pc2 := 804) 2 dL_law_803 rfl rfl rfl rfl ?_
  refine r_aload_n (pc2 := 805) 0 dL_law_804 rfl rfl rfl rfl ?_
  refine r_iload_n (pc2 := 806) 3 dL_law_805 rfl rfl rfl ?_
  refine r_iconst (pc2 := 807) (v := 1) dL_law_806 (by decide) rfl ?_
  refine r_iadd (pc2 := 808) dL_law_807 rfl ?_
  refine r_sldN (pc2 := 809) (6 * c + 1) dL_law_808 (nI_add _ 1) (by omega) (by omega) rfl ?_
  refine r_callV1 (pc2 := 812) (As := [.int (e_s E (6 * c + 1))]) (st := [.int x9]) kL_114 rfl rfl dL_law_809 c117 (by decide) rfl rfl (Nat.le_of_ble_eq_true rfl) (by omega) hC2 rfl (fun h hq809 => ?_)
  have hJ2 := hq809
  refine r_icmp_eq (tgt := 1273) (pc2 := 815) dL_law_812 (by decide) rfl (fun b812 => ?_) (fun b812 => ?_)
  · skip
    exact rest _ hJ2
  · exact absurd rfl b812
set_option maxRecDepth 20000 in
set_option maxHeartbeats 1000000 in
theorem lw_odds {E : EnvT} {h : Hp} {c : Nat} {Q : Option Value → Hp → Prop} (h6 : 6 * c + 6 ≤ e_n E) (hn : e_n E ≤ 3072) (hJ : JS h c) (rest : ∀ h2 : Hp, JS h2 (c + 1) → Fr E mL 656 1273 [.ref 61, .ref 64, .ref 117, .int (nI (6 * c))] [] h2 Q) : Fr E mL 656 817 [.ref 61, .ref 64, .ref 117, .int (nI (6 * c))] [] h Q := by
  obtain ⟨l9, c64⟩ := hJ.c64
  obtain ⟨x9, hC⟩ := b_odds (E := E) (y1 := (e_s E (6 * c + 1))) (y2 := (e_s E (6 * c + 2))) (y3 := (e_s E (6 * c + 3))) hJ (by omega)
  refine r_aload_n (pc2 := 818) 1 dL_law_817 rfl rfl rfl rfl ?_
  refine r_aload_n (pc2 := 819) 0 dL_law_818 rfl rfl rfl rfl ?_
  refine r_iload_n (pc2 := 820) 3 dL_law_819 rfl rfl rfl ?_
  refine r_iconst (pc2 := 821) (v := 1) dL_law_820 (by decide) rfl ?_
  refine r_iadd (pc2 := 822) dL_law_821 rfl ?_
  refine r_sldN (pc2 := 823) (6 * c + 1) dL_law_822 (nI_add _ 1) (by omega) (by omega) rfl ?_
  refine r_aload_n (pc2 := 824) 0 dL_law_823 rfl rfl rfl rfl ?_
  refine r_iload_n (pc2 := 825) 3 dL_law_824 rfl rfl rfl ?_
  refine r_iconst (pc2 := 826) (v := 2) dL_law_825 (by decide) rfl ?_
  refine r_iadd (pc2 := 827) dL_law_826 rfl ?_
  refine r_sldN (pc2 := 828) (6 * c + 2) dL_law_827 (nI_add _ 2) (by omega) (by omega) rfl ?_
  refine r_aload_n (pc2 := 829) 0 dL_law_828 rfl rfl rfl rfl ?_
  refine r_iload_n (pc2 := 830) 3 dL_law_829 rfl rfl rfl ?_
  refine r_iconst (pc2 := 831) (v := 3) dL_law_830 (by decide) rfl ?_
  refine r_iadd (pc2 := 832) dL_law_831 rfl ?_
  refine r_sldN (pc2 := 833) (6 * c + 3) dL_law_832 (nI_add _ 3) (by omega) (by omega) rfl ?_
  refine r_callV1 (pc2 := 836) (As := [.int (e_s E (6 * c + 1)), .int (e_s E (6 * c + 2)), .int (e_s E (6 * c + 3))]) (st := []) kL_115 rfl rfl dL_law_833 c64 (by decide) rfl rfl (Nat.le_of_ble_eq_true rfl) (by omega) hC rfl (fun h hq833 => ?_)
  obtain ⟨⟨v9, c117⟩, hC2⟩ := hq833
  refine r_aload_n (pc2 := 837) 2 dL_law_836 rfl rfl rfl rfl ?_
  refine r_aload_n (pc2 := 838) 0 dL_law_837 rfl rfl rfl rfl ?_
  refine r_iload_n (pc2 := 839) 3 dL_law_838 rfl rfl rfl ?_
  refine r_iconst (pc2 := 840) (v := 1) dL_law_839 (by decide) rfl ?_
  refine r_iadd (pc2 := 841) dL_law_840 rfl ?_
  refine r_sldN (pc2 := 842) (6 * c + 1) dL_law_841 (nI_add _ 1) (by omega) (by omega) rfl ?_
  refine r_aload_n (pc2 := 843) 0 dL_law_842 rfl rfl rfl rfl ?_
  refine r_iload_n (pc2 := 844) 3 dL_law_843 rfl rfl rfl ?_
  refine r_iconst (pc2 := 845) (v := 2) dL_law_844 (by decide) rfl ?_
  refine r_iadd (pc2 := 846) dL_law_845 rfl ?_
  refine r_sldN (pc2 := 847) (6 * c + 2) dL_law_846 (nI_add _ 2) (by omega) (by omega) rfl ?_
  refine r_aload_n (pc2 := 848) 0 dL_law_847 rfl rfl rfl rfl ?_
  refine r_iload_n (pc2 := 849) 3 dL_law_848 rfl rfl rfl ?_
  refine r_iconst (pc2 := 850) (v := 3) dL_law_849 (by decide) rfl ?_
  refine r_iadd (pc2 := 851) dL_law_850 rfl ?_
  refine r_sldN (pc2 := 852) (6 * c + 3) dL_law_851 (nI_add _ 3) (by omega) (by omega) rfl ?_
  refine r_callV1 (pc2 := 855) (As := [.int (e_s E (6 * c + 1)), .int (e_s E (6 * c + 2)), .int (e_s E (6 * c + 3))]) (st := [.int x9]) kL_118 rfl rfl dL_law_852 c117 (by decide) rfl rfl (Nat.le_of_ble_eq_true rfl) (by omega) hC2 rfl (fun h hq852 => ?_)
  have hJ2 := hq852
  refine r_icmp_eq (tgt := 1273) (pc2 := 858) dL_law_855 (by decide) rfl (fun b855 => ?_) (fun b855 => ?_)
  · skip
    exact rest _ hJ2
  · exact absurd rfl b855
set_option maxRecDepth 20000 in
set_option maxHeartbeats 1000000 in
theorem lw_clause {E : EnvT} {h : Hp} {c : Nat} {Q : Option Value → Hp → Prop} (h6 : 6 * c + 6 ≤ e_n E) (hn : e_n E ≤ 3072) (hJ : JS h c) (rest : ∀ h2 : Hp, JS h2 (c + 1) → Fr E mL 656 1273 [.ref 61, .ref 64, .ref 117, .int (nI (6 * c))] [] h2 Q) : Fr E mL 656 860 [.ref 61, .ref 64, .ref 117, .int (nI (6 * c))] [] h Q := by
  obtain ⟨l9, c64⟩ := hJ.c64
  obtain ⟨x9, hC⟩ := b_clause (E := E) hJ (by omega)
  refine r_aload_n (pc2 := 861) 1 dL_law_860 rfl rfl rfl rfl ?_
  refine r_callV1 (pc2 := 864) (As := []) (st := []) kL_119 rfl rfl dL_law_861 c64 (by decide) rfl rfl (Nat.le_of_ble_eq_true rfl) (by omega) hC rfl (fun h hq861 => ?_)
  obtain ⟨⟨v9, c117⟩, hC2⟩ := hq861
  refine r_aload_n (pc2 := 865) 2 dL_law_864 rfl rfl rfl rfl ?_
  refine r_callV1 (pc2 := 868) (As := []) (st := [.int x9]) kL_122 rfl rfl dL_law_865 c117 (by decide) rfl rfl (Nat.le_of_ble_eq_true rfl) (by omega) hC2 rfl (fun h hq865 => ?_)
  have hJ2 := hq865
  refine r_icmp_eq (tgt := 1273) (pc2 := 871) dL_law_868 (by decide) rfl (fun b868 => ?_) (fun b868 => ?_)
  · skip
    exact rest _ hJ2
  · exact absurd rfl b868
set_option maxRecDepth 20000 in
set_option maxHeartbeats 1000000 in
theorem lw_hints {E : EnvT} {h : Hp} {c : Nat} {Q : Option Value → Hp → Prop} (h6 : 6 * c + 6 ≤ e_n E) (hn : e_n E ≤ 3072) (hJ : JS h c) (rest : ∀ h2 : Hp, JS h2 (c + 1) → Fr E mL 656 1273 [.ref 61, .ref 64, .ref 117, .int (nI (6 * c))] [] h2 Q) : Fr E mL 656 873 [.ref 61, .ref 64, .ref 117, .int (nI (6 * c))] [] h Q := by
  obtain ⟨l9, c64⟩ := hJ.c64
  obtain ⟨x9, hC⟩ := b_hints (E := E) (y1 := (e_s E (6 * c + 1))) hJ (by omega)
  refine r_aload_n (pc2 := 874) 1 dL_law_873 rfl rfl rfl rfl ?_
  refine r_aload_n (pc2 := 875) 0 dL_law_874 rfl rfl rfl rfl ?_
  refine r_iload_n (pc2 := 876) 3 dL_law_875 rfl rfl rfl ?_
  refine r_iconst (pc2 := 877) (v := 1) dL_law_876 (by decide) rfl ?_
  refine r_iadd (pc2 := 878) dL_law_877 rfl ?_
  refine r_sldN (pc2 := 879) (6 * c + 1) dL_law_878 (nI_add _ 1) (by omega) (by omega) rfl ?_
  refine r_callV1 (pc2 := 882) (As := [.int (e_s E (6 * c + 1))]) (st := []) kL_123 rfl rfl dL_law_879 c64 (by decide) rfl rfl (Nat.le_of_ble_eq_true rfl) (by omega) hC rfl (fun h hq879 => ?_)
  obtain ⟨⟨v9, c117⟩, hC2⟩ := hq879
  refine r_aload_n (pc2 := 883) 2 dL_law_882 rfl rfl rfl rfl ?_
  refine r_aload_n (pc2 := 884) 0 dL_law_883 rfl rfl rfl rfl ?_
  refine r_iload_n (pc2 := 885) 3 dL_law_884 rfl rfl rfl ?_
  refine r_iconst (pc2 := 886) (v := 1) dL_law_885 (by decide) rfl ?_
  refine r_iadd (pc2 := 887) dL_law_886 rfl ?_
  refine r_sldN (pc2 := 888) (6 * c + 1) dL_law_887 (nI_add _ 1) (by omega) (by omega) rfl ?_
  refine r_callV1 (pc2 := 891) (As := [.int (e_s E (6 * c + 1))]) (st := [.int x9]) kL_126 rfl rfl dL_law_888 c117 (by decide) rfl rfl (Nat.le_of_ble_eq_true rfl) (by omega) hC2 rfl (fun h hq888 => ?_)
  have hJ2 := hq888
  refine r_icmp_eq (tgt := 1273) (pc2 := 894) dL_law_891 (by decide) rfl (fun b891 => ?_) (fun b891 => ?_)
  · skip
    exact rest _ hJ2
  · exact absurd rfl b891
set_option maxRecDepth 20000 in
set_option maxHeartbeats 1000000 in
theorem lw_draughts {E : EnvT} {h : Hp} {c : Nat} {Q : Option Value → Hp → Prop} (h6 : 6 * c + 6 ≤ e_n E) (hn : e_n E ≤ 3072) (hJ : JS h c) (rest : ∀ h2 : Hp, JS h2 (c + 1) → Fr E mL 656 1273 [.ref 61, .ref 64, .ref 117, .int (nI (6 * c))] [] h2 Q) : Fr E mL 656 896 [.ref 61, .ref 64, .ref 117, .int (nI (6 * c))] [] h Q := by
  obtain ⟨l9, c64⟩ := hJ.c64
  obtain ⟨x9, hC⟩ := b_draughts (E := E) (y1 := (e_s E (6 * c + 1))) hJ (by omega)
  refine r_aload_n (pc2 := 897) 1 dL_law_896 rfl rfl rfl rfl ?_
  refine r_aload_n (pc2 := 898) 0 dL_law_897 rfl rfl rfl rfl ?_
  refine r_iload_n (pc2 := 899) 3 dL_law_898 rfl rfl rfl ?_
  refine r_iconst (pc2 := 900) (v := 1) dL_law_899 (by decide) rfl ?_
  refine r_iadd (pc2 := 901) dL_law_900 rfl ?_
  refine r_sldN (pc2 := 902) (6 * c + 1) dL_law_901 (nI_add _ 1) (by omega) (by omega) rfl ?_
  refine r_callV1 (pc2 := 905) (As := [.int (e_s E (6 * c + 1))]) (st := []) kL_127 rfl rfl dL_law_902 c64 (by decide) rfl rfl (Nat.le_of_ble_eq_true rfl) (by omega) hC rfl (fun h hq902 => ?_)
  obtain ⟨⟨v9, c117⟩, hC2⟩ := hq902
  refine r_aload_n (pc2 := 906) 2 dL_law_905 rfl rfl rfl rfl ?_
  refine r_aload_n (pc2 := 907) 0 dL_law_906 rfl rfl rfl rfl ?_
  refine r_iload_n (pc2 := 908) 3 dL_law_907 rfl rfl rfl ?_
  refine r_iconst (pc2 := 909) (v := 1) dL_law_908 (by decide) rfl ?_
  refine r_iadd (pc2 := 910) dL_law_909 rfl ?_
  refine r_sldN (pc2 := 911) (6 * c + 1) dL_law_910 (nI_add _ 1) (by omega) (by omega) rfl ?_
  refine r_callV1 (pc2 := 914) (As := [.int (e_s E (6 * c + 1))]) (st := [.int x9]) kL_130 rfl rfl dL_law_911 c117 (by decide) rfl rfl (Nat.le_of_ble_eq_true rfl) (by omega) hC2 rfl (fun h hq911 => ?_)
  have hJ2 := hq911
  refine r_icmp_eq (tgt := 1273) (pc2 := 917) dL_law_914 (by decide) rfl (fun b914 => ?_) (fun b914 => ?_)
  · skip
    exact rest _ hJ2
  · exact absurd rfl b914
set_option maxRecDepth 20000 in
set_option maxHeartbeats 1000000 in
theorem lw_attempt {E : EnvT} {h : Hp} {c : Nat} {Q : Option Value → Hp → Prop} (h6 : 6 * c + 6 ≤ e_n E) (hn : e_n E ≤ 3072) (hJ : JS h c) (rest : ∀ h2 : Hp, JS h2 (c + 1) → Fr E mL 656 1273 [.ref 61, .ref 64, .ref 117, .int (nI (6 * c))] [] h2 Q) : Fr E mL 656 919 [.ref 61, .ref 64, .ref 117, .int (nI (6 * c))] [] h Q := by
  obtain ⟨l9, c64⟩ := hJ.c64
  obtain ⟨x9, hC⟩ := b_attempt (E := E) (y1 := (e_s E (6 * c + 1))) hJ (by omega)
  refine r_aload_n (pc2 := 920) 1 dL_law_919 rfl rfl rfl rfl ?_
  refine r_aload_n (pc2 := 921) 0 dL_law_920 rfl rfl rfl rfl ?_
  refine r_iload_n (pc2 := 922) 3 dL_law_921 rfl rfl rfl ?_
  refine r_iconst (pc2 := 923) (v := 1) dL_law_922 (by decide) rfl ?_
  refine r_iadd (pc2 := 924) dL_law_923 rfl ?_
  refine r_sldN (pc2 := 925) (6 * c + 1) dL_law_924 (nI_add _ 1) (by omega) (by omega) rfl ?_
  refine r_callV1 (pc2 := 928) (As := [.int (e_s E (6 * c + 1))]) (st := []) kL_131 rfl rfl dL_law_925 c64 (by decide) rfl rfl (Nat.le_of_ble_eq_true rfl) (by omega) hC rfl (fun h hq925 => ?_)
  obtain ⟨⟨v9, c117⟩, hC2⟩ := hq925
  refine r_aload_n (pc2 := 929) 2 dL_law_928 rfl rfl rfl rfl ?_
  refine r_aload_n (pc2 := 930) 0 dL_law_929 rfl rfl rfl rfl ?_
  refine r_iload_n (pc2 := 931) 3 dL_law_930 rfl rfl rfl ?_
  refine r_iconst (pc2 := 932) (v := 1) dL_law_931 (by decide) rfl ?_
  refine r_iadd (pc2 := 933) dL_law_932 rfl ?_
  refine r_sldN (pc2 := 934) (6 * c + 1) dL_law_933 (nI_add _ 1) (by omega) (by omega) rfl ?_
  refine r_callV1 (pc2 := 937) (As := [.int (e_s E (6 * c + 1))]) (st := [.int x9]) kL_134 rfl rfl dL_law_934 c117 (by decide) rfl rfl (Nat.le_of_ble_eq_true rfl) (by omega) hC2 rfl (fun h hq934 => ?_)
  have hJ2 := hq934
  refine r_icmp_eq (tgt := 1273) (pc2 := 940) dL_law_937 (by decide) rfl (fun b937 => ?_) (fun b937 => ?_)
  · skip
    exact rest _ hJ2
  · exact absurd rfl b937
set_option maxRecDepth 20000 in
set_option maxHeartbeats 1000000 in
theorem lw_daring {E : EnvT} {h : Hp} {c : Nat} {Q : Option Value → Hp → Prop} (h6 : 6 * c + 6 ≤ e_n E) (hn : e_n E ≤ 3072) (hJ : JS h c) (rest : ∀ h2 : Hp, JS h2 (c + 1) → Fr E mL 656 1273 [.ref 61, .ref 64, .ref 117, .int (nI (6 * c))] [] h2 Q) : Fr E mL 656 942 [.ref 61, .ref 64, .ref 117, .int (nI (6 * c))] [] h Q := by
  obtain ⟨l9, c64⟩ := hJ.c64
  obtain ⟨x9, hC⟩ := b_daring (E := E) (y1 := (e_s E (6 * c + 1))) hJ (by omega)
  refine r_aload_n (pc2 := 943) 1 dL_law_942 rfl rfl rfl rfl ?_
  refine r_aload_n (pc2 := 944) 0 dL_law_943 rfl rfl rfl rfl ?_
  refine r_iload_n (pc2 := 945) 3 dL_law_944 rfl rfl rfl ?_
  refine r_iconst (pc2 := 946) (v := 1) dL_law_945 (by decide) rfl ?_
  refine r_iadd (pc2 := 947) dL_law_946 rfl ?_
  refine r_sldN (pc2 := 948) (6 * c + 1) dL_law_947 (nI_add _ 1) (by omega) (by omega) rfl ?_
  refine r_callV1 (pc2 := 951) (As := [.int (e_s E (6 * c + 1))]) (st := []) kL_135 rfl rfl dL_law_948 c64 (by decide) rfl rfl (Nat.le_of_ble_eq_true rfl) (by omega) hC rfl (fun h hq948 => ?_)
  obtain ⟨⟨v9, c117⟩, hC2⟩ := hq948
  refine r_aload_n (pc2 := 952) 2 dL_law_951 rfl rfl rfl rfl ?_
  refine r_aload_n (pc2 := 953) 0 dL_law_952 rfl rfl rfl rfl ?_
  refine r_iload_n (pc2 := 954) 3 dL_law_953 rfl rfl rfl ?_
  refine r_iconst (pc2 := 955) (v := 1) dL_law_954 (by decide) rfl ?_
  refine r_iadd (pc2 := 956) dL_law_955 rfl ?_
  refine r_sldN (pc2 := 957) (6 * c + 1) dL_law_956 (nI_add _ 1) (by omega) (by omega) rfl ?_
  refine r_callV1 (pc2 := 960) (As := [.int (e_s E (6 * c + 1))]) (st := [.int x9]) kL_138 rfl rfl dL_law_957 c117 (by decide) rfl rfl (Nat.le_of_ble_eq_true rfl) (by omega) hC2 rfl (fun h hq957 => ?_)
  have hJ2 := hq957
  refine r_icmp_eq (tgt := 1273) (pc2 := 963) dL_law_960 (by decide) rfl (fun b960 => ?_) (fun b960 => ?_)
  · skip
    exact rest _ hJ2
  · exact absurd rfl b960
set_option maxRecDepth 20000 in
set_option maxHeartbeats 1000000 in
theorem lw_dares {E : EnvT} {h : Hp} {c : Nat} {Q : Option Value → Hp → Prop} (h6 : 6 * c + 6 ≤ e_n E) (hn : e_n E ≤ 3072) (hJ : JS h c) (rest : ∀ h2 : Hp, JS h2 (c + 1) → Fr E mL 656 1273 [.ref 61, .ref 64, .ref 117, .int (nI (6 * c))] [] h2 Q) : Fr E mL 656 965 [.ref 61, .ref 64, .ref 117, .int (nI (6 * c))] [] h Q := by
  obtain ⟨l9, c64⟩ := hJ.c64
  obtain ⟨x9, hC⟩ := b_dares (E := E) (y1 := (e_s E (6 * c + 1))) hJ (by omega)
  refine r_aload_n (pc2 := 966) 1 dL_law_965 rfl rfl rfl rfl ?_
  refine r_aload_n (pc2 := 967) 0 dL_law_966 rfl rfl rfl rfl ?_
  refine r_iload_n (pc2 := 968) 3 dL_law_967 rfl rfl rfl ?_
  refine r_iconst (pc2 := 969) (v := 1) dL_law_968 (by decide) rfl ?_
  refine r_iadd (pc2 := 970) dL_law_969 rfl ?_
  refine r_sldN (pc2 := 971) (6 * c + 1) dL_law_970 (nI_add _ 1) (by omega) (by omega) rfl ?_
  refine r_callV1 (pc2 := 974) (As := [.int (e_s E (6 * c + 1))]) (st := []) kL_139 rfl rfl dL_law_971 c64 (by decide) rfl rfl (Nat.le_of_ble_eq_true rfl) (by omega) hC rfl (fun h hq971 => ?_)
  obtain ⟨⟨v9, c117⟩, hC2⟩ := hq971
  refine r_aload_n (pc2 := 975) 2 dL_law_974 rfl rfl rfl rfl ?_
  refine r_aload_n (pc2 := 976) 0 dL_law_975 rfl rfl rfl rfl ?_
  refine r_iload_n (pc2 := 977) 3 dL_law_976 rfl rfl rfl ?_
  refine r_iconst (pc2 := 978) (v := 1) dL_law_977 (by decide) rfl ?_
  refine r_iadd (pc2 := 979) dL_law_978 rfl ?_
  refine r_sldN (pc2 := 980) (6 * c + 1) dL_law_979 (nI_add _ 1) (by omega) (by omega) rfl ?_
  refine r_callV1 (pc2 := 983) (As := [.int (e_s E (6 * c + 1))]) (st := [.int x9]) kL_142 rfl rfl dL_law_980 c117 (by decide) rfl rfl (Nat.le_of_ble_eq_true rfl) (by omega) hC2 rfl (fun h hq980 => ?_)
  have hJ2 := hq980
  refine r_icmp_eq (tgt := 1273) (pc2 := 986) dL_law_983 (by decide) rfl (fun b983 => ?_) (fun b983 => ?_)
  · skip
    exact rest _ hJ2
  · exact absurd rfl b983
set_option maxRecDepth 20000 in
set_option maxHeartbeats 1000000 in
theorem lw_chance {E : EnvT} {h : Hp} {c : Nat} {Q : Option Value → Hp → Prop} (h6 : 6 * c + 6 ≤ e_n E) (hn : e_n E ≤ 3072) (hJ : JS h c) (rest : ∀ h2 : Hp, JS h2 (c + 1) → Fr E mL 656 1273 [.ref 61, .ref 64, .ref 117, .int (nI (6 * c))] [] h2 Q) : Fr E mL 656 988 [.ref 61, .ref 64, .ref 117, .int (nI (6 * c))] [] h Q := by
  obtain ⟨l9, c64⟩ := hJ.c64
  obtain ⟨x9, hC⟩ := b_chance (E := E) (y1 := (e_s E (6 * c + 1))) (y2 := (e_s E (6 * c + 2))) hJ (by omega)
  refine r_aload_n (pc2 := 989) 1 dL_law_988 rfl rfl rfl rfl ?_
  refine r_aload_n (pc2 := 990) 0 dL_law_989 rfl rfl rfl rfl ?_
  refine r_iload_n (pc2 := 991) 3 dL_law_990 rfl rfl rfl ?_
  refine r_iconst (pc2 := 992) (v := 1) dL_law_991 (by decide) rfl ?_
  refine r_iadd (pc2 := 993) dL_law_992 rfl ?_
  refine r_sldN (pc2 := 994) (6 * c + 1) dL_law_993 (nI_add _ 1) (by omega) (by omega) rfl ?_
  refine r_aload_n (pc2 := 995) 0 dL_law_994 rfl rfl rfl rfl ?_
  refine r_iload_n (pc2 := 996) 3 dL_law_995 rfl rfl rfl ?_
  refine r_iconst (pc2 := 997) (v := 2) dL_law_996 (by decide) rfl ?_
  refine r_iadd (pc2 := 998) dL_law_997 rfl ?_
  refine r_sldN (pc2 := 999) (6 * c + 2) dL_law_998 (nI_add _ 2) (by omega) (by omega) rfl ?_
  refine r_callV1 (pc2 := 1002) (As := [.int (e_s E (6 * c + 1)), .int (e_s E (6 * c + 2))]) (st := []) kL_143 rfl rfl dL_law_999 c64 (by decide) rfl rfl (Nat.le_of_ble_eq_true rfl) (by omega) hC rfl (fun h hq999 => ?_)
  obtain ⟨⟨v9, c117⟩, hC2⟩ := hq999
  refine r_aload_n (pc2 := 1003) 2 dL_law_1002 rfl rfl rfl rfl ?_
  refine r_aload_n (pc2 := 1004) 0 dL_law_1003 rfl rfl rfl rfl ?_
  refine r_iload_n (pc2 := 1005) 3 dL_law_1004 rfl rfl rfl ?_
  refine r_iconst (pc2 := 1006) (v := 1) dL_law_1005 (by decide) rfl ?_
  refine r_iadd (pc2 := 1007) dL_law_1006 rfl ?_
  refine r_sldN (pc2 := 1008) (6 * c + 1) dL_law_1007 (nI_add _ 1) (by omega) (by omega) rfl ?_
  refine r_aload_n (pc2 := 1009) 0 dL_law_1008 rfl rfl rfl rfl ?_
  refine r_iload_n (pc2 := 1010) 3 dL_law_1009 rfl rfl rfl ?_
  refine r_iconst (pc2 := 1011) (v := 2) dL_law_1010 (by decide) rfl ?_
  refine r_iadd (pc2 := 1012) dL_law_1011 rfl ?_
  refine r_sldN (pc2 := 1013) (6 * c + 2) dL_law_1012 (nI_add _ 2) (by omega) (by omega) rfl ?_
  refine r_callV1 (pc2 := 1016) (As := [.int (e_s E (6 * c + 1)), .int (e_s E (6 * c + 2))]) (st := [.int x9]) kL_146 rfl rfl dL_law_1013 c117 (by decide) rfl rfl (Nat.le_of_ble_eq_true rfl) (by omega) hC2 rfl (fun h hq1013 => ?_)
  have hJ2 := hq1013
  refine r_icmp_eq (tgt := 1273) (pc2 := 1019) dL_law_1016 (by decide) rfl (fun b1016 => ?_) (fun b1016 => ?_)
  · skip
    exact rest _ hJ2
  · exact absurd rfl b1016
set_option maxRecDepth 20000 in
set_option maxHeartbeats 1000000 in
theorem lw_mean {E : EnvT} {h : Hp} {c : Nat} {Q : Option Value → Hp → Prop} (h6 : 6 * c + 6 ≤ e_n E) (hn : e_n E ≤ 3072) (hJ : JS h c) (rest : ∀ h2 : Hp, JS h2 (c + 1) → Fr E mL 656 1273 [.ref 61, .ref 64, .ref 117, .int (nI (6 * c))] [] h2 Q) : Fr E mL 656 1021 [.ref 61, .ref 64, .ref 117, .int (nI (6 * c))] [] h Q := by
  obtain ⟨l9, c64⟩ := hJ.c64
  obtain ⟨x9, hC⟩ := b_mean (E := E) (y1 := (e_s E (6 * c + 1))) (y2 := (e_s E (6 * c + 2))) hJ (by omega)
  refine r_aload_n (pc2 := 1022) 1 dL_law_1021 rfl rfl rfl rfl ?_
  refine r_aload_n (pc2 := 1023) 0 dL_law_1022 rfl rfl rfl rfl ?_
  refine r_iload_n (pc2 := 1024) 3 dL_law_1023 rfl rfl rfl ?_
  refine r_iconst (pc2 := 1025) (v := 1) dL_law_1024 (by decide) rfl ?_
  refine r_iadd (pc2 := 1026) dL_law_1025 rfl ?_
  refine r_sldN (pc2 := 1027) (6 * c + 1) dL_law_1026 (nI_add _ 1) (by omega) (by omega) rfl ?_
  refine r_aload_n (pc2 := 1028) 0 dL_law_1027 rfl rfl rfl rfl ?_
  refine r_iload_n (pc2 := 1029) 3 dL_law_1028 rfl rfl rfl ?_
  refine r_iconst (pc2 := 1030) (v := 2) dL_law_1029 (by decide) rfl ?_
  refine r_iadd (pc2 := 1031) dL_law_1030 rfl ?_
  refine r_sldN (pc2 := 1032) (6 * c + 2) dL_law_1031 (nI_add _ 2) (by omega) (by omega) rfl ?_
  refine r_callV1 (pc2 := 1035) (As := [.int (e_s E (6 * c + 1)), .int (e_s E (6 * c + 2))]) (st := []) kL_147 rfl rfl dL_law_1032 c64 (by decide) rfl rfl (Nat.le_of_ble_eq_true rfl) (by omega) hC rfl (fun h hq1032 => ?_)
  obtain ⟨⟨v9, c117⟩, hC2⟩ := hq1032
  refine r_aload_n (pc2 := 1036) 2 dL_law_1035 rfl rfl rfl rfl ?_
  refine r_aload_n (pc2 := 1037) 0 dL_law_1036 rfl rfl rfl rfl ?_
  refine r_iload_n (pc2 := 1038) 3 dL_law_1037 rfl rfl rfl ?_
  refine r_iconst (pc2 := 1039) (v := 1) dL_law_1038 (by decide) rfl ?_
  refine r_iadd (pc2 := 1040) dL_law_1039 rfl ?_
  refine r_sldN (pc2 := 1041) (6 * c + 1) dL_law_1040 (nI_add _ 1) (by omega) (by omega) rfl ?_
  refine r_aload_n (pc2 := 1042) 0 dL_law_1041 rfl rfl rfl rfl ?_
  refine r_iload_n (pc2 := 1043) 3 dL_law_1042 rfl rfl rfl ?_
  refine r_iconst (pc2 := 1044) (v := 2) dL_law_1043 (by decide) rfl ?_
  refine r_iadd (pc2 := 1045) dL_law_1044 rfl ?_
  refine r_sldN (pc2 := 1046) (6 * c + 2) dL_law_1045 (nI_add _ 2) (by omega) (by omega) rfl ?_
  refine r_callV1 (pc2 := 1049) (As := [.int (e_s E (6 * c + 1)), .int (e_s E (6 * c + 2))]) (st := [.int x9]) kL_150 rfl rfl dL_law_1046 c117 (by decide) rfl rfl (Nat.le_of_ble_eq_true rfl) (by omega) hC2 rfl (fun h hq1046 => ?_)
  have hJ2 := hq1046
  refine r_icmp_eq (tgt := 1273) (pc2 := 1052) dL_law_1049 (by decide) rfl (fun b1049 => ?_) (fun b1049 => ?_)
  · skip
    exact rest _ hJ2
  · exact absurd rfl b1049
set_option maxRecDepth 20000 in
set_option maxHeartbeats 1000000 in
theorem lw_numbers {E : EnvT} {h : Hp} {c : Nat} {Q : Option Value → Hp → Prop} (h6 : 6 * c + 6 ≤ e_n E) (hn : e_n E ≤ 3072) (hJ : JS h c) (rest : ∀ h2 : Hp, JS h2 (c + 1) → Fr E mL 656 1273 [.ref 61, .ref 64, .ref 117, .int (nI (6 * c))] [] h2 Q) : Fr E mL 656 1054 [.ref 61, .ref 64, .ref 117, .int (nI (6 * c))] [] h Q := by
  obtain ⟨l9, c64⟩ := hJ.c64
  obtain ⟨x9, hC⟩ := b_numbers (E := E) (y1 := (e_s E (6 * c + 1))) (y2 := (e_s E (6 * c + 2))) (y3 := (e_s E (6 * c + 3))) hJ (by omega)
  refine r_aload_n (pc2 := 1055) 1 dL_law_1054 rfl rfl rfl rfl ?_
  refine r_aload_n (pc2 := 1056) 0 dL_law_1055 rfl rfl rfl rfl ?_
  refine r_iload_n (pc2 := 1057) 3 dL_law_1056 rfl rfl rfl ?_
  refine r_iconst (pc2 := 1058) (v := 1) dL_law_1057 (by decide) rfl ?_
  refine r_iadd (pc2 := 1059) dL_law_1058 rfl ?_
  refine r_sldN (pc2 := 1060) (6 * c + 1) dL_law_1059 (nI_add _ 1) (by omega) (by omega) rfl ?_
  refine r_aload_n (pc2 := 1061) 0 dL_law_1060 rfl rfl rfl rfl ?_
  refine r_iload_n (pc2 := 1062) 3 dL_law_1061 rfl rfl rfl ?_
  refine r_iconst (pc2 := 1063) (v := 2) dL_law_1062 (by decide) rfl ?_
  refine r_iadd (pc2 := 1064) dL_law_1063 rfl ?_
  refine r_sldN (pc2 := 1065) (6 * c + 2) dL_law_1064 (nI_add _ 2) (by omega) (by omega) rfl ?_
  refine r_aload_n (pc2 := 1066) 0 dL_law_1065 rfl rfl rfl rfl ?_
  refine r_iload_n (pc2 := 1067) 3 dL_law_1066 rfl rfl rfl ?_
  refine r_iconst (pc2 := 1068) (v := 3) dL_law_1067 (by decide) rfl ?_
  refine r_iadd (pc2 := 1069) dL_law_1068 rfl ?_
  refine r_sldN (pc2 := 1070) (6 * c + 3) dL_law_1069 (nI_add _ 3) (by omega) (by omega) rfl ?_
  refine r_callV1 (pc2 := 1073) (As := [.int (e_s E (6 * c + 1)), .int (e_s E (6 * c + 2)), .int (e_s E (6 * c + 3))]) (st := []) kL_151 rfl rfl dL_law_1070 c64 (by decide) rfl rfl (Nat.le_of_ble_eq_true rfl) (by omega) hC rfl (fun h hq1070 => ?_)
  obtain ⟨⟨v9, c117⟩, hC2⟩ := hq1070
  refine r_aload_n (pc2 := 1074) 2 dL_law_1073 rfl rfl rfl rfl ?_
  refine r_aload_n (pc2 := 1075) 0 dL_law_1074 rfl rfl rfl rfl ?_
  refine r_iload_n (pc2 := 1076) 3 dL_law_1075 rfl rfl rfl ?_
  refine r_iconst (pc2 := 1077) (v := 1) dL_law_1076 (by decide) rfl ?_
  refine r_iadd (pc2 := 1078) dL_law_1077 rfl ?_
  refine r_sldN (pc2 := 1079) (6 * c + 1) dL_law_1078 (nI_add _ 1) (by omega) (by omega) rfl ?_
  refine r_aload_n (pc2 := 1080) 0 dL_law_1079 rfl rfl rfl rfl ?_
  refine r_iload_n (pc2 := 1081) 3 dL_law_1080 rfl rfl rfl ?_
  refine r_iconst (pc2 := 1082) (v := 2) dL_law_1081 (by decide) rfl ?_
  refine r_iadd (pc2 := 1083) dL_law_1082 rfl ?_
  refine r_sldN (pc2 := 1084) (6 * c + 2) dL_law_1083 (nI_add _ 2) (by omega) (by omega) rfl ?_
  refine r_aload_n (pc2 := 1085) 0 dL_law_1084 rfl rfl rfl rfl ?_
  refine r_iload_n (pc2 := 1086) 3 dL_law_1085 rfl rfl rfl ?_
  refine r_iconst (pc2 := 1087) (v := 3) dL_law_1086 (by decide) rfl ?_
  refine r_iadd (pc2 := 1088) dL_law_1087 rfl ?_
  refine r_sldN (pc2 := 1089) (6 * c + 3) dL_law_1088 (nI_add _ 3) (by omega) (by omega) rfl ?_
  refine r_callV1 (pc2 := 1092) (As := [.int (e_s E (6 * c + 1)), .int (e_s E (6 * c + 2)), .int (e_s E (6 * c + 3))]) (st := [.int x9]) kL_154 rfl rfl dL_law_1089 c117 (by decide) rfl rfl (Nat.le_of_ble_eq_true rfl) (by omega) hC2 rfl (fun h hq1089 => ?_)
  have hJ2 := hq1089
  refine r_icmp_eq (tgt := 1273) (pc2 := 1095) dL_law_1092 (by decide) rfl (fun b1092 => ?_) (fun b1092 => ?_)
  · skip
    exact rest _ hJ2
  · exact absurd rfl b1092
set_option maxRecDepth 20000 in
set_option maxHeartbeats 1000000 in
theorem lw_write {E : EnvT} {h : Hp} {c : Nat} {Q : Option Value → Hp → Prop} (h6 : 6 * c + 6 ≤ e_n E) (hn : e_n E ≤ 3072) (hJ : JS h c) (rest : ∀ h2 : Hp, JS h2 (c + 1) → Fr E mL 656 1273 [.ref 61, .ref 64, .ref 117, .int (nI (6 * c))] [] h2 Q) : Fr E mL 656 1097 [.ref 61, .ref 64, .ref 117, .int (nI (6 * c))] [] h Q := by
  obtain ⟨l9, c64⟩ := hJ.c64
  obtain ⟨x9, hC⟩ := b_write (E := E) (y1 := (e_s E (6 * c + 1))) (y2 := (e_s E (6 * c + 2))) (y3 := (((Int32.toInt64 (e_s E (6 * c + 3))) <<< (Int32.toInt64 32 &&& 63)) ||| ((Int32.toInt64 (e_s E (6 * c + 4))) &&& 4294967295))) hJ (by omega)
  refine r_aload_n (pc2 := 1098) 1 dL_law_1097 rfl rfl rfl rfl ?_
  refine r_aload_n (pc2 := 1099) 0 dL_law_1098 rfl rfl rfl rfl ?_
  refine r_iload_n (pc2 := 1100) 3 dL_law_1099 rfl rfl rfl ?_
  refine r_iconst (pc2 := 1101) (v := 1) dL_law_1100 (by decide) rfl ?_
  refine r_iadd (pc2 := 1102) dL_law_1101 rfl ?_
  refine r_sldN (pc2 := 1103) (6 * c + 1) dL_law_1102 (nI_add _ 1) (by omega) (by omega) rfl ?_
  refine r_aload_n (pc2 := 1104) 0 dL_law_1103 rfl rfl rfl rfl ?_
  refine r_iload_n (pc2 := 1105) 3 dL_law_1104 rfl rfl rfl ?_
  refine r_iconst (pc2 := 1106) (v := 2) dL_law_1105 (by decide) rfl ?_
  refine r_iadd (pc2 := 1107) dL_law_1106 rfl ?_
  refine r_sldN (pc2 := 1108) (6 * c + 2) dL_law_1107 (nI_add _ 2) (by omega) (by omega) rfl ?_
  refine r_aload_n (pc2 := 1109) 0 dL_law_1108 rfl rfl rfl rfl ?_
  refine r_iload_n (pc2 := 1110) 3 dL_law_1109 rfl rfl rfl ?_
  refine r_iconst (pc2 := 1111) (v := 3) dL_law_1110 (by decide) rfl ?_
  refine r_iadd (pc2 := 1112) dL_law_1111 rfl ?_
  refine r_sldN (pc2 := 1113) (6 * c + 3) dL_law_1112 (nI_add _ 3) (by omega) (by omega) rfl ?_
  refine r_i2l (pc2 := 1114) dL_law_1113 rfl ?_
  refine r_bipush (pc2 := 1116) (v := 32) dL_law_1114 (by decide) rfl ?_
  refine r_lshl (pc2 := 1117) dL_law_1116 rfl ?_
  refine r_aload_n (pc2 := 1118) 0 dL_law_1117 rfl rfl rfl rfl ?_
  refine r_iload_n (pc2 := 1119) 3 dL_law_1118 rfl rfl rfl ?_
  refine r_iconst (pc2 := 1120) (v := 4) dL_law_1119 (by decide) rfl ?_
  refine r_iadd (pc2 := 1121) dL_law_1120 rfl ?_
  refine r_sldN (pc2 := 1122) (6 * c + 4) dL_law_1121 (nI_add _ 4) (by omega) (by omega) rfl ?_
  refine r_i2l (pc2 := 1123) dL_law_1122 rfl ?_
  refine r_ldc2 (pc2 := 1126) (v := 4294967295) qL_155 dL_law_1123 rfl ?_
  refine r_land (pc2 := 1127) dL_law_1126 rfl ?_
  refine r_lor (pc2 := 1128) dL_law_1127 rfl ?_
  refine r_callV1 (pc2 := 1131) (As := [.int (e_s E (6 * c + 1)), .int (e_s E (6 * c + 2)), .long (((Int32.toInt64 (e_s E (6 * c + 3))) <<< (Int32.toInt64 32 &&& 63)) ||| ((Int32.toInt64 (e_s E (6 * c + 4))) &&& 4294967295))]) (st := []) kL_157 rfl rfl dL_law_1128 c64 (by decide) rfl rfl (Nat.le_of_ble_eq_true rfl) (by omega) hC rfl (fun h hq1128 => ?_)
  obtain ⟨⟨v9, c117⟩, hC2⟩ := hq1128
  refine r_aload_n (pc2 := 1132) 2 dL_law_1131 rfl rfl rfl rfl ?_
  refine r_aload_n (pc2 := 1133) 0 dL_law_1132 rfl rfl rfl rfl ?_
  refine r_iload_n (pc2 := 1134) 3 dL_law_1133 rfl rfl rfl ?_
  refine r_iconst (pc2 := 1135) (v := 1) dL_law_1134 (by decide) rfl ?_
  refine r_iadd (pc2 := 1136) dL_law_1135 rfl ?_
  refine r_sldN (pc2 := 1137) (6 * c + 1) dL_law_1136 (nI_add _ 1) (by omega) (by omega) rfl ?_
  refine r_aload_n (pc2 := 1138) 0 dL_law_1137 rfl rfl rfl rfl ?_
  refine r_iload_n (pc2 := 1139) 3 dL_law_1138 rfl rfl rfl ?_
  refine r_iconst (pc2 := 1140) (v := 2) dL_law_1139 (by decide) rfl ?_
  refine r_iadd (pc2 := 1141) dL_law_1140 rfl ?_
  refine r_sldN (pc2 := 1142) (6 * c + 2) dL_law_1141 (nI_add _ 2) (by omega) (by omega) rfl ?_
  refine r_aload_n (pc2 := 1143) 0 dL_law_1142 rfl rfl rfl rfl ?_
  refine r_iload_n (pc2 := 1144) 3 dL_law_1143 rfl rfl rfl ?_
  refine r_iconst (pc2 := 1145) (v := 3) dL_law_1144 (by decide) rfl ?_
  refine r_iadd (pc2 := 1146) dL_law_1145 rfl ?_
  refine r_sldN (pc2 := 1147) (6 * c + 3) dL_law_1146 (nI_add _ 3) (by omega) (by omega) rfl ?_
  refine r_i2l (pc2 := 1148) dL_law_1147 rfl ?_
  refine r_bipush (pc2 := 1150) (v := 32) dL_law_1148 (by decide) rfl ?_
  refine r_lshl (pc2 := 1151) dL_law_1150 rfl ?_
  refine r_aload_n (pc2 := 1152) 0 dL_law_1151 rfl rfl rfl rfl ?_
  refine r_iload_n (pc2 := 1153) 3 dL_law_1152 rfl rfl rfl ?_
  refine r_iconst (pc2 := 1154) (v := 4) dL_law_1153 (by decide) rfl ?_
  refine r_iadd (pc2 := 1155) dL_law_1154 rfl ?_
  refine r_sldN (pc2 := 1156) (6 * c + 4) dL_law_1155 (nI_add _ 4) (by omega) (by omega) rfl ?_
  refine r_i2l (pc2 := 1157) dL_law_1156 rfl ?_
  refine r_ldc2 (pc2 := 1160) (v := 4294967295) qL_155 dL_law_1157 rfl ?_
  refine r_land (pc2 := 1161) dL_law_1160 rfl ?_
  refine r_lor (pc2 := 1162) dL_law_1161 rfl ?_
  refine r_callV1 (pc2 := 1165) (As := [.int (e_s E (6 * c + 1)), .int (e_s E (6 * c + 2)), .long (((Int32.toInt64 (e_s E (6 * c + 3))) <<< (Int32.toInt64 32 &&& 63)) ||| ((Int32.toInt64 (e_s E (6 * c + 4))) &&& 4294967295))]) (st := [.long x9]) kL_161 rfl rfl dL_law_1162 c117 (by decide) rfl rfl (Nat.le_of_ble_eq_true rfl) (by omega) hC2 rfl (fun h hq1162 => ?_)
  have hJ2 := hq1162
  refine r_lcmp (pc2 := 1166) dL_law_1165 rfl ?_
  refine r_cast (0) (lgc_self x9) ?_
  refine r_if_eq (tgt := 1273) (pc2 := 1169) dL_law_1166 (by decide) rfl (fun b1166 => ?_) (fun b1166 => ?_)
  · skip
    exact rest _ hJ2
  · exact absurd rfl b1166
set_option maxRecDepth 20000 in
set_option maxHeartbeats 1000000 in
theorem lw_lists {E : EnvT} {h : Hp} {c : Nat} {Q : Option Value → Hp → Prop} (h6 : 6 * c + 6 ≤ e_n E) (hn : e_n E ≤ 3072) (hJ : JS h c) (rest : ∀ h2 : Hp, JS h2 (c + 1) → Fr E mL 656 1273 [.ref 61, .ref 64, .ref 117, .int (nI (6 * c))] [] h2 Q) : Fr E mL 656 1171 [.ref 61, .ref 64, .ref 117, .int (nI (6 * c))] [] h Q := by
  obtain ⟨l9, c64⟩ := hJ.c64
  obtain ⟨x9, hC⟩ := b_lists (E := E) (y1 := (e_s E (6 * c + 1))) (y2 := (e_s E (6 * c + 2))) hJ (by omega)
  refine r_aload_n (pc2 := 1172) 1 dL_law_1171 rfl rfl rfl rfl ?_
  refine r_aload_n (pc2 := 1173) 0 dL_law_1172 rfl rfl rfl rfl ?_
  refine r_iload_n (pc2 := 1174) 3 dL_law_1173 rfl rfl rfl ?_
  refine r_iconst (pc2 := 1175) (v := 1) dL_law_1174 (by decide) rfl ?_
  refine r_iadd (pc2 := 1176) dL_law_1175 rfl ?_
  refine r_sldN (pc2 := 1177) (6 * c + 1) dL_law_1176 (nI_add _ 1) (by omega) (by omega) rfl ?_
  refine r_aload_n (pc2 := 1178) 0 dL_law_1177 rfl rfl rfl rfl ?_
  refine r_iload_n (pc2 := 1179) 3 dL_law_1178 rfl rfl rfl ?_
  refine r_iconst (pc2 := 1180) (v := 2) dL_law_1179 (by decide) rfl ?_
  refine r_iadd (pc2 := 1181) dL_law_1180 rfl ?_
  refine r_sldN (pc2 := 1182) (6 * c + 2) dL_law_1181 (nI_add _ 2) (by omega) (by omega) rfl ?_
  refine r_callV1 (pc2 := 1185) (As := [.int (e_s E (6 * c + 1)), .int (e_s E (6 * c + 2))]) (st := []) kL_162 rfl rfl dL_law_1182 c64 (by decide) rfl rfl (Nat.le_of_ble_eq_true rfl) (by omega) hC rfl (fun h hq1182 => ?_)
  obtain ⟨⟨v9, c117⟩, hC2⟩ := hq1182
  refine r_aload_n (pc2 := 1186) 2 dL_law_1185 rfl rfl rfl rfl ?_
  refine r_aload_n (pc2 := 1187) 0 dL_law_1186 rfl rfl rfl rfl ?_
  refine r_iload_n (pc2 := 1188) 3 dL_law_1187 rfl rfl rfl ?_
  refine r_iconst (pc2 := 1189) (v := 1) dL_law_1188 (by decide) rfl ?_
  refine r_iadd (pc2 := 1190) dL_law_1189 rfl ?_
  refine r_sldN (pc2 := 1191) (6 * c + 1) dL_law_1190 (nI_add _ 1) (by omega) (by omega) rfl ?_
  refine r_aload_n (pc2 := 1192) 0 dL_law_1191 rfl rfl rfl rfl ?_
  refine r_iload_n (pc2 := 1193) 3 dL_law_1192 rfl rfl rfl ?_
  refine r_iconst (pc2 := 1194) (v := 2) dL_law_1193 (by decide) rfl ?_
  refine r_iadd (pc2 := 1195) dL_law_1194 rfl ?_
  refine r_sldN (pc2 := 1196) (6 * c + 2) dL_law_1195 (nI_add _ 2) (by omega) (by omega) rfl ?_
  refine r_callV1 (pc2 := 1199) (As := [.int (e_s E (6 * c + 1)), .int (e_s E (6 * c + 2))]) (st := [.int x9]) kL_165 rfl rfl dL_law_1196 c117 (by decide) rfl rfl (Nat.le_of_ble_eq_true rfl) (by omega) hC2 rfl (fun h hq1196 => ?_)
  have hJ2 := hq1196
  refine r_icmp_eq (tgt := 1273) (pc2 := 1202) dL_law_1199 (by decide) rfl (fun b1199 => ?_) (fun b1199 => ?_)
  · skip
    exact rest _ hJ2
  · exact absurd rfl b1199
set_option maxRecDepth 20000 in
set_option maxHeartbeats 1000000 in
theorem lw_image {E : EnvT} {h : Hp} {c : Nat} {Q : Option Value → Hp → Prop} (h6 : 6 * c + 6 ≤ e_n E) (hn : e_n E ≤ 3072) (hJ : JS h c) (rest : ∀ h2 : Hp, JS h2 (c + 1) → Fr E mL 656 1273 [.ref 61, .ref 64, .ref 117, .int (nI (6 * c))] [] h2 Q) : Fr E mL 656 1204 [.ref 61, .ref 64, .ref 117, .int (nI (6 * c))] [] h Q := by
  obtain ⟨l9, c64⟩ := hJ.c64
  obtain ⟨x9, hC⟩ := b_image (E := E) (y1 := (e_s E (6 * c + 1))) hJ (by omega)
  refine r_aload_n (pc2 := 1205) 1 dL_law_1204 rfl rfl rfl rfl ?_
  refine r_aload_n (pc2 := 1206) 0 dL_law_1205 rfl rfl rfl rfl ?_
  refine r_iload_n (pc2 := 1207) 3 dL_law_1206 rfl rfl rfl ?_
  refine r_iconst (pc2 := 1208) (v := 1) dL_law_1207 (by decide) rfl ?_
  refine r_iadd (pc2 := 1209) dL_law_1208 rfl ?_
  refine r_sldN (pc2 := 1210) (6 * c + 1) dL_law_1209 (nI_add _ 1) (by omega) (by omega) rfl ?_
  refine r_callV1 (pc2 := 1213) (As := [.int (e_s E (6 * c + 1))]) (st := []) kL_166 rfl rfl dL_law_1210 c64 (by decide) rfl rfl (Nat.le_of_ble_eq_true rfl) (by omega) hC rfl (fun h hq1210 => ?_)
  obtain ⟨⟨v9, c117⟩, hC2⟩ := hq1210
  refine r_aload_n (pc2 := 1214) 2 dL_law_1213 rfl rfl rfl rfl ?_
  refine r_aload_n (pc2 := 1215) 0 dL_law_1214 rfl rfl rfl rfl ?_
  refine r_iload_n (pc2 := 1216) 3 dL_law_1215 rfl rfl rfl ?_
  refine r_iconst (pc2 := 1217) (v := 1) dL_law_1216 (by decide) rfl ?_
  refine r_iadd (pc2 := 1218) dL_law_1217 rfl ?_
  refine r_sldN (pc2 := 1219) (6 * c + 1) dL_law_1218 (nI_add _ 1) (by omega) (by omega) rfl ?_
  refine r_callV1 (pc2 := 1222) (As := [.int (e_s E (6 * c + 1))]) (st := [.int x9]) kL_169 rfl rfl dL_law_1219 c117 (by decide) rfl rfl (Nat.le_of_ble_eq_true rfl) (by omega) hC2 rfl (fun h hq1219 => ?_)
  have hJ2 := hq1219
  refine r_icmp_eq (tgt := 1273) (pc2 := 1225) dL_law_1222 (by decide) rfl (fun b1222 => ?_) (fun b1222 => ?_)
  · skip
    exact rest _ hJ2
  · exact absurd rfl b1222
set_option maxRecDepth 20000 in
set_option maxHeartbeats 1000000 in
theorem lw_restore {E : EnvT} {h : Hp} {c : Nat} {Q : Option Value → Hp → Prop} (h6 : 6 * c + 6 ≤ e_n E) (hn : e_n E ≤ 3072) (hJ : JS h c) (rest : ∀ h2 : Hp, JS h2 (c + 1) → Fr E mL 656 1273 [.ref 61, .ref 64, .ref 117, .int (nI (6 * c))] [] h2 Q) : Fr E mL 656 1227 [.ref 61, .ref 64, .ref 117, .int (nI (6 * c))] [] h Q := by
  obtain ⟨l9, c64⟩ := hJ.c64
  obtain ⟨x9, hC⟩ := b_restore (E := E) (y1 := (e_s E (6 * c + 1))) hJ (by omega)
  refine r_aload_n (pc2 := 1228) 1 dL_law_1227 rfl rfl rfl rfl ?_
  refine r_aload_n (pc2 := 1229) 0 dL_law_1228 rfl rfl rfl rfl ?_
  refine r_iload_n (pc2 := 1230) 3 dL_law_1229 rfl rfl rfl ?_
  refine r_iconst (pc2 := 1231) (v := 1) dL_law_1230 (by decide) rfl ?_
  refine r_iadd (pc2 := 1232) dL_law_1231 rfl ?_
  refine r_sldN (pc2 := 1233) (6 * c + 1) dL_law_1232 (nI_add _ 1) (by omega) (by omega) rfl ?_
  refine r_callV1 (pc2 := 1236) (As := [.int (e_s E (6 * c + 1))]) (st := []) kL_170 rfl rfl dL_law_1233 c64 (by decide) rfl rfl (Nat.le_of_ble_eq_true rfl) (by omega) hC rfl (fun h hq1233 => ?_)
  obtain ⟨⟨v9, c117⟩, hC2⟩ := hq1233
  refine r_aload_n (pc2 := 1237) 2 dL_law_1236 rfl rfl rfl rfl ?_
  refine r_aload_n (pc2 := 1238) 0 dL_law_1237 rfl rfl rfl rfl ?_
  refine r_iload_n (pc2 := 1239) 3 dL_law_1238 rfl rfl rfl ?_
  refine r_iconst (pc2 := 1240) (v := 1) dL_law_1239 (by decide) rfl ?_
  refine r_iadd (pc2 := 1241) dL_law_1240 rfl ?_
  refine r_sldN (pc2 := 1242) (6 * c + 1) dL_law_1241 (nI_add _ 1) (by omega) (by omega) rfl ?_
  refine r_callV1 (pc2 := 1245) (As := [.int (e_s E (6 * c + 1))]) (st := [.int x9]) kL_173 rfl rfl dL_law_1242 c117 (by decide) rfl rfl (Nat.le_of_ble_eq_true rfl) (by omega) hC2 rfl (fun h hq1242 => ?_)
  have hJ2 := hq1242
  refine r_icmp_eq (tgt := 1273) (pc2 := 1248) dL_law_1245 (by decide) rfl (fun b1245 => ?_) (fun b1245 => ?_)
  · skip
    exact rest _ hJ2
  · exact absurd rfl b1245
set_option maxRecDepth 20000 in
set_option maxHeartbeats 1000000 in
theorem lw_count {E : EnvT} {h : Hp} {c : Nat} {Q : Option Value → Hp → Prop} (h6 : 6 * c + 6 ≤ e_n E) (hn : e_n E ≤ 3072) (hJ : JS h c) (rest : ∀ h2 : Hp, JS h2 (c + 1) → Fr E mL 656 1273 [.ref 61, .ref 64, .ref 117, .int (nI (6 * c))] [] h2 Q) : Fr E mL 656 1250 [.ref 61, .ref 64, .ref 117, .int (nI (6 * c))] [] h Q := by
  obtain ⟨l9, c64⟩ := hJ.c64
  obtain ⟨x9, hC⟩ := b_count (E := E) (y1 := (e_s E (6 * c + 1))) hJ (by omega)
  refine r_aload_n (pc2 := 1251) 1 dL_law_1250 rfl rfl rfl rfl ?_
  refine r_aload_n (pc2 := 1252) 0 dL_law_1251 rfl rfl rfl rfl ?_
  refine r_iload_n (pc2 := 1253) 3 dL_law_1252 rfl rfl rfl ?_
  refine r_iconst (pc2 := 1254) (v := 1) dL_law_1253 (by decide) rfl ?_
  refine r_iadd (pc2 := 1255) dL_law_1254 rfl ?_
  refine r_sldN (pc2 := 1256) (6 * c + 1) dL_law_1255 (nI_add _ 1) (by omega) (by omega) rfl ?_
  refine r_callV1 (pc2 := 1259) (As := [.int (e_s E (6 * c + 1))]) (st := []) kL_174 rfl rfl dL_law_1256 c64 (by decide) rfl rfl (Nat.le_of_ble_eq_true rfl) (by omega) hC rfl (fun h hq1256 => ?_)
  obtain ⟨⟨v9, c117⟩, hC2⟩ := hq1256
  refine r_aload_n (pc2 := 1260) 2 dL_law_1259 rfl rfl rfl rfl ?_
  refine r_aload_n (pc2 := 1261) 0 dL_law_1260 rfl rfl rfl rfl ?_
  refine r_iload_n (pc2 := 1262) 3 dL_law_1261 rfl rfl rfl ?_
  refine r_iconst (pc2 := 1263) (v := 1) dL_law_1262 (by decide) rfl ?_
  refine r_iadd (pc2 := 1264) dL_law_1263 rfl ?_
  refine r_sldN (pc2 := 1265) (6 * c + 1) dL_law_1264 (nI_add _ 1) (by omega) (by omega) rfl ?_
  refine r_callV1 (pc2 := 1268) (As := [.int (e_s E (6 * c + 1))]) (st := [.int x9]) kL_177 rfl rfl dL_law_1265 c117 (by decide) rfl rfl (Nat.le_of_ble_eq_true rfl) (by omega) hC2 rfl (fun h hq1265 => ?_)
  have hJ2 := hq1265
  refine r_icmp_eq (tgt := 1273) (pc2 := 1271) dL_law_1268 (by decide) rfl (fun b1268 => ?_) (fun b1268 => ?_)
  · skip
    exact rest _ hJ2
  · exact absurd rfl b1268
