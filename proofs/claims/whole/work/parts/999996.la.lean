theorem dW_184 : decode code 184 = .ok (.aload_n 1, 1) := by decide +kernel
theorem dW_185 : decode code 185 = .ok (.aload_n 0, 1) := by decide +kernel
theorem dW_186 : decode code 186 = .ok (.iload 4, 2) := by decide +kernel
theorem dW_188 : decode code 188 = .ok (.iconst 1, 1) := by decide +kernel
theorem dW_189 : decode code 189 = .ok (.iadd, 1) := by decide +kernel
theorem dW_190 : decode code 190 = .ok (.iaload, 1) := by decide +kernel
theorem dW_191 : decode code 191 = .ok (.aload_n 0, 1) := by decide +kernel
theorem dW_192 : decode code 192 = .ok (.iload 4, 2) := by decide +kernel
theorem dW_194 : decode code 194 = .ok (.iconst 2, 1) := by decide +kernel
theorem dW_195 : decode code 195 = .ok (.iadd, 1) := by decide +kernel
theorem dW_196 : decode code 196 = .ok (.iaload, 1) := by decide +kernel
theorem dW_197 : decode code 197 = .ok (.aload_n 0, 1) := by decide +kernel
theorem dW_198 : decode code 198 = .ok (.iload 4, 2) := by decide +kernel
theorem dW_200 : decode code 200 = .ok (.iconst 3, 1) := by decide +kernel
theorem dW_201 : decode code 201 = .ok (.iadd, 1) := by decide +kernel
theorem dW_202 : decode code 202 = .ok (.iaload, 1) := by decide +kernel
theorem dW_203 : decode code 203 = .ok (.aload_n 0, 1) := by decide +kernel
theorem dW_204 : decode code 204 = .ok (.iload 4, 2) := by decide +kernel
theorem dW_206 : decode code 206 = .ok (.iconst 4, 1) := by decide +kernel
theorem dW_207 : decode code 207 = .ok (.iadd, 1) := by decide +kernel
theorem dW_208 : decode code 208 = .ok (.iaload, 1) := by decide +kernel
theorem dW_209 : decode code 209 = .ok (.aload_n 0, 1) := by decide +kernel
theorem dW_210 : decode code 210 = .ok (.iload 4, 2) := by decide +kernel
theorem dW_212 : decode code 212 = .ok (.iconst 5, 1) := by decide +kernel
theorem dW_213 : decode code 213 = .ok (.iadd, 1) := by decide +kernel
theorem dW_214 : decode code 214 = .ok (.iaload, 1) := by decide +kernel
theorem dW_215 : decode code 215 = .ok (.invokevirtual 97, 3) := by decide +kernel
theorem dW_218 : decode code 218 = .ok (.aload_n 2, 1) := by decide +kernel
theorem dW_219 : decode code 219 = .ok (.aload_n 0, 1) := by decide +kernel
theorem dW_220 : decode code 220 = .ok (.iload 4, 2) := by decide +kernel
theorem dW_222 : decode code 222 = .ok (.iconst 1, 1) := by decide +kernel
theorem dW_223 : decode code 223 = .ok (.iadd, 1) := by decide +kernel
theorem dW_224 : decode code 224 = .ok (.iaload, 1) := by decide +kernel
theorem dW_225 : decode code 225 = .ok (.aload_n 0, 1) := by decide +kernel
theorem dW_226 : decode code 226 = .ok (.iload 4, 2) := by decide +kernel
theorem dW_228 : decode code 228 = .ok (.iconst 2, 1) := by decide +kernel
theorem dW_229 : decode code 229 = .ok (.iadd, 1) := by decide +kernel
theorem dW_230 : decode code 230 = .ok (.iaload, 1) := by decide +kernel
theorem dW_231 : decode code 231 = .ok (.aload_n 0, 1) := by decide +kernel
theorem dW_232 : decode code 232 = .ok (.iload 4, 2) := by decide +kernel
theorem dW_234 : decode code 234 = .ok (.iconst 3, 1) := by decide +kernel
theorem dW_235 : decode code 235 = .ok (.iadd, 1) := by decide +kernel
theorem dW_236 : decode code 236 = .ok (.iaload, 1) := by decide +kernel
theorem dW_237 : decode code 237 = .ok (.aload_n 0, 1) := by decide +kernel
theorem dW_238 : decode code 238 = .ok (.iload 4, 2) := by decide +kernel
theorem dW_240 : decode code 240 = .ok (.iconst 4, 1) := by decide +kernel
theorem dW_241 : decode code 241 = .ok (.iadd, 1) := by decide +kernel
theorem dW_242 : decode code 242 = .ok (.iaload, 1) := by decide +kernel
theorem dW_243 : decode code 243 = .ok (.aload_n 0, 1) := by decide +kernel
theorem dW_244 : decode code 244 = .ok (.iload 4, 2) := by decide +kernel
theorem dW_246 : decode code 246 = .ok (.iconst 5, 1) := by decide +kernel
theorem dW_247 : decode code 247 = .ok (.iadd, 1) := by decide +kernel
theorem dW_248 : decode code 248 = .ok (.iaload, 1) := by decide +kernel
theorem dW_249 : decode code 249 = .ok (.invokevirtual 100, 3) := by decide +kernel
theorem dW_252 : decode code 252 = .ok (.if_icmp .eq 1808, 3) := by decide +kernel
theorem dW_257 : decode code 257 = .ok (.aload_n 1, 1) := by decide +kernel
theorem dW_258 : decode code 258 = .ok (.aload_n 0, 1) := by decide +kernel
theorem dW_259 : decode code 259 = .ok (.iload 4, 2) := by decide +kernel
theorem dW_261 : decode code 261 = .ok (.iconst 1, 1) := by decide +kernel
theorem dW_262 : decode code 262 = .ok (.iadd, 1) := by decide +kernel
theorem dW_263 : decode code 263 = .ok (.iaload, 1) := by decide +kernel
theorem dW_264 : decode code 264 = .ok (.aload_n 3, 1) := by decide +kernel
theorem dW_265 : decode code 265 = .ok (.invokestatic 101, 3) := by decide +kernel
theorem dW_268 : decode code 268 = .ok (.istore 5, 2) := by decide +kernel
theorem dW_270 : decode code 270 = .ok (.aload_n 2, 1) := by decide +kernel
theorem dW_271 : decode code 271 = .ok (.aload_n 0, 1) := by decide +kernel
theorem dW_272 : decode code 272 = .ok (.iload 4, 2) := by decide +kernel
theorem dW_274 : decode code 274 = .ok (.iconst 1, 1) := by decide +kernel
theorem dW_275 : decode code 275 = .ok (.iadd, 1) := by decide +kernel
theorem dW_276 : decode code 276 = .ok (.iaload, 1) := by decide +kernel
theorem dW_277 : decode code 277 = .ok (.invokevirtual 106, 3) := by decide +kernel
theorem dW_280 : decode code 280 = .ok (.istore 6, 2) := by decide +kernel
theorem dW_282 : decode code 282 = .ok (.aload_n 2, 1) := by decide +kernel
theorem dW_283 : decode code 283 = .ok (.invokevirtual 107, 3) := by decide +kernel
theorem dW_286 : decode code 286 = .ok (.iload 5, 2) := by decide +kernel
theorem dW_288 : decode code 288 = .ok (.if_icmp .eq 5, 3) := by decide +kernel
theorem dW_293 : decode code 293 = .ok (.iload 5, 2) := by decide +kernel
theorem dW_295 : decode code 295 = .ok (.ifCond .ne 15, 3) := by decide +kernel
theorem dW_298 : decode code 298 = .ok (.aload_n 3, 1) := by decide +kernel
theorem dW_299 : decode code 299 = .ok (.iconst 0, 1) := by decide +kernel
theorem dW_300 : decode code 300 = .ok (.laload, 1) := by decide +kernel
theorem dW_301 : decode code 301 = .ok (.iload 6, 2) := by decide +kernel
theorem dW_303 : decode code 303 = .ok (.i2l, 1) := by decide +kernel
theorem dW_304 : decode code 304 = .ok (.lcmp, 1) := by decide +kernel
theorem dW_305 : decode code 305 = .ok (.ifCond .eq 5, 3) := by decide +kernel
theorem dW_310 : decode code 310 = .ok (.goto 1750, 3) := by decide +kernel
theorem dW_313 : decode code 313 = .ok (.aload_n 1, 1) := by decide +kernel
theorem dW_314 : decode code 314 = .ok (.invokevirtual 111, 3) := by decide +kernel
theorem dW_317 : decode code 317 = .ok (.aload_n 2, 1) := by decide +kernel
theorem dW_318 : decode code 318 = .ok (.invokevirtual 114, 3) := by decide +kernel
theorem dW_321 : decode code 321 = .ok (.if_icmp .eq 1739, 3) := by decide +kernel
theorem dW_326 : decode code 326 = .ok (.aload_n 1, 1) := by decide +kernel
theorem dW_327 : decode code 327 = .ok (.aload_n 0, 1) := by decide +kernel
theorem dW_328 : decode code 328 = .ok (.iload 4, 2) := by decide +kernel
theorem dW_330 : decode code 330 = .ok (.iconst 1, 1) := by decide +kernel
theorem dW_331 : decode code 331 = .ok (.iadd, 1) := by decide +kernel
theorem dW_332 : decode code 332 = .ok (.iaload, 1) := by decide +kernel
theorem dW_333 : decode code 333 = .ok (.aload_n 0, 1) := by decide +kernel
theorem dW_334 : decode code 334 = .ok (.iload 4, 2) := by decide +kernel
theorem dW_336 : decode code 336 = .ok (.iconst 2, 1) := by decide +kernel
theorem dW_337 : decode code 337 = .ok (.iadd, 1) := by decide +kernel
theorem dW_338 : decode code 338 = .ok (.iaload, 1) := by decide +kernel
theorem dW_339 : decode code 339 = .ok (.aload_n 3, 1) := by decide +kernel
theorem dW_340 : decode code 340 = .ok (.invokestatic 115, 3) := by decide +kernel
theorem dW_343 : decode code 343 = .ok (.istore 5, 2) := by decide +kernel
theorem dW_345 : decode code 345 = .ok (.aload_n 2, 1) := by decide +kernel
theorem dW_346 : decode code 346 = .ok (.aload_n 0, 1) := by decide +kernel
theorem dW_347 : decode code 347 = .ok (.iload 4, 2) := by decide +kernel
theorem dW_349 : decode code 349 = .ok (.iconst 1, 1) := by decide +kernel
theorem dW_350 : decode code 350 = .ok (.iadd, 1) := by decide +kernel
theorem dW_351 : decode code 351 = .ok (.iaload, 1) := by decide +kernel
theorem dW_352 : decode code 352 = .ok (.aload_n 0, 1) := by decide +kernel
theorem dW_353 : decode code 353 = .ok (.iload 4, 2) := by decide +kernel
theorem dW_355 : decode code 355 = .ok (.iconst 2, 1) := by decide +kernel
theorem dW_356 : decode code 356 = .ok (.iadd, 1) := by decide +kernel
theorem dW_357 : decode code 357 = .ok (.iaload, 1) := by decide +kernel
theorem dW_358 : decode code 358 = .ok (.invokevirtual 118, 3) := by decide +kernel
theorem dW_361 : decode code 361 = .ok (.istore 6, 2) := by decide +kernel
theorem dW_363 : decode code 363 = .ok (.aload_n 2, 1) := by decide +kernel
theorem dW_364 : decode code 364 = .ok (.invokevirtual 107, 3) := by decide +kernel
theorem dW_367 : decode code 367 = .ok (.iload 5, 2) := by decide +kernel
theorem dW_369 : decode code 369 = .ok (.if_icmp .eq 5, 3) := by decide +kernel
theorem dW_374 : decode code 374 = .ok (.iload 5, 2) := by decide +kernel
theorem dW_376 : decode code 376 = .ok (.ifCond .ne 15, 3) := by decide +kernel
theorem dW_379 : decode code 379 = .ok (.aload_n 3, 1) := by decide +kernel
theorem dW_380 : decode code 380 = .ok (.iconst 0, 1) := by decide +kernel
theorem dW_381 : decode code 381 = .ok (.laload, 1) := by decide +kernel
theorem dW_382 : decode code 382 = .ok (.iload 6, 2) := by decide +kernel
theorem dW_384 : decode code 384 = .ok (.i2l, 1) := by decide +kernel
theorem dW_385 : decode code 385 = .ok (.lcmp, 1) := by decide +kernel
theorem dW_386 : decode code 386 = .ok (.ifCond .eq 5, 3) := by decide +kernel
theorem dW_391 : decode code 391 = .ok (.goto 1669, 3) := by decide +kernel
section YLA
variable {x : yC} {l : Launch} {g : yG} {b L : Nat} {xs : Nat → Int32} {Q : State → Prop} {n : Nat} {σ : yM} {cells slots : Nat}
set_option maxHeartbeats 4000000 in
set_option maxRecDepth 100000 in
theorem zc_feed (E : zE x l g b L xs) {N : Int} {A : aA} (G : zG N σ A) (hN0 : 0 ≤ N) (hN : N ≤ 400000000) (hn : 172 ≤ n) {i : Int} (hi : 0 ≤ i ∧ i + 6 ≤ (L : Int)) (hc : cells + 408 ≤ 601024) (hs : slots + 3660 ≤ 7293033) (k : zK x g b Q n N cells slots i) : yV x g 7 Q (SC g) n σ cells slots 184 (zL g b i) [] := by
  obtain ⟨w, h, ⟨T, S, F, P, O, nf, df, nl, lg⟩, ⟨s, re, fo, ra, tu, we, sh⟩, H, ht, K, tl, tb, fa, r1, r2⟩ := A
  obtain ⟨hC, hM, hW⟩ := G
  have hF := E.1
  have ZN := hN0
  refine y_aload_n (pc := 184) hF dW_184 1 rfl ?_
  refine zl_arg (pc := 185) E dW_185 dW_186 dW_188 dW_189 dW_190 rfl rfl (by omega) ?_
  refine zl_arg (pc := 191) E dW_191 dW_192 dW_194 dW_195 dW_196 rfl rfl (by omega) ?_
  refine zl_arg (pc := 197) E dW_197 dW_198 dW_200 dW_201 dW_202 rfl rfl (by omega) ?_
  refine zl_arg (pc := 203) E dW_203 dW_204 dW_206 dW_207 dW_208 rfl rfl (by omega) ?_
  refine zl_arg (pc := 209) E dW_209 dW_210 dW_212 dW_213 dW_214 rfl rfl (by omega) ?_
  refine y_ci (y_rV (pc := 215) (rest := []) hF (tX10_feed hn _ _ _ _ _ _ _ _ _ _ _ _ _ _ _ _ _ _ _ _ _ _ _ _ _ _ _ hC hW (zA xs i 1) (zA xs i 2) (zA xs i 3) (zA xs i 4) (zA xs i 5)) dW_215 (by omega) rfl rfl rfl w_536 qX10_feed rfl ⟨Nat.le_of_ble_eq_true rfl, Nat.le_of_ble_eq_true rfl⟩ ⟨by show cells ≤ 601024; omega, by show slots ≤ 7293033; omega⟩ (Nat.le_of_ble_eq_true rfl) rfl) rfl rfl (fun zv n1 σ1 z1 => ?_)
  obtain ⟨z0, _, zv1, z3, z4⟩ := z1
  have hn1 := Nat.le_trans hn z0
  have zM := mV_cG hM (fun c hc _ => z4 c hc)
  refine y_aload_n (pc := 218) hF dW_218 2 rfl ?_
  refine zl_arg (pc := 219) E dW_219 dW_220 dW_222 dW_223 dW_224 rfl rfl (by omega) ?_
  refine zl_arg (pc := 225) E dW_225 dW_226 dW_228 dW_229 dW_230 rfl rfl (by omega) ?_
  refine zl_arg (pc := 231) E dW_231 dW_232 dW_234 dW_235 dW_236 rfl rfl (by omega) ?_
  refine zl_arg (pc := 237) E dW_237 dW_238 dW_240 dW_241 dW_242 rfl rfl (by omega) ?_
  refine zl_arg (pc := 243) E dW_243 dW_244 dW_246 dW_247 dW_248 rfl rfl (by omega) ?_
  refine y_ci (cells' := cells) (slots' := slots) (y_rV (pc := 249) (rest := [_]) hF (tX11_feed hn1 _ _ _ _ _ _ _ _ _ _ _ _ _ _ _ _ _ _ _ _ _ _ _ _ _ _ _ zM hW (zA xs i 1) (zA xs i 2) (zA xs i 3) (zA xs i 4) (zA xs i 5) (zA_r xs i 1) (zA_r xs i 2) (zA_r xs i 3) (zA_r xs i 4) (zA_r xs i 5)) dW_249 (by omega) rfl rfl rfl w_1380 qX11_feed rfl ⟨Nat.le_of_ble_eq_true rfl, Nat.le_of_ble_eq_true rfl⟩ ⟨by show cells ≤ 601024; omega, by show slots ≤ 7293033; omega⟩ (Nat.le_of_ble_eq_true rfl) rfl) rfl rfl (fun zb n2 σ2 z2 => ?_)
  obtain ⟨z5, zb1, z6⟩ := z2
  subst zb1
  subst zv1
  refine y_icmp_same (pc := 252) hF dW_252 2060 rfl ?_
  exact y_wid (by omega) (by omega) (k n2 σ2 _ (Nat.le_trans z0 z5) ⟨cV_mF z3 z6.1, z6.2.2, aW_up (aW_feed _ _ _ _ _ hW) (by omega)⟩)
set_option maxHeartbeats 4000000 in
set_option maxRecDepth 100000 in
theorem zc_text (E : zE x l g b L xs) {N : Int} {A : aA} (G : zG N σ A) (hN0 : 0 ≤ N) (hN : N ≤ 400000000) (hn : 172 ≤ n) {i : Int} (hi : 0 ≤ i ∧ i + 6 ≤ (L : Int)) (hc : cells + 408 ≤ 601024) (hs : slots + 3660 ≤ 7293033) (k : zK x g b Q n N cells slots i) : yV x g 7 Q (SC g) n σ cells slots 257 (zL g b i) [] := by
  obtain ⟨w, h, ⟨T, S, F, P, O, nf, df, nl, lg⟩, ⟨s, re, fo, ra, tu, we, sh⟩, H, ht, K, tl, tb, fa, r1, r2⟩ := A
  obtain ⟨hC, hM, hW⟩ := G
  have hF := E.1
  have ZN := hN0
  refine y_aload_n (pc := 257) hF dW_257 1 rfl ?_
  refine zl_arg (pc := 258) E dW_258 dW_259 dW_261 dW_262 dW_263 rfl rfl (by omega) ?_
  refine y_aload_n (pc := 264) hF dW_264 3 rfl ?_
  refine y_ci (cells' := cells + 4) (slots' := slots + 24) (y_rSL (pc := 265) (na := 3) hF E.2.1 E.2.2.1 (tL_text E.2.2.2.1 hn _ _ _ _ _ _ _ _ _ _ _ _ _ _ _ _ _ _ _ _ _ _ _ _ _ _ _ hC hW (zA xs i 1) (zA_r xs i 1)) dW_265 w_603 w_604 wl_text w_85 ⟨by decide, by decide, by decide +kernel⟩ rfl ⟨Nat.le_of_ble_eq_true rfl, Nat.le_of_ble_eq_true rfl⟩ ⟨by show cells + 4 ≤ 601024; omega, by show slots + 24 ≤ 7293033; omega⟩ (Nat.le_of_ble_eq_true rfl) rfl (rest := [])) rfl rfl (fun zk n1 σ1 z1 => ?_)
  refine y_istore (pc := 268) (lv' := zL5 g b i zk) hF dW_268 (by decide) rfl rfl ?_
  have hn1 := Nat.le_trans hn z1.1
  have zM := mV_cG hM z1.2.1
  refine y_aload_n (pc := 270) hF dW_270 2 rfl ?_
  refine zl_arg (pc := 271) E dW_271 dW_272 dW_274 dW_275 dW_276 rfl rfl (by omega) ?_
  refine y_ci (cells' := cells + 4) (slots' := slots + 24) (y_rV (pc := 277) (rest := []) hF (tX11_text hn1 _ _ _ _ _ _ _ _ _ _ _ _ _ _ _ _ _ _ _ _ _ _ _ _ _ _ _ zM hW (zA xs i 1) (zA_r xs i 1)) dW_277 (by omega) rfl rfl rfl w_1388 qX11_text rfl ⟨Nat.le_of_ble_eq_true rfl, Nat.le_of_ble_eq_true rfl⟩ ⟨by show cells + 4 ≤ 601024; omega, by show slots + 24 ≤ 7293033; omega⟩ (Nat.le_of_ble_eq_true rfl) rfl) rfl rfl (fun zb n2 σ2 z2 => ?_)
  refine y_istore (pc := 280) (lv' := zL6 g b i zk zb) hF dW_280 (by decide) rfl rfl ?_
  have hn2 := Nat.le_trans hn1 z2.1
  have hn3 := Nat.le_trans z1.1 z2.1
  have zt : ∃ A' : aA, zk = σ2 155 0 ∧ (0 ≤ zk ∧ zk ≤ 2) ∧ (zk = 0 → σ2 171 0 = wr zb) ∧ zG (N + 400) σ2 A' := by
    obtain ⟨_, zg, z1⟩ := z1
    obtain ⟨_, z2⟩ := z2
    rcases z1 with ⟨q, rfl, q2, q3⟩ | ⟨q, rfl, q3⟩
    · rcases z2 with ⟨p, p1, p2⟩ | ⟨p, p2⟩
      · exact ⟨_, p2.2.1.symm, (by decide), (fun _ => by rw [p2.1 171 (Or.inr rfl), q2, p1]), cV_mF q3 p2.1, p2.2.2, aW_up (aW_text ZN q hW) (by omega)⟩
      · exact absurd q p
    · rcases z2 with ⟨p, p1, p2⟩ | ⟨p, p2⟩
      · exact absurd p q
      · exact ⟨_, p2.2.1.symm, (by decide), (fun z => absurd z (by decide)), cV_mF q3 p2.1, p2.2.2, aW_up (aW_bA hW) (by omega)⟩
  obtain ⟨A', t1, t2, t3, t4⟩ := zt
  exact zl_tail (pc := 282) E dW_282 dW_283 dW_286 dW_288 dW_293 dW_295 dW_298 dW_299 dW_300 dW_301 dW_303 dW_304 dW_305 dW_310 rfl t1 t2 t3 hn2 (by omega) (by omega) (y_wid (by omega) (by omega) (k n2 σ2 A' hn3 t4))
set_option maxHeartbeats 4000000 in
set_option maxRecDepth 100000 in
theorem zc_fault (E : zE x l g b L xs) {N : Int} {A : aA} (G : zG N σ A) (hN0 : 0 ≤ N) (hN : N ≤ 400000000) (hn : 172 ≤ n) {i : Int} (hi : 0 ≤ i ∧ i + 6 ≤ (L : Int)) (hc : cells + 408 ≤ 601024) (hs : slots + 3660 ≤ 7293033) (k : zK x g b Q n N cells slots i) : yV x g 7 Q (SC g) n σ cells slots 313 (zL g b i) [] := by
  obtain ⟨w, h, ⟨T, S, F, P, O, nf, df, nl, lg⟩, ⟨s, re, fo, ra, tu, we, sh⟩, H, ht, K, tl, tb, fa, r1, r2⟩ := A
  obtain ⟨hC, hM, hW⟩ := G
  have hF := E.1
  have ZN := hN0
  refine y_aload_n (pc := 313) hF dW_313 1 rfl ?_
  refine y_cp (y_rV (pc := 314) (rest := []) hF (tX10_fault hn _ _ _ _ _ _ _ _ _ _ _ _ _ _ _ _ _ _ _ _ _ _ _ _ _ _ _ hC hW) dW_314 (by omega) rfl rfl rfl w_548 qX10_fault rfl ⟨Nat.le_of_ble_eq_true rfl, Nat.le_of_ble_eq_true rfl⟩ ⟨by show cells ≤ 601024; omega, by show slots ≤ 7293033; omega⟩ (Nat.le_of_ble_eq_true rfl) rfl) ?_
  have hn1 := hn
  have zM := hM
  refine y_aload_n (pc := 317) hF dW_317 2 rfl ?_
  refine y_ci (cells' := cells) (slots' := slots) (y_rV (pc := 318) (rest := [_]) hF (tX11_fault hn1 _ _ _ _ _ _ _ _ _ _ _ _ _ _ _ _ _ _ _ _ _ _ _ _ _ _ _ zM hW) dW_318 (by omega) rfl rfl rfl w_1448 qX11_fault rfl ⟨Nat.le_of_ble_eq_true rfl, Nat.le_of_ble_eq_true rfl⟩ ⟨by show cells ≤ 601024; omega, by show slots ≤ 7293033; omega⟩ (Nat.le_of_ble_eq_true rfl) rfl) rfl rfl (fun zb n2 σ2 z2 => ?_)
  obtain ⟨z5, zb1, z6⟩ := z2
  subst zb1
  refine y_icmp_same (pc := 321) hF dW_321 2060 rfl ?_
  exact y_wid (by omega) (by omega) (k n2 σ2 _ z5 ⟨cV_mF hC z6.1, z6.2.2, aW_up hW (by omega)⟩)
set_option maxHeartbeats 4000000 in
set_option maxRecDepth 100000 in
theorem zc_set (E : zE x l g b L xs) {N : Int} {A : aA} (G : zG N σ A) (hN0 : 0 ≤ N) (hN : N ≤ 400000000) (hn : 172 ≤ n) {i : Int} (hi : 0 ≤ i ∧ i + 6 ≤ (L : Int)) (hc : cells + 408 ≤ 601024) (hs : slots + 3660 ≤ 7293033) (k : zK x g b Q n N cells slots i) : yV x g 7 Q (SC g) n σ cells slots 326 (zL g b i) [] := by
  obtain ⟨w, h, ⟨T, S, F, P, O, nf, df, nl, lg⟩, ⟨s, re, fo, ra, tu, we, sh⟩, H, ht, K, tl, tb, fa, r1, r2⟩ := A
  obtain ⟨hC, hM, hW⟩ := G
  have hF := E.1
  have ZN := hN0
  refine y_aload_n (pc := 326) hF dW_326 1 rfl ?_
  refine zl_arg (pc := 327) E dW_327 dW_328 dW_330 dW_331 dW_332 rfl rfl (by omega) ?_
  refine zl_arg (pc := 333) E dW_333 dW_334 dW_336 dW_337 dW_338 rfl rfl (by omega) ?_
  refine y_aload_n (pc := 339) hF dW_339 3 rfl ?_
  refine y_ci (cells' := cells + 4) (slots' := slots + 24) (y_rSL (pc := 340) (na := 4) hF E.2.1 E.2.2.1 (tL_set E.2.2.2.1 hn _ _ _ _ _ _ _ _ _ _ _ _ _ _ _ _ _ _ _ _ _ _ _ _ _ _ _ hC hW (zA xs i 1) (zA xs i 2) (zA_r xs i 1) (zA_r xs i 2)) dW_340 w_721 w_722 wl_set w_85 ⟨by decide, by decide, by decide +kernel⟩ rfl ⟨Nat.le_of_ble_eq_true rfl, Nat.le_of_ble_eq_true rfl⟩ ⟨by show cells + 4 ≤ 601024; omega, by show slots + 24 ≤ 7293033; omega⟩ (Nat.le_of_ble_eq_true rfl) rfl (rest := [])) rfl rfl (fun zk n1 σ1 z1 => ?_)
  refine y_istore (pc := 343) (lv' := zL5 g b i zk) hF dW_343 (by decide) rfl rfl ?_
  have hn1 := Nat.le_trans hn z1.1
  have zM := mV_cG hM z1.2.1
  refine y_aload_n (pc := 345) hF dW_345 2 rfl ?_
  refine zl_arg (pc := 346) E dW_346 dW_347 dW_349 dW_350 dW_351 rfl rfl (by omega) ?_
  refine zl_arg (pc := 352) E dW_352 dW_353 dW_355 dW_356 dW_357 rfl rfl (by omega) ?_
  refine y_ci (cells' := cells + 4) (slots' := slots + 24) (y_rV (pc := 358) (rest := []) hF (tX11_set hn1 _ _ _ _ _ _ _ _ _ _ _ _ _ _ _ _ _ _ _ _ _ _ _ _ _ _ _ zM hW (zA xs i 1) (zA xs i 2) (zA_r xs i 1) (zA_r xs i 2)) dW_358 (by omega) rfl rfl rfl w_1452 qX11_set rfl ⟨Nat.le_of_ble_eq_true rfl, Nat.le_of_ble_eq_true rfl⟩ ⟨by show cells + 4 ≤ 601024; omega, by show slots + 24 ≤ 7293033; omega⟩ (Nat.le_of_ble_eq_true rfl) rfl) rfl rfl (fun zb n2 σ2 z2 => ?_)
  refine y_istore (pc := 361) (lv' := zL6 g b i zk zb) hF dW_361 (by decide) rfl rfl ?_
  have hn2 := Nat.le_trans hn1 z2.1
  have hn3 := Nat.le_trans z1.1 z2.1
  have zt : ∃ A' : aA, zk = σ2 155 0 ∧ (0 ≤ zk ∧ zk ≤ 2) ∧ (zk = 0 → σ2 171 0 = wr zb) ∧ zG (N + 400) σ2 A' := by
    obtain ⟨_, zg, z1⟩ := z1
    obtain ⟨_, z2⟩ := z2
    rcases z1 with ⟨q, rfl, q2, q3⟩ | ⟨q, rfl, q3⟩
    · rcases z2 with ⟨p, p1, p2⟩ | ⟨p, p2⟩
      · exact ⟨_, p2.2.1.symm, (by decide), (fun _ => by rw [p2.1 171 (Or.inr rfl), q2, p1]), cV_mF q3 p2.1, p2.2.2, aW_up hW (by omega)⟩
      · exact absurd q p
    · rcases z2 with ⟨p, p1, p2⟩ | ⟨p, p2⟩
      · exact absurd p q
      · exact ⟨_, p2.2.1.symm, (by decide), (fun z => absurd z (by decide)), cV_mF q3 p2.1, p2.2.2, aW_up (aW_bA hW) (by omega)⟩
  obtain ⟨A', t1, t2, t3, t4⟩ := zt
  exact zl_tail (pc := 363) E dW_363 dW_364 dW_367 dW_369 dW_374 dW_376 dW_379 dW_380 dW_381 dW_382 dW_384 dW_385 dW_386 dW_391 rfl t1 t2 t3 hn2 (by omega) (by omega) (y_wid (by omega) (by omega) (k n2 σ2 A' hn3 t4))
end YLA
