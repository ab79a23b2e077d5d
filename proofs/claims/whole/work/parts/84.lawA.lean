/-! the law: its cases 0 .. 18 -/
theorem k_thing {p : Program} {l : Launch} {e : Env} {R : Room} {s : State} {m : MethodId} {args : Array Value} {below : List Frame} {meth : Method} {c : Code} {Q : State → Prop} {D : va_G} {tc tt ad1 ad2 : Nat → Nat} {A : Nat → Prop} {b L j k : Nat} {xs : Nat → Int32} {S : STT} {w1 w2 : va_W} (K : LC p R s m args c D tc tt A b L xs) (hX : XR ad1 tc S k w1) (hM : MR ad2 tc S w2) (hk : k ≤ 600) (hj : j + 5 < L) (go : ∀ (S1 : STT) (v1 v2 : va_W), XR ad1 tc S1 (k + 1) v1 → MR ad2 tc S1 v2 → Ev p l e R s m args below meth c 96 4782 Q D A 4 (v1 ++ v2) 1312 (lvL b (ad1 0) (ad2 0) (nI j)) []) : Ev p l e R s m args below meth c 96 4782 Q D A 4 (w1 ++ w2) 196 (lvL b (ad1 0) (ad2 0) (nI j)) [] := by
  refine E_aload_n K.1 dL_law_196 2 rfl ?_
  refine E_scr K hj 1 dL_law_197 dL_law_198 dL_law_199 dL_law_200 dL_law_201 (by decide +kernel) (by decide) ?_
  refine E_scr K hj 2 dL_law_202 dL_law_203 dL_law_204 dL_law_205 dL_law_206 (by decide +kernel) (by decide) ?_
  refine L_callI K.1 dL_law_207 mv_L_13 [.int (xs (j + 1)), .int (xs (j + 2))] (p_thing hX hk _ _) hX.head hX.len hM.len nd_64 nd_a (by decide) rfl rfl (by decide) (Nat.le_of_ble_eq_true rfl) K.2.2.2.2.2 (fun r1 v1 h1 => ?_)
  obtain ⟨rfl, hX1⟩ := h1
  refine E_aload_n K.1 dL_law_210 1 rfl ?_
  refine E_scr K hj 1 dL_law_211 dL_law_212 dL_law_213 dL_law_214 dL_law_215 (by decide +kernel) (by decide) ?_
  refine E_scr K hj 2 dL_law_216 dL_law_217 dL_law_218 dL_law_219 dL_law_220 (by decide +kernel) (by decide) ?_
  refine L_callI K.1 dL_law_221 mv_L_17 [.int (xs (j + 1)), .int (xs (j + 2))] (q_thing hM _ _) hM.head hM.len hX1.len nd_32 nd_b (by decide) rfl rfl (by decide) (Nat.le_of_ble_eq_true rfl) K.2.2.2.2.2 (fun r2 v2 h2 => ?_)
  obtain ⟨rfl, hM1⟩ := h2
  refine E_icmp_eq K.1 1312 dL_law_224 (by decide) (fun _ => ?_) (fun h => absurd rfl h)
  exact go _ _ _ hX1 hM1
theorem k_things {p : Program} {l : Launch} {e : Env} {R : Room} {s : State} {m : MethodId} {args : Array Value} {below : List Frame} {meth : Method} {c : Code} {Q : State → Prop} {D : va_G} {tc tt ad1 ad2 : Nat → Nat} {A : Nat → Prop} {b L j k : Nat} {xs : Nat → Int32} {S : STT} {w1 w2 : va_W} (K : LC p R s m args c D tc tt A b L xs) (hX : XR ad1 tc S k w1) (hM : MR ad2 tc S w2) (hk : k ≤ 600) (hj : j + 5 < L) (go : ∀ (S1 : STT) (v1 v2 : va_W), XR ad1 tc S1 (k + 1) v1 → MR ad2 tc S1 v2 → Ev p l e R s m args below meth c 96 4782 Q D A 4 (v1 ++ v2) 1312 (lvL b (ad1 0) (ad2 0) (nI j)) []) : Ev p l e R s m args below meth c 96 4782 Q D A 4 (w1 ++ w2) 229 (lvL b (ad1 0) (ad2 0) (nI j)) [] := by
  refine E_aload_n K.1 dL_law_229 2 rfl ?_
  refine E_scr K hj 1 dL_law_230 dL_law_231 dL_law_232 dL_law_233 dL_law_234 (by decide +kernel) (by decide) ?_
  refine E_scr K hj 2 dL_law_235 dL_law_236 dL_law_237 dL_law_238 dL_law_239 (by decide +kernel) (by decide) ?_
  refine E_scr K hj 3 dL_law_240 dL_law_241 dL_law_242 dL_law_243 dL_law_244 (by decide +kernel) (by decide) ?_
  refine L_callI K.1 dL_law_245 mv_L_18 [.int (xs (j + 1)), .int (xs (j + 2)), .int (xs (j + 3))] (p_things hX hk _ _ _) hX.head hX.len hM.len nd_64 nd_a (by decide) rfl rfl (by decide) (Nat.le_of_ble_eq_true rfl) K.2.2.2.2.2 (fun r1 v1 h1 => ?_)
  obtain ⟨rfl, hX1⟩ := h1
  refine E_aload_n K.1 dL_law_248 1 rfl ?_
  refine E_scr K hj 1 dL_law_249 dL_law_250 dL_law_251 dL_law_252 dL_law_253 (by decide +kernel) (by decide) ?_
  refine E_scr K hj 2 dL_law_254 dL_law_255 dL_law_256 dL_law_257 dL_law_258 (by decide +kernel) (by decide) ?_
  refine E_scr K hj 3 dL_law_259 dL_law_260 dL_law_261 dL_law_262 dL_law_263 (by decide +kernel) (by decide) ?_
  refine L_callI K.1 dL_law_264 mv_L_22 [.int (xs (j + 1)), .int (xs (j + 2)), .int (xs (j + 3))] (q_things hM _ _ _) hM.head hM.len hX1.len nd_32 nd_b (by decide) rfl rfl (by decide) (Nat.le_of_ble_eq_true rfl) K.2.2.2.2.2 (fun r2 v2 h2 => ?_)
  obtain ⟨rfl, hM1⟩ := h2
  refine E_icmp_eq K.1 1312 dL_law_267 (by decide) (fun _ => ?_) (fun h => absurd rfl h)
  exact go _ _ _ hX1 hM1
theorem k_mend {p : Program} {l : Launch} {e : Env} {R : Room} {s : State} {m : MethodId} {args : Array Value} {below : List Frame} {meth : Method} {c : Code} {Q : State → Prop} {D : va_G} {tc tt ad1 ad2 : Nat → Nat} {A : Nat → Prop} {b L j k : Nat} {xs : Nat → Int32} {S : STT} {w1 w2 : va_W} (K : LC p R s m args c D tc tt A b L xs) (hX : XR ad1 tc S k w1) (hM : MR ad2 tc S w2) (hk : k ≤ 600) (hj : j + 5 < L) (go : ∀ (S1 : STT) (v1 v2 : va_W), XR ad1 tc S1 (k + 1) v1 → MR ad2 tc S1 v2 → Ev p l e R s m args below meth c 96 4782 Q D A 4 (v1 ++ v2) 1312 (lvL b (ad1 0) (ad2 0) (nI j)) []) : Ev p l e R s m args below meth c 96 4782 Q D A 4 (w1 ++ w2) 272 (lvL b (ad1 0) (ad2 0) (nI j)) [] := by
  refine E_aload_n K.1 dL_law_272 2 rfl ?_
  refine E_scr K hj 1 dL_law_273 dL_law_274 dL_law_275 dL_law_276 dL_law_277 (by decide +kernel) (by decide) ?_
  refine E_scr K hj 2 dL_law_278 dL_law_279 dL_law_280 dL_law_281 dL_law_282 (by decide +kernel) (by decide) ?_
  refine E_scr K hj 3 dL_law_283 dL_law_284 dL_law_285 dL_law_286 dL_law_287 (by decide +kernel) (by decide) ?_
  refine L_callI K.1 dL_law_288 mv_L_23 [.int (xs (j + 1)), .int (xs (j + 2)), .int (xs (j + 3))] (p_mend hX hk _ _ _) hX.head hX.len hM.len nd_64 nd_a (by decide) rfl rfl (by decide) (Nat.le_of_ble_eq_true rfl) K.2.2.2.2.2 (fun r1 v1 h1 => ?_)
  obtain ⟨rfl, hX1⟩ := h1
  refine E_aload_n K.1 dL_law_291 1 rfl ?_
  refine E_scr K hj 1 dL_law_292 dL_law_293 dL_law_294 dL_law_295 dL_law_296 (by decide +kernel) (by decide) ?_
  refine E_scr K hj 2 dL_law_297 dL_law_298 dL_law_299 dL_law_300 dL_law_301 (by decide +kernel) (by decide) ?_
  refine E_scr K hj 3 dL_law_302 dL_law_303 dL_law_304 dL_law_305 dL_law_306 (by decide +kernel) (by decide) ?_
  refine L_callI K.1 dL_law_307 mv_L_26 [.int (xs (j + 1)), .int (xs (j + 2)), .int (xs (j + 3))] (q_mend hM _ _ _) hM.head hM.len hX1.len nd_32 nd_b (by decide) rfl rfl (by decide) (Nat.le_of_ble_eq_true rfl) K.2.2.2.2.2 (fun r2 v2 h2 => ?_)
  obtain ⟨rfl, hM1⟩ := h2
  refine E_icmp_eq K.1 1312 dL_law_310 (by decide) (fun _ => ?_) (fun h => absurd rfl h)
  exact go _ _ _ hX1 hM1
theorem k_of {p : Program} {l : Launch} {e : Env} {R : Room} {s : State} {m : MethodId} {args : Array Value} {below : List Frame} {meth : Method} {c : Code} {Q : State → Prop} {D : va_G} {tc tt ad1 ad2 : Nat → Nat} {A : Nat → Prop} {b L j k : Nat} {xs : Nat → Int32} {S : STT} {w1 w2 : va_W} (K : LC p R s m args c D tc tt A b L xs) (hX : XR ad1 tc S k w1) (hM : MR ad2 tc S w2) (hk : k ≤ 600) (hj : j + 5 < L) (go : ∀ (S1 : STT) (v1 v2 : va_W), XR ad1 tc S1 (k + 1) v1 → MR ad2 tc S1 v2 → Ev p l e R s m args below meth c 96 4782 Q D A 4 (v1 ++ v2) 1312 (lvL b (ad1 0) (ad2 0) (nI j)) []) : Ev p l e R s m args below meth c 96 4782 Q D A 4 (w1 ++ w2) 315 (lvL b (ad1 0) (ad2 0) (nI j)) [] := by
  refine E_aload_n K.1 dL_law_315 2 rfl ?_
  refine E_scr K hj 1 dL_law_316 dL_law_317 dL_law_318 dL_law_319 dL_law_320 (by decide +kernel) (by decide) ?_
  refine E_scr K hj 2 dL_law_321 dL_law_322 dL_law_323 dL_law_324 dL_law_325 (by decide +kernel) (by decide) ?_
  refine L_callI K.1 dL_law_326 mv_L_27 [.int (xs (j + 1)), .int (xs (j + 2))] (p_of hX hk _ _) hX.head hX.len hM.len nd_64 nd_a (by decide) rfl rfl (by decide) (Nat.le_of_ble_eq_true rfl) K.2.2.2.2.2 (fun r1 v1 h1 => ?_)
  obtain ⟨rfl, hX1⟩ := h1
  refine E_aload_n K.1 dL_law_329 1 rfl ?_
  refine E_scr K hj 1 dL_law_330 dL_law_331 dL_law_332 dL_law_333 dL_law_334 (by decide +kernel) (by decide) ?_
  refine E_scr K hj 2 dL_law_335 dL_law_336 dL_law_337 dL_law_338 dL_law_339 (by decide +kernel) (by decide) ?_
  refine L_callI K.1 dL_law_340 mv_L_30 [.int (xs (j + 1)), .int (xs (j + 2))] (q_of hM _ _) hM.head hM.len hX1.len nd_32 nd_b (by decide) rfl rfl (by decide) (Nat.le_of_ble_eq_true rfl) K.2.2.2.2.2 (fun r2 v2 h2 => ?_)
  obtain ⟨rfl, hM1⟩ := h2
  refine E_icmp_eq K.1 1312 dL_law_343 (by decide) (fun _ => ?_) (fun h => absurd rfl h)
  exact go _ _ _ hX1 hM1
theorem k_feed {p : Program} {l : Launch} {e : Env} {R : Room} {s : State} {m : MethodId} {args : Array Value} {below : List Frame} {meth : Method} {c : Code} {Q : State → Prop} {D : va_G} {tc tt ad1 ad2 : Nat → Nat} {A : Nat → Prop} {b L j k : Nat} {xs : Nat → Int32} {S : STT} {w1 w2 : va_W} (K : LC p R s m args c D tc tt A b L xs) (hX : XR ad1 tc S k w1) (hM : MR ad2 tc S w2) (hk : k ≤ 600) (hj : j + 5 < L) (go : ∀ (S1 : STT) (v1 v2 : va_W), XR ad1 tc S1 (k + 1) v1 → MR ad2 tc S1 v2 → Ev p l e R s m args below meth c 96 4782 Q D A 4 (v1 ++ v2) 1312 (lvL b (ad1 0) (ad2 0) (nI j)) []) : Ev p l e R s m args below meth c 96 4782 Q D A 4 (w1 ++ w2) 348 (lvL b (ad1 0) (ad2 0) (nI j)) [] := by
  refine E_aload_n K.1 dL_law_348 2 rfl ?_
  refine E_scr K hj 1 dL_law_349 dL_law_350 dL_law_351 dL_law_352 dL_law_353 (by decide +kernel) (by decide) ?_
  refine L_callI K.1 dL_law_354 mv_L_31 [.int (xs (j + 1))] (p_feed hX hk _) hX.head hX.len hM.len nd_64 nd_a (by decide) rfl rfl (by decide) (Nat.le_of_ble_eq_true rfl) K.2.2.2.2.2 (fun r1 v1 h1 => ?_)
  obtain ⟨rfl, hX1⟩ := h1
  refine E_aload_n K.1 dL_law_357 1 rfl ?_
  refine E_scr K hj 1 dL_law_358 dL_law_359 dL_law_360 dL_law_361 dL_law_362 (by decide +kernel) (by decide) ?_
  refine L_callI K.1 dL_law_363 mv_L_35 [.int (xs (j + 1))] (q_feed hM _) hM.head hM.len hX1.len nd_32 nd_b (by decide) rfl rfl (by decide) (Nat.le_of_ble_eq_true rfl) K.2.2.2.2.2 (fun r2 v2 h2 => ?_)
  obtain ⟨rfl, hM1⟩ := h2
  refine E_icmp_eq K.1 1312 dL_law_366 (by decide) (fun _ => ?_) (fun h => absurd rfl h)
  exact go _ _ _ hX1 hM1
theorem k_law {p : Program} {l : Launch} {e : Env} {R : Room} {s : State} {m : MethodId} {args : Array Value} {below : List Frame} {meth : Method} {c : Code} {Q : State → Prop} {D : va_G} {tc tt ad1 ad2 : Nat → Nat} {A : Nat → Prop} {b L j k : Nat} {xs : Nat → Int32} {S : STT} {w1 w2 : va_W} (K : LC p R s m args c D tc tt A b L xs) (hX : XR ad1 tc S k w1) (hM : MR ad2 tc S w2) (hk : k ≤ 600) (hj : j + 5 < L) (go : ∀ (S1 : STT) (v1 v2 : va_W), XR ad1 tc S1 (k + 1) v1 → MR ad2 tc S1 v2 → Ev p l e R s m args below meth c 96 4782 Q D A 4 (v1 ++ v2) 1312 (lvL b (ad1 0) (ad2 0) (nI j)) []) : Ev p l e R s m args below meth c 96 4782 Q D A 4 (w1 ++ w2) 371 (lvL b (ad1 0) (ad2 0) (nI j)) [] := by
  refine E_aload_n K.1 dL_law_371 2 rfl ?_
  refine L_callI K.1 dL_law_372 mv_L_36 [] (p_law hX hk) hX.head hX.len hM.len nd_64 nd_a (by decide) rfl rfl (by decide) (Nat.le_of_ble_eq_true rfl) K.2.2.2.2.2 (fun r1 v1 h1 => ?_)
  obtain ⟨rfl, hX1⟩ := h1
  refine E_aload_n K.1 dL_law_375 1 rfl ?_
  refine L_callI K.1 dL_law_376 mv_L_40 [] (q_law hM) hM.head hM.len hX1.len nd_32 nd_b (by decide) rfl rfl (by decide) (Nat.le_of_ble_eq_true rfl) K.2.2.2.2.2 (fun r2 v2 h2 => ?_)
  obtain ⟨rfl, hM1⟩ := h2
  refine E_icmp_eq K.1 1312 dL_law_379 (by decide) (fun _ => ?_) (fun h => absurd rfl h)
  exact go _ _ _ hX1 hM1
theorem k_drive {p : Program} {l : Launch} {e : Env} {R : Room} {s : State} {m : MethodId} {args : Array Value} {below : List Frame} {meth : Method} {c : Code} {Q : State → Prop} {D : va_G} {tc tt ad1 ad2 : Nat → Nat} {A : Nat → Prop} {b L j k : Nat} {xs : Nat → Int32} {S : STT} {w1 w2 : va_W} (K : LC p R s m args c D tc tt A b L xs) (hX : XR ad1 tc S k w1) (hM : MR ad2 tc S w2) (hk : k ≤ 600) (hj : j + 5 < L) (go : ∀ (S1 : STT) (v1 v2 : va_W), XR ad1 tc S1 (k + 1) v1 → MR ad2 tc S1 v2 → Ev p l e R s m args below meth c 96 4782 Q D A 4 (v1 ++ v2) 1312 (lvL b (ad1 0) (ad2 0) (nI j)) []) : Ev p l e R s m args below meth c 96 4782 Q D A 4 (w1 ++ w2) 384 (lvL b (ad1 0) (ad2 0) (nI j)) [] := by
  refine E_aload_n K.1 dL_law_384 2 rfl ?_
  refine E_scr K hj 1 dL_law_385 dL_law_386 dL_law_387 dL_law_388 dL_law_389 (by decide +kernel) (by decide) ?_
  refine E_scr K hj 2 dL_law_390 dL_law_391 dL_law_392 dL_law_393 dL_law_394 (by decide +kernel) (by decide) ?_
  refine L_callI K.1 dL_law_395 mv_L_41 [.int (xs (j + 1)), .int (xs (j + 2))] (p_drive hX hk _ _) hX.head hX.len hM.len nd_64 nd_a (by decide) rfl rfl (by decide) (Nat.le_of_ble_eq_true rfl) K.2.2.2.2.2 (fun r1 v1 h1 => ?_)
  obtain ⟨rfl, hX1⟩ := h1
  refine E_aload_n K.1 dL_law_398 1 rfl ?_
  refine E_scr K hj 1 dL_law_399 dL_law_400 dL_law_401 dL_law_402 dL_law_403 (by decide +kernel) (by decide) ?_
  refine E_scr K hj 2 dL_law_404 dL_law_405 dL_law_406 dL_law_407 dL_law_408 (by decide +kernel) (by decide) ?_
  refine L_callI K.1 dL_law_409 mv_L_44 [.int (xs (j + 1)), .int (xs (j + 2))] (q_drive hM _ _) hM.head hM.len hX1.len nd_32 nd_b (by decide) rfl rfl (by decide) (Nat.le_of_ble_eq_true rfl) K.2.2.2.2.2 (fun r2 v2 h2 => ?_)
  obtain ⟨rfl, hM1⟩ := h2
  refine E_icmp_eq K.1 1312 dL_law_412 (by decide) (fun _ => ?_) (fun h => absurd rfl h)
  exact go _ _ _ hX1 hM1
theorem k_going {p : Program} {l : Launch} {e : Env} {R : Room} {s : State} {m : MethodId} {args : Array Value} {below : List Frame} {meth : Method} {c : Code} {Q : State → Prop} {D : va_G} {tc tt ad1 ad2 : Nat → Nat} {A : Nat → Prop} {b L j k : Nat} {xs : Nat → Int32} {S : STT} {w1 w2 : va_W} (K : LC p R s m args c D tc tt A b L xs) (hX : XR ad1 tc S k w1) (hM : MR ad2 tc S w2) (hk : k ≤ 600) (hj : j + 5 < L) (go : ∀ (S1 : STT) (v1 v2 : va_W), XR ad1 tc S1 (k + 1) v1 → MR ad2 tc S1 v2 → Ev p l e R s m args below meth c 96 4782 Q D A 4 (v1 ++ v2) 1312 (lvL b (ad1 0) (ad2 0) (nI j)) []) : Ev p l e R s m args below meth c 96 4782 Q D A 4 (w1 ++ w2) 417 (lvL b (ad1 0) (ad2 0) (nI j)) [] := by
  refine E_aload_n K.1 dL_law_417 2 rfl ?_
  refine E_scr K hj 1 dL_law_418 dL_law_419 dL_law_420 dL_law_421 dL_law_422 (by decide +kernel) (by decide) ?_
  refine E_scr K hj 2 dL_law_423 dL_law_424 dL_law_425 dL_law_426 dL_law_427 (by decide +kernel) (by decide) ?_
  refine E_scr K hj 3 dL_law_428 dL_law_429 dL_law_430 dL_law_431 dL_law_432 (by decide +kernel) (by decide) ?_
  refine L_callI K.1 dL_law_433 mv_L_45 [.int (xs (j + 1)), .int (xs (j + 2)), .int (xs (j + 3))] (p_going hX hk _ _ _) hX.head hX.len hM.len nd_64 nd_a (by decide) rfl rfl (by decide) (Nat.le_of_ble_eq_true rfl) K.2.2.2.2.2 (fun r1 v1 h1 => ?_)
  obtain ⟨rfl, hX1⟩ := h1
  refine E_aload_n K.1 dL_law_436 1 rfl ?_
  refine E_scr K hj 1 dL_law_437 dL_law_438 dL_law_439 dL_law_440 dL_law_441 (by decide +kernel) (by decide) ?_
  refine E_scr K hj 2 dL_law_442 dL_law_443 dL_law_444 dL_law_445 dL_law_446 (by decide +kernel) (by decide) ?_
  refine E_scr K hj 3 dL_law_447 dL_law_448 dL_law_449 dL_law_450 dL_law_451 (by decide +kernel) (by decide) ?_
  refine L_callI K.1 dL_law_452 mv_L_48 [.int (xs (j + 1)), .int (xs (j + 2)), .int (xs (j + 3))] (q_going hM _ _ _) hM.head hM.len hX1.len nd_32 nd_b (by decide) rfl rfl (by decide) (Nat.le_of_ble_eq_true rfl) K.2.2.2.2.2 (fun r2 v2 h2 => ?_)
  obtain ⟨rfl, hM1⟩ := h2
  refine E_icmp_eq K.1 1312 dL_law_455 (by decide) (fun _ => ?_) (fun h => absurd rfl h)
  exact go _ _ _ hX1 hM1
theorem k_mean {p : Program} {l : Launch} {e : Env} {R : Room} {s : State} {m : MethodId} {args : Array Value} {below : List Frame} {meth : Method} {c : Code} {Q : State → Prop} {D : va_G} {tc tt ad1 ad2 : Nat → Nat} {A : Nat → Prop} {b L j k : Nat} {xs : Nat → Int32} {S : STT} {w1 w2 : va_W} (K : LC p R s m args c D tc tt A b L xs) (hX : XR ad1 tc S k w1) (hM : MR ad2 tc S w2) (hk : k ≤ 600) (hj : j + 5 < L) (go : ∀ (S1 : STT) (v1 v2 : va_W), XR ad1 tc S1 (k + 1) v1 → MR ad2 tc S1 v2 → Ev p l e R s m args below meth c 96 4782 Q D A 4 (v1 ++ v2) 1312 (lvL b (ad1 0) (ad2 0) (nI j)) []) : Ev p l e R s m args below meth c 96 4782 Q D A 4 (w1 ++ w2) 460 (lvL b (ad1 0) (ad2 0) (nI j)) [] := by
  refine E_aload_n K.1 dL_law_460 2 rfl ?_
  refine E_scr K hj 1 dL_law_461 dL_law_462 dL_law_463 dL_law_464 dL_law_465 (by decide +kernel) (by decide) ?_
  refine L_callL K.1 dL_law_466 mv_L_49 [.int (xs (j + 1))] (p_mean hX hk _) hX.head hX.len hM.len nd_64 nd_a (by decide) rfl rfl (by decide) (Nat.le_of_ble_eq_true rfl) K.2.2.2.2.2 (fun r1 v1 h1 => ?_)
  obtain ⟨rfl, hX1⟩ := h1
  refine E_aload_n K.1 dL_law_469 1 rfl ?_
  refine E_scr K hj 1 dL_law_470 dL_law_471 dL_law_472 dL_law_473 dL_law_474 (by decide +kernel) (by decide) ?_
  refine L_callL K.1 dL_law_475 mv_L_53 [.int (xs (j + 1))] (q_mean hM _) hM.head hM.len hX1.len nd_32 nd_b (by decide) rfl rfl (by decide) (Nat.le_of_ble_eq_true rfl) K.2.2.2.2.2 (fun r2 v2 h2 => ?_)
  obtain ⟨rfl, hM1⟩ := h2
  refine E_lcmp K.1 dL_law_478 ?_
  rw [lg_cmp_self]
  refine E_if_eq K.1 1312 dL_law_479 (by decide) (fun _ => ?_) (fun h => absurd rfl h)
  exact go _ _ _ hX1 hM1
theorem k_likely {p : Program} {l : Launch} {e : Env} {R : Room} {s : State} {m : MethodId} {args : Array Value} {below : List Frame} {meth : Method} {c : Code} {Q : State → Prop} {D : va_G} {tc tt ad1 ad2 : Nat → Nat} {A : Nat → Prop} {b L j k : Nat} {xs : Nat → Int32} {S : STT} {w1 w2 : va_W} (K : LC p R s m args c D tc tt A b L xs) (hX : XR ad1 tc S k w1) (hM : MR ad2 tc S w2) (hk : k ≤ 600) (hj : j + 5 < L) (go : ∀ (S1 : STT) (v1 v2 : va_W), XR ad1 tc S1 (k + 1) v1 → MR ad2 tc S1 v2 → Ev p l e R s m args below meth c 96 4782 Q D A 4 (v1 ++ v2) 1312 (lvL b (ad1 0) (ad2 0) (nI j)) []) : Ev p l e R s m args below meth c 96 4782 Q D A 4 (w1 ++ w2) 484 (lvL b (ad1 0) (ad2 0) (nI j)) [] := by
  refine E_aload_n K.1 dL_law_484 2 rfl ?_
  refine E_scr K hj 1 dL_law_485 dL_law_486 dL_law_487 dL_law_488 dL_law_489 (by decide +kernel) (by decide) ?_
  refine E_scr K hj 2 dL_law_490 dL_law_491 dL_law_492 dL_law_493 dL_law_494 (by decide +kernel) (by decide) ?_
  refine L_callL K.1 dL_law_495 mv_L_54 [.int (xs (j + 1)), .int (xs (j + 2))] (p_likely hX hk _ _) hX.head hX.len hM.len nd_64 nd_a (by decide) rfl rfl (by decide) (Nat.le_of_ble_eq_true rfl) K.2.2.2.2.2 (fun r1 v1 h1 => ?_)
  obtain ⟨rfl, hX1⟩ := h1
  refine E_aload_n K.1 dL_law_498 1 rfl ?_
  refine E_scr K hj 1 dL_law_499 dL_law_500 dL_law_501 dL_law_502 dL_law_503 (by decide +kernel) (by decide) ?_
  refine E_scr K hj 2 dL_law_504 dL_law_505 dL_law_506 dL_law_507 dL_law_508 (by decide +kernel) (by decide) ?_
  refine L_callL K.1 dL_law_509 mv_L_58 [.int (xs (j + 1)), .int (xs (j + 2))] (q_likely hM _ _) hM.head hM.len hX1.len nd_32 nd_b (by decide) rfl rfl (by decide) (Nat.le_of_ble_eq_true rfl) K.2.2.2.2.2 (fun r2 v2 h2 => ?_)
  obtain ⟨rfl, hM1⟩ := h2
  refine E_lcmp K.1 dL_law_512 ?_
  rw [lg_cmp_self]
  refine E_if_eq K.1 1312 dL_law_513 (by decide) (fun _ => ?_) (fun h => absurd rfl h)
  exact go _ _ _ hX1 hM1
theorem k_aloud {p : Program} {l : Launch} {e : Env} {R : Room} {s : State} {m : MethodId} {args : Array Value} {below : List Frame} {meth : Method} {c : Code} {Q : State → Prop} {D : va_G} {tc tt ad1 ad2 : Nat → Nat} {A : Nat → Prop} {b L j k : Nat} {xs : Nat → Int32} {S : STT} {w1 w2 : va_W} (K : LC p R s m args c D tc tt A b L xs) (hX : XR ad1 tc S k w1) (hM : MR ad2 tc S w2) (hk : k ≤ 600) (hj : j + 5 < L) (go : ∀ (S1 : STT) (v1 v2 : va_W), XR ad1 tc S1 (k + 1) v1 → MR ad2 tc S1 v2 → Ev p l e R s m args below meth c 96 4782 Q D A 4 (v1 ++ v2) 1312 (lvL b (ad1 0) (ad2 0) (nI j)) []) : Ev p l e R s m args below meth c 96 4782 Q D A 4 (w1 ++ w2) 518 (lvL b (ad1 0) (ad2 0) (nI j)) [] := by
  refine E_aload_n K.1 dL_law_518 2 rfl ?_
  refine E_scr K hj 1 dL_law_519 dL_law_520 dL_law_521 dL_law_522 dL_law_523 (by decide +kernel) (by decide) ?_
  refine E_scr K hj 2 dL_law_524 dL_law_525 dL_law_526 dL_law_527 dL_law_528 (by decide +kernel) (by decide) ?_
  refine L_callI K.1 dL_law_529 mv_L_59 [.int (xs (j + 1)), .int (xs (j + 2))] (p_aloud hX hk _ _) hX.head hX.len hM.len nd_64 nd_a (by decide) rfl rfl (by decide) (Nat.le_of_ble_eq_true rfl) K.2.2.2.2.2 (fun r1 v1 h1 => ?_)
  obtain ⟨rfl, hX1⟩ := h1
  refine E_aload_n K.1 dL_law_532 1 rfl ?_
  refine E_scr K hj 1 dL_law_533 dL_law_534 dL_law_535 dL_law_536 dL_law_537 (by decide +kernel) (by decide) ?_
  refine E_scr K hj 2 dL_law_538 dL_law_539 dL_law_540 dL_law_541 dL_law_542 (by decide +kernel) (by decide) ?_
  refine L_callI K.1 dL_law_543 mv_L_62 [.int (xs (j + 1)), .int (xs (j + 2))] (q_aloud hM _ _) hM.head hM.len hX1.len nd_32 nd_b (by decide) rfl rfl (by decide) (Nat.le_of_ble_eq_true rfl) K.2.2.2.2.2 (fun r2 v2 h2 => ?_)
  obtain ⟨rfl, hM1⟩ := h2
  refine E_icmp_eq K.1 1312 dL_law_546 (by decide) (fun _ => ?_) (fun h => absurd rfl h)
  exact go _ _ _ hX1 hM1
theorem k_who {p : Program} {l : Launch} {e : Env} {R : Room} {s : State} {m : MethodId} {args : Array Value} {below : List Frame} {meth : Method} {c : Code} {Q : State → Prop} {D : va_G} {tc tt ad1 ad2 : Nat → Nat} {A : Nat → Prop} {b L j k : Nat} {xs : Nat → Int32} {S : STT} {w1 w2 : va_W} (K : LC p R s m args c D tc tt A b L xs) (hX : XR ad1 tc S k w1) (hM : MR ad2 tc S w2) (hk : k ≤ 600) (hj : j + 5 < L) (go : ∀ (S1 : STT) (v1 v2 : va_W), XR ad1 tc S1 (k + 1) v1 → MR ad2 tc S1 v2 → Ev p l e R s m args below meth c 96 4782 Q D A 4 (v1 ++ v2) 1312 (lvL b (ad1 0) (ad2 0) (nI j)) []) : Ev p l e R s m args below meth c 96 4782 Q D A 4 (w1 ++ w2) 551 (lvL b (ad1 0) (ad2 0) (nI j)) [] := by
  refine E_aload_n K.1 dL_law_551 2 rfl ?_
  refine E_scr K hj 1 dL_law_552 dL_law_553 dL_law_554 dL_law_555 dL_law_556 (by decide +kernel) (by decide) ?_
  refine L_callI K.1 dL_law_557 mv_L_63 [.int (xs (j + 1))] (p_who hX hk _) hX.head hX.len hM.len nd_64 nd_a (by decide) rfl rfl (by decide) (Nat.le_of_ble_eq_true rfl) K.2.2.2.2.2 (fun r1 v1 h1 => ?_)
  obtain ⟨rfl, hX1⟩ := h1
  refine E_aload_n K.1 dL_law_560 1 rfl ?_
  refine E_scr K hj 1 dL_law_561 dL_law_562 dL_law_563 dL_law_564 dL_law_565 (by decide +kernel) (by decide) ?_
  refine L_callI K.1 dL_law_566 mv_L_66 [.int (xs (j + 1))] (q_who hM _) hM.head hM.len hX1.len nd_32 nd_b (by decide) rfl rfl (by decide) (Nat.le_of_ble_eq_true rfl) K.2.2.2.2.2 (fun r2 v2 h2 => ?_)
  obtain ⟨rfl, hM1⟩ := h2
  refine E_icmp_eq K.1 1312 dL_law_569 (by decide) (fun _ => ?_) (fun h => absurd rfl h)
  exact go _ _ _ hX1 hM1
theorem k_doorstep {p : Program} {l : Launch} {e : Env} {R : Room} {s : State} {m : MethodId} {args : Array Value} {below : List Frame} {meth : Method} {c : Code} {Q : State → Prop} {D : va_G} {tc tt ad1 ad2 : Nat → Nat} {A : Nat → Prop} {b L j k : Nat} {xs : Nat → Int32} {S : STT} {w1 w2 : va_W} (K : LC p R s m args c D tc tt A b L xs) (hX : XR ad1 tc S k w1) (hM : MR ad2 tc S w2) (hk : k ≤ 600) (hj : j + 5 < L) (go : ∀ (S1 : STT) (v1 v2 : va_W), XR ad1 tc S1 (k + 1) v1 → MR ad2 tc S1 v2 → Ev p l e R s m args below meth c 96 4782 Q D A 4 (v1 ++ v2) 1312 (lvL b (ad1 0) (ad2 0) (nI j)) []) : Ev p l e R s m args below meth c 96 4782 Q D A 4 (w1 ++ w2) 574 (lvL b (ad1 0) (ad2 0) (nI j)) [] := by
  refine E_aload_n K.1 dL_law_574 2 rfl ?_
  refine E_scr K hj 1 dL_law_575 dL_law_576 dL_law_577 dL_law_578 dL_law_579 (by decide +kernel) (by decide) ?_
  refine L_callL K.1 dL_law_580 mv_L_67 [.int (xs (j + 1))] (p_doorstep hX hk _) hX.head hX.len hM.len nd_64 nd_a (by decide) rfl rfl (by decide) (Nat.le_of_ble_eq_true rfl) K.2.2.2.2.2 (fun r1 v1 h1 => ?_)
  obtain ⟨rfl, hX1⟩ := h1
  refine E_aload_n K.1 dL_law_583 1 rfl ?_
  refine E_scr K hj 1 dL_law_584 dL_law_585 dL_law_586 dL_law_587 dL_law_588 (by decide +kernel) (by decide) ?_
  refine L_callL K.1 dL_law_589 mv_L_70 [.int (xs (j + 1))] (q_doorstep hM _) hM.head hM.len hX1.len nd_32 nd_b (by decide) rfl rfl (by decide) (Nat.le_of_ble_eq_true rfl) K.2.2.2.2.2 (fun r2 v2 h2 => ?_)
  obtain ⟨rfl, hM1⟩ := h2
  refine E_lcmp K.1 dL_law_592 ?_
  rw [lg_cmp_self]
  refine E_if_eq K.1 1312 dL_law_593 (by decide) (fun _ => ?_) (fun h => absurd rfl h)
  exact go _ _ _ hX1 hM1
theorem k_list {p : Program} {l : Launch} {e : Env} {R : Room} {s : State} {m : MethodId} {args : Array Value} {below : List Frame} {meth : Method} {c : Code} {Q : State → Prop} {D : va_G} {tc tt ad1 ad2 : Nat → Nat} {A : Nat → Prop} {b L j k : Nat} {xs : Nat → Int32} {S : STT} {w1 w2 : va_W} (K : LC p R s m args c D tc tt A b L xs) (hX : XR ad1 tc S k w1) (hM : MR ad2 tc S w2) (hk : k ≤ 600) (hj : j + 5 < L) (go : ∀ (S1 : STT) (v1 v2 : va_W), XR ad1 tc S1 (k + 1) v1 → MR ad2 tc S1 v2 → Ev p l e R s m args below meth c 96 4782 Q D A 4 (v1 ++ v2) 1312 (lvL b (ad1 0) (ad2 0) (nI j)) []) : Ev p l e R s m args below meth c 96 4782 Q D A 4 (w1 ++ w2) 598 (lvL b (ad1 0) (ad2 0) (nI j)) [] := by
  refine E_aload_n K.1 dL_law_598 2 rfl ?_
  refine E_scr K hj 1 dL_law_599 dL_law_600 dL_law_601 dL_law_602 dL_law_603 (by decide +kernel) (by decide) ?_
  refine E_scr K hj 2 dL_law_604 dL_law_605 dL_law_606 dL_law_607 dL_law_608 (by decide +kernel) (by decide) ?_
  refine L_callL K.1 dL_law_609 mv_L_71 [.int (xs (j + 1)), .int (xs (j + 2))] (p_list hX hk _ _) hX.head hX.len hM.len nd_64 nd_a (by decide) rfl rfl (by decide) (Nat.le_of_ble_eq_true rfl) K.2.2.2.2.2 (fun r1 v1 h1 => ?_)
  obtain ⟨rfl, hX1⟩ := h1
  refine E_aload_n K.1 dL_law_612 1 rfl ?_
  refine E_scr K hj 1 dL_law_613 dL_law_614 dL_law_615 dL_law_616 dL_law_617 (by decide +kernel) (by decide) ?_
  refine E_scr K hj 2 dL_law_618 dL_law_619 dL_law_620 dL_law_621 dL_law_622 (by decide +kernel) (by decide) ?_
  refine L_callL K.1 dL_law_623 mv_L_74 [.int (xs (j + 1)), .int (xs (j + 2))] (q_list hM _ _) hM.head hM.len hX1.len nd_32 nd_b (by decide) rfl rfl (by decide) (Nat.le_of_ble_eq_true rfl) K.2.2.2.2.2 (fun r2 v2 h2 => ?_)
  obtain ⟨rfl, hM1⟩ := h2
  refine E_lcmp K.1 dL_law_626 ?_
  rw [lg_cmp_self]
  refine E_if_eq K.1 1312 dL_law_627 (by decide) (fun _ => ?_) (fun h => absurd rfl h)
  exact go _ _ _ hX1 hM1
theorem k_onWith {p : Program} {l : Launch} {e : Env} {R : Room} {s : State} {m : MethodId} {args : Array Value} {below : List Frame} {meth : Method} {c : Code} {Q : State → Prop} {D : va_G} {tc tt ad1 ad2 : Nat → Nat} {A : Nat → Prop} {b L j k : Nat} {xs : Nat → Int32} {S : STT} {w1 w2 : va_W} (K : LC p R s m args c D tc tt A b L xs) (hX : XR ad1 tc S k w1) (hM : MR ad2 tc S w2) (hk : k ≤ 600) (hj : j + 5 < L) (go : ∀ (S1 : STT) (v1 v2 : va_W), XR ad1 tc S1 (k + 1) v1 → MR ad2 tc S1 v2 → Ev p l e R s m args below meth c 96 4782 Q D A 4 (v1 ++ v2) 1312 (lvL b (ad1 0) (ad2 0) (nI j)) []) : Ev p l e R s m args below meth c 96 4782 Q D A 4 (w1 ++ w2) 632 (lvL b (ad1 0) (ad2 0) (nI j)) [] := by
  refine E_aload_n K.1 dL_law_632 2 rfl ?_
  refine E_scr K hj 1 dL_law_633 dL_law_634 dL_law_635 dL_law_636 dL_law_637 (by decide +kernel) (by decide) ?_
  refine L_callI K.1 dL_law_638 mv_L_75 [.int (xs (j + 1))] (p_onWith hX hk _) hX.head hX.len hM.len nd_64 nd_a (by decide) rfl rfl (by decide) (Nat.le_of_ble_eq_true rfl) K.2.2.2.2.2 (fun r1 v1 h1 => ?_)
  obtain ⟨rfl, hX1⟩ := h1
  refine E_aload_n K.1 dL_law_641 1 rfl ?_
  refine E_scr K hj 1 dL_law_642 dL_law_643 dL_law_644 dL_law_645 dL_law_646 (by decide +kernel) (by decide) ?_
  refine L_callI K.1 dL_law_647 mv_L_78 [.int (xs (j + 1))] (q_onWith hM _) hM.head hM.len hX1.len nd_32 nd_b (by decide) rfl rfl (by decide) (Nat.le_of_ble_eq_true rfl) K.2.2.2.2.2 (fun r2 v2 h2 => ?_)
  obtain ⟨rfl, hM1⟩ := h2
  refine E_icmp_eq K.1 1312 dL_law_650 (by decide) (fun _ => ?_) (fun h => absurd rfl h)
  exact go _ _ _ hX1 hM1
theorem k_judge {p : Program} {l : Launch} {e : Env} {R : Room} {s : State} {m : MethodId} {args : Array Value} {below : List Frame} {meth : Method} {c : Code} {Q : State → Prop} {D : va_G} {tc tt ad1 ad2 : Nat → Nat} {A : Nat → Prop} {b L j k : Nat} {xs : Nat → Int32} {S : STT} {w1 w2 : va_W} (K : LC p R s m args c D tc tt A b L xs) (hX : XR ad1 tc S k w1) (hM : MR ad2 tc S w2) (hk : k ≤ 600) (hj : j + 5 < L) (go : ∀ (S1 : STT) (v1 v2 : va_W), XR ad1 tc S1 (k + 1) v1 → MR ad2 tc S1 v2 → Ev p l e R s m args below meth c 96 4782 Q D A 4 (v1 ++ v2) 1312 (lvL b (ad1 0) (ad2 0) (nI j)) []) : Ev p l e R s m args below meth c 96 4782 Q D A 4 (w1 ++ w2) 655 (lvL b (ad1 0) (ad2 0) (nI j)) [] := by
  refine E_aload_n K.1 dL_law_655 2 rfl ?_
  refine E_scr K hj 1 dL_law_656 dL_law_657 dL_law_658 dL_law_659 dL_law_660 (by decide +kernel) (by decide) ?_
  refine E_scr K hj 2 dL_law_661 dL_law_662 dL_law_663 dL_law_664 dL_law_665 (by decide +kernel) (by decide) ?_
  refine L_callI K.1 dL_law_666 mv_L_79 [.int (xs (j + 1)), .int (xs (j + 2))] (p_judge hX hk _ _) hX.head hX.len hM.len nd_64 nd_a (by decide) rfl rfl (by decide) (Nat.le_of_ble_eq_true rfl) K.2.2.2.2.2 (fun r1 v1 h1 => ?_)
  obtain ⟨rfl, hX1⟩ := h1
  refine E_aload_n K.1 dL_law_669 1 rfl ?_
  refine E_scr K hj 1 dL_law_670 dL_law_671 dL_law_672 dL_law_673 dL_law_674 (by decide +kernel) (by decide) ?_
  refine E_scr K hj 2 dL_law_675 dL_law_676 dL_law_677 dL_law_678 dL_law_679 (by decide +kernel) (by decide) ?_
  refine L_callI K.1 dL_law_680 mv_L_82 [.int (xs (j + 1)), .int (xs (j + 2))] (q_judge hM _ _) hM.head hM.len hX1.len nd_32 nd_b (by decide) rfl rfl (by decide) (Nat.le_of_ble_eq_true rfl) K.2.2.2.2.2 (fun r2 v2 h2 => ?_)
  obtain ⟨rfl, hM1⟩ := h2
  refine E_icmp_eq K.1 1312 dL_law_683 (by decide) (fun _ => ?_) (fun h => absurd rfl h)
  exact go _ _ _ hX1 hM1
theorem k_which {p : Program} {l : Launch} {e : Env} {R : Room} {s : State} {m : MethodId} {args : Array Value} {below : List Frame} {meth : Method} {c : Code} {Q : State → Prop} {D : va_G} {tc tt ad1 ad2 : Nat → Nat} {A : Nat → Prop} {b L j k : Nat} {xs : Nat → Int32} {S : STT} {w1 w2 : va_W} (K : LC p R s m args c D tc tt A b L xs) (hX : XR ad1 tc S k w1) (hM : MR ad2 tc S w2) (hk : k ≤ 600) (hj : j + 5 < L) (go : ∀ (S1 : STT) (v1 v2 : va_W), XR ad1 tc S1 (k + 1) v1 → MR ad2 tc S1 v2 → Ev p l e R s m args below meth c 96 4782 Q D A 4 (v1 ++ v2) 1312 (lvL b (ad1 0) (ad2 0) (nI j)) []) : Ev p l e R s m args below meth c 96 4782 Q D A 4 (w1 ++ w2) 688 (lvL b (ad1 0) (ad2 0) (nI j)) [] := by
  refine E_aload_n K.1 dL_law_688 2 rfl ?_
  refine E_scr K hj 1 dL_law_689 dL_law_690 dL_law_691 dL_law_692 dL_law_693 (by decide +kernel) (by decide) ?_
  refine E_scr K hj 2 dL_law_694 dL_law_695 dL_law_696 dL_law_697 dL_law_698 (by decide +kernel) (by decide) ?_
  refine L_callI K.1 dL_law_699 mv_L_83 [.int (xs (j + 1)), .int (xs (j + 2))] (p_which hX hk _ _) hX.head hX.len hM.len nd_64 nd_a (by decide) rfl rfl (by decide) (Nat.le_of_ble_eq_true rfl) K.2.2.2.2.2 (fun r1 v1 h1 => ?_)
  obtain ⟨rfl, hX1⟩ := h1
  refine E_aload_n K.1 dL_law_702 1 rfl ?_
  refine E_scr K hj 1 dL_law_703 dL_law_704 dL_law_705 dL_law_706 dL_law_707 (by decide +kernel) (by decide) ?_
  refine E_scr K hj 2 dL_law_708 dL_law_709 dL_law_710 dL_law_711 dL_law_712 (by decide +kernel) (by decide) ?_
  refine L_callI K.1 dL_law_713 mv_L_86 [.int (xs (j + 1)), .int (xs (j + 2))] (q_which hM _ _) hM.head hM.len hX1.len nd_32 nd_b (by decide) rfl rfl (by decide) (Nat.le_of_ble_eq_true rfl) K.2.2.2.2.2 (fun r2 v2 h2 => ?_)
  obtain ⟨rfl, hM1⟩ := h2
  refine E_icmp_eq K.1 1312 dL_law_716 (by decide) (fun _ => ?_) (fun h => absurd rfl h)
  exact go _ _ _ hX1 hM1
theorem k_first {p : Program} {l : Launch} {e : Env} {R : Room} {s : State} {m : MethodId} {args : Array Value} {below : List Frame} {meth : Method} {c : Code} {Q : State → Prop} {D : va_G} {tc tt ad1 ad2 : Nat → Nat} {A : Nat → Prop} {b L j k : Nat} {xs : Nat → Int32} {S : STT} {w1 w2 : va_W} (K : LC p R s m args c D tc tt A b L xs) (hX : XR ad1 tc S k w1) (hM : MR ad2 tc S w2) (hk : k ≤ 600) (hj : j + 5 < L) (go : ∀ (S1 : STT) (v1 v2 : va_W), XR ad1 tc S1 (k + 1) v1 → MR ad2 tc S1 v2 → Ev p l e R s m args below meth c 96 4782 Q D A 4 (v1 ++ v2) 1312 (lvL b (ad1 0) (ad2 0) (nI j)) []) : Ev p l e R s m args below meth c 96 4782 Q D A 4 (w1 ++ w2) 721 (lvL b (ad1 0) (ad2 0) (nI j)) [] := by
  refine E_aload_n K.1 dL_law_721 2 rfl ?_
  refine E_scr K hj 1 dL_law_722 dL_law_723 dL_law_724 dL_law_725 dL_law_726 (by decide +kernel) (by decide) ?_
  refine L_callI K.1 dL_law_727 mv_L_87 [.int (xs (j + 1))] (p_first hX hk _) hX.head hX.len hM.len nd_64 nd_a (by decide) rfl rfl (by decide) (Nat.le_of_ble_eq_true rfl) K.2.2.2.2.2 (fun r1 v1 h1 => ?_)
  obtain ⟨rfl, hX1⟩ := h1
  refine E_aload_n K.1 dL_law_730 1 rfl ?_
  refine E_scr K hj 1 dL_law_731 dL_law_732 dL_law_733 dL_law_734 dL_law_735 (by decide +kernel) (by decide) ?_
  refine L_callI K.1 dL_law_736 mv_L_90 [.int (xs (j + 1))] (q_first hM _) hM.head hM.len hX1.len nd_32 nd_b (by decide) rfl rfl (by decide) (Nat.le_of_ble_eq_true rfl) K.2.2.2.2.2 (fun r2 v2 h2 => ?_)
  obtain ⟨rfl, hM1⟩ := h2
  refine E_icmp_eq K.1 1312 dL_law_739 (by decide) (fun _ => ?_) (fun h => absurd rfl h)
  exact go _ _ _ hX1 hM1
theorem k_chain {p : Program} {l : Launch} {e : Env} {R : Room} {s : State} {m : MethodId} {args : Array Value} {below : List Frame} {meth : Method} {c : Code} {Q : State → Prop} {D : va_G} {tc tt ad1 ad2 : Nat → Nat} {A : Nat → Prop} {b L j k : Nat} {xs : Nat → Int32} {S : STT} {w1 w2 : va_W} (K : LC p R s m args c D tc tt A b L xs) (hX : XR ad1 tc S k w1) (hM : MR ad2 tc S w2) (hk : k ≤ 600) (hj : j + 5 < L) (go : ∀ (S1 : STT) (v1 v2 : va_W), XR ad1 tc S1 (k + 1) v1 → MR ad2 tc S1 v2 → Ev p l e R s m args below meth c 96 4782 Q D A 4 (v1 ++ v2) 1312 (lvL b (ad1 0) (ad2 0) (nI j)) []) : Ev p l e R s m args below meth c 96 4782 Q D A 4 (w1 ++ w2) 744 (lvL b (ad1 0) (ad2 0) (nI j)) [] := by
  refine E_aload_n K.1 dL_law_744 2 rfl ?_
  refine E_scr K hj 1 dL_law_745 dL_law_746 dL_law_747 dL_law_748 dL_law_749 (by decide +kernel) (by decide) ?_
  refine L_callI K.1 dL_law_750 mv_L_91 [.int (xs (j + 1))] (p_chain hX hk _) hX.head hX.len hM.len nd_64 nd_a (by decide) rfl rfl (by decide) (Nat.le_of_ble_eq_true rfl) K.2.2.2.2.2 (fun r1 v1 h1 => ?_)
  obtain ⟨rfl, hX1⟩ := h1
  refine E_aload_n K.1 dL_law_753 1 rfl ?_
  refine E_scr K hj 1 dL_law_754 dL_law_755 dL_law_756 dL_law_757 dL_law_758 (by decide +kernel) (by decide) ?_
  refine L_callI K.1 dL_law_759 mv_L_94 [.int (xs (j + 1))] (q_chain hM _) hM.head hM.len hX1.len nd_32 nd_b (by decide) rfl rfl (by decide) (Nat.le_of_ble_eq_true rfl) K.2.2.2.2.2 (fun r2 v2 h2 => ?_)
  obtain ⟨rfl, hM1⟩ := h2
  refine E_icmp_eq K.1 1312 dL_law_762 (by decide) (fun _ => ?_) (fun h => absurd rfl h)
  exact go _ _ _ hX1 hM1
