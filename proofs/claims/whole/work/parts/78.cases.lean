/-! ===== the law's 36 calls ===== -/
section CASES
variable {G : GT} {p : Program} {e : Env} {s : State} {m : MethodId} {below : List Frame} {meth : Method} {c : Code} {bb Ls : Nat} {xs : Nat → Int32} {i : Nat}
theorem lc_ix (F : LCx G p s m meth c bb Ls xs) (hi : i + 4 ≤ Ls) : vp_in (nI i + 1) Ls ∧ vp_in (nI i + 2) Ls ∧ vp_in (nI i + 3) Ls := by
  have hL := F.2.2.2.2
  refine ⟨?_, ?_, ?_⟩
  · rw [nI_1]; exact vp_nI (by omega) (by omega)
  · rw [show nI i + 2 = nI i + nI 2 from rfl, nI_add]; exact vp_nI (by omega) (by omega)
  · rw [show nI i + 3 = nI i + nI 3 from rfl, nI_add]; exact vp_nI (by omega) (by omega)
theorem lc_say (F : LCx G p s m meth c bb Ls xs) (hi : i + 4 ≤ Ls) {M : Mem} (hI : INV M) (kk : ∀ P, INV P → LwT G (Rep G) p e s m below meth c bb 199 3861 1340 [(0, .float 1), (1, .ref 0), (2, .ref 175), (3, .int (nI i))] [] P) : LwT G (Rep G) p e s m below meth c bb 199 3861 192 [(0, .float 1), (1, .ref 0), (2, .ref 175), (3, .int (nI i))] [] M := by
  obtain ⟨h1, h2, h3⟩ := lc_ix F hi
  refine LwT.aload_n F dL_law_192 rfl 1 rfl ?_
  refine LwT.aloads F dL_law_193 rfl 0 rfl ?_
  refine LwT.iload_n F dL_law_194 rfl 3 rfl ?_
  refine LwT.iconst (v := 1) F dL_law_195 (by decide) ?_
  refine LwT.iadd F dL_law_196 ?_
  refine LwT.sald F h1 dL_law_197 ?_
  refine LwT.callV F [.int (xs (Int32.toNatClampNeg (nI i + 1)))] rfl (s_say hI) mb_X10_say mv_X10_say lk_L_13 rfl ⟨Nat.le_of_ble_eq_true rfl, Nat.le_of_ble_eq_true rfl⟩ (Nat.le_of_ble_eq_true rfl) (Nat.le_of_ble_eq_true rfl) rfl (recvRep ho_0 rfl) (Nat.le_of_ble_eq_true rfl) dL_law_198 (fun r N hN => ?_)
  refine LwT.aload_n F dL_law_201 rfl 2 rfl ?_
  refine LwT.aloads F dL_law_202 rfl 0 rfl ?_
  refine LwT.iload_n F dL_law_203 rfl 3 rfl ?_
  refine LwT.iconst (v := 1) F dL_law_204 (by decide) ?_
  refine LwT.iadd F dL_law_205 ?_
  refine LwT.sald F h1 dL_law_206 ?_
  refine LwT.callV F [.int (xs (Int32.toNatClampNeg (nI i + 1)))] rfl hN mb_X11_say mv_X11_say lk_L_17 rfl ⟨Nat.le_of_ble_eq_true rfl, Nat.le_of_ble_eq_true rfl⟩ (Nat.le_of_ble_eq_true rfl) (Nat.le_of_ble_eq_true rfl) rfl (recvRep ho_175 rfl) (Nat.le_of_ble_eq_true rfl) dL_law_207 (fun r' P hP => ?_)
  exact LwT.icmp_eq (tgt := 1340) F dL_law_210 (by decide) hP.1 (kk P hP.2)
theorem lc_wipe (F : LCx G p s m meth c bb Ls xs) (hi : i + 4 ≤ Ls) {M : Mem} (hI : INV M) (kk : ∀ P, INV P → LwT G (Rep G) p e s m below meth c bb 199 3861 1340 [(0, .float 1), (1, .ref 0), (2, .ref 175), (3, .int (nI i))] [] P) : LwT G (Rep G) p e s m below meth c bb 199 3861 215 [(0, .float 1), (1, .ref 0), (2, .ref 175), (3, .int (nI i))] [] M := by
  obtain ⟨h1, h2, h3⟩ := lc_ix F hi
  refine LwT.aload_n F dL_law_215 rfl 1 rfl ?_
  refine LwT.callV F [] rfl (s_wipe hI) mb_X10_wipe mv_X10_wipe lk_L_18 rfl ⟨Nat.le_of_ble_eq_true rfl, Nat.le_of_ble_eq_true rfl⟩ (Nat.le_of_ble_eq_true rfl) (Nat.le_of_ble_eq_true rfl) rfl (recvRep ho_0 rfl) (Nat.le_of_ble_eq_true rfl) dL_law_216 (fun r N hN => ?_)
  refine LwT.aload_n F dL_law_219 rfl 2 rfl ?_
  refine LwT.callV F [] rfl hN mb_X11_wipe mv_X11_wipe lk_L_22 rfl ⟨Nat.le_of_ble_eq_true rfl, Nat.le_of_ble_eq_true rfl⟩ (Nat.le_of_ble_eq_true rfl) (Nat.le_of_ble_eq_true rfl) rfl (recvRep ho_175 rfl) (Nat.le_of_ble_eq_true rfl) dL_law_220 (fun r' P hP => ?_)
  exact LwT.icmp_eq (tgt := 1340) F dL_law_223 (by decide) hP.1 (kk P hP.2)
theorem lc_fault (F : LCx G p s m meth c bb Ls xs) (hi : i + 4 ≤ Ls) {M : Mem} (hI : INV M) (kk : ∀ P, INV P → LwT G (Rep G) p e s m below meth c bb 199 3861 1340 [(0, .float 1), (1, .ref 0), (2, .ref 175), (3, .int (nI i))] [] P) : LwT G (Rep G) p e s m below meth c bb 199 3861 228 [(0, .float 1), (1, .ref 0), (2, .ref 175), (3, .int (nI i))] [] M := by
  obtain ⟨h1, h2, h3⟩ := lc_ix F hi
  refine LwT.aload_n F dL_law_228 rfl 1 rfl ?_
  refine LwT.callV F [] rfl (s_fault hI) mb_X10_fault mv_X10_fault lk_L_23 rfl ⟨Nat.le_of_ble_eq_true rfl, Nat.le_of_ble_eq_true rfl⟩ (Nat.le_of_ble_eq_true rfl) (Nat.le_of_ble_eq_true rfl) rfl (recvRep ho_0 rfl) (Nat.le_of_ble_eq_true rfl) dL_law_229 (fun r N hN => ?_)
  refine LwT.aload_n F dL_law_232 rfl 2 rfl ?_
  refine LwT.callV F [] rfl hN mb_X11_fault mv_X11_fault lk_L_26 rfl ⟨Nat.le_of_ble_eq_true rfl, Nat.le_of_ble_eq_true rfl⟩ (Nat.le_of_ble_eq_true rfl) (Nat.le_of_ble_eq_true rfl) rfl (recvRep ho_175 rfl) (Nat.le_of_ble_eq_true rfl) dL_law_233 (fun r' P hP => ?_)
  exact LwT.icmp_eq (tgt := 1340) F dL_law_236 (by decide) hP.1 (kk P hP.2)
theorem lc_law (F : LCx G p s m meth c bb Ls xs) (hi : i + 4 ≤ Ls) {M : Mem} (hI : INV M) (kk : ∀ P, INV P → LwT G (Rep G) p e s m below meth c bb 199 3861 1340 [(0, .float 1), (1, .ref 0), (2, .ref 175), (3, .int (nI i))] [] P) : LwT G (Rep G) p e s m below meth c bb 199 3861 241 [(0, .float 1), (1, .ref 0), (2, .ref 175), (3, .int (nI i))] [] M := by
  obtain ⟨h1, h2, h3⟩ := lc_ix F hi
  refine LwT.aload_n F dL_law_241 rfl 1 rfl ?_
  refine LwT.aloads F dL_law_242 rfl 0 rfl ?_
  refine LwT.iload_n F dL_law_243 rfl 3 rfl ?_
  refine LwT.iconst (v := 1) F dL_law_244 (by decide) ?_
  refine LwT.iadd F dL_law_245 ?_
  refine LwT.sald F h1 dL_law_246 ?_
  refine LwT.aloads F dL_law_247 rfl 0 rfl ?_
  refine LwT.iload_n F dL_law_248 rfl 3 rfl ?_
  refine LwT.iconst (v := 2) F dL_law_249 (by decide) ?_
  refine LwT.iadd F dL_law_250 ?_
  refine LwT.sald F h2 dL_law_251 ?_
  refine LwT.callV F [.int (xs (Int32.toNatClampNeg (nI i + 1))), .int (xs (Int32.toNatClampNeg (nI i + 2)))] rfl (s_law hI) mb_X10_law mv_X10_law lk_L_27 rfl ⟨Nat.le_of_ble_eq_true rfl, Nat.le_of_ble_eq_true rfl⟩ (Nat.le_of_ble_eq_true rfl) (Nat.le_of_ble_eq_true rfl) rfl (recvRep ho_0 rfl) (Nat.le_of_ble_eq_true rfl) dL_law_252 (fun r N hN => ?_)
  refine LwT.aload_n F dL_law_255 rfl 2 rfl ?_
  refine LwT.aloads F dL_law_256 rfl 0 rfl ?_
  refine LwT.iload_n F dL_law_257 rfl 3 rfl ?_
  refine LwT.iconst (v := 1) F dL_law_258 (by decide) ?_
  refine LwT.iadd F dL_law_259 ?_
  refine LwT.sald F h1 dL_law_260 ?_
  refine LwT.aloads F dL_law_261 rfl 0 rfl ?_
  refine LwT.iload_n F dL_law_262 rfl 3 rfl ?_
  refine LwT.iconst (v := 2) F dL_law_263 (by decide) ?_
  refine LwT.iadd F dL_law_264 ?_
  refine LwT.sald F h2 dL_law_265 ?_
  refine LwT.callV F [.int (xs (Int32.toNatClampNeg (nI i + 1))), .int (xs (Int32.toNatClampNeg (nI i + 2)))] rfl hN mb_X11_law mv_X11_law lk_L_31 rfl ⟨Nat.le_of_ble_eq_true rfl, Nat.le_of_ble_eq_true rfl⟩ (Nat.le_of_ble_eq_true rfl) (Nat.le_of_ble_eq_true rfl) rfl (recvRep ho_175 rfl) (Nat.le_of_ble_eq_true rfl) dL_law_266 (fun r' P hP => ?_)
  exact LwT.icmp_eq (tgt := 1340) F dL_law_269 (by decide) hP.1 (kk P hP.2)
theorem lc_anew (F : LCx G p s m meth c bb Ls xs) (hi : i + 4 ≤ Ls) {M : Mem} (hI : INV M) (kk : ∀ P, INV P → LwT G (Rep G) p e s m below meth c bb 199 3861 1340 [(0, .float 1), (1, .ref 0), (2, .ref 175), (3, .int (nI i))] [] P) : LwT G (Rep G) p e s m below meth c bb 199 3861 274 [(0, .float 1), (1, .ref 0), (2, .ref 175), (3, .int (nI i))] [] M := by
  obtain ⟨h1, h2, h3⟩ := lc_ix F hi
  refine LwT.aload_n F dL_law_274 rfl 1 rfl ?_
  refine LwT.aloads F dL_law_275 rfl 0 rfl ?_
  refine LwT.iload_n F dL_law_276 rfl 3 rfl ?_
  refine LwT.iconst (v := 1) F dL_law_277 (by decide) ?_
  refine LwT.iadd F dL_law_278 ?_
  refine LwT.sald F h1 dL_law_279 ?_
  refine LwT.callV F [.int (xs (Int32.toNatClampNeg (nI i + 1)))] rfl (s_anew hI) mb_X10_anew mv_X10_anew lk_L_32 rfl ⟨Nat.le_of_ble_eq_true rfl, Nat.le_of_ble_eq_true rfl⟩ (Nat.le_of_ble_eq_true rfl) (Nat.le_of_ble_eq_true rfl) rfl (recvRep ho_0 rfl) (Nat.le_of_ble_eq_true rfl) dL_law_280 (fun r N hN => ?_)
  refine LwT.aload_n F dL_law_283 rfl 2 rfl ?_
  refine LwT.aloads F dL_law_284 rfl 0 rfl ?_
  refine LwT.iload_n F dL_law_285 rfl 3 rfl ?_
  refine LwT.iconst (v := 1) F dL_law_286 (by decide) ?_
  refine LwT.iadd F dL_law_287 ?_
  refine LwT.sald F h1 dL_law_288 ?_
  refine LwT.callV F [.int (xs (Int32.toNatClampNeg (nI i + 1)))] rfl hN mb_X11_anew mv_X11_anew lk_L_35 rfl ⟨Nat.le_of_ble_eq_true rfl, Nat.le_of_ble_eq_true rfl⟩ (Nat.le_of_ble_eq_true rfl) (Nat.le_of_ble_eq_true rfl) rfl (recvRep ho_175 rfl) (Nat.le_of_ble_eq_true rfl) dL_law_289 (fun r' P hP => ?_)
  exact LwT.icmp_eq (tgt := 1340) F dL_law_292 (by decide) hP.1 (kk P hP.2)
theorem lc_move (F : LCx G p s m meth c bb Ls xs) (hi : i + 4 ≤ Ls) {M : Mem} (hI : INV M) (kk : ∀ P, INV P → LwT G (Rep G) p e s m below meth c bb 199 3861 1340 [(0, .float 1), (1, .ref 0), (2, .ref 175), (3, .int (nI i))] [] P) : LwT G (Rep G) p e s m below meth c bb 199 3861 297 [(0, .float 1), (1, .ref 0), (2, .ref 175), (3, .int (nI i))] [] M := by
  obtain ⟨h1, h2, h3⟩ := lc_ix F hi
  refine LwT.aload_n F dL_law_297 rfl 1 rfl ?_
  refine LwT.aloads F dL_law_298 rfl 0 rfl ?_
  refine LwT.iload_n F dL_law_299 rfl 3 rfl ?_
  refine LwT.iconst (v := 1) F dL_law_300 (by decide) ?_
  refine LwT.iadd F dL_law_301 ?_
  refine LwT.sald F h1 dL_law_302 ?_
  refine LwT.aloads F dL_law_303 rfl 0 rfl ?_
  refine LwT.iload_n F dL_law_304 rfl 3 rfl ?_
  refine LwT.iconst (v := 2) F dL_law_305 (by decide) ?_
  refine LwT.iadd F dL_law_306 ?_
  refine LwT.sald F h2 dL_law_307 ?_
  refine LwT.aloads F dL_law_308 rfl 0 rfl ?_
  refine LwT.iload_n F dL_law_309 rfl 3 rfl ?_
  refine LwT.iconst (v := 3) F dL_law_310 (by decide) ?_
  refine LwT.iadd F dL_law_311 ?_
  refine LwT.sald F h3 dL_law_312 ?_
  refine LwT.callV F [.int (xs (Int32.toNatClampNeg (nI i + 1))), .int (xs (Int32.toNatClampNeg (nI i + 2))), .int (xs (Int32.toNatClampNeg (nI i + 3)))] rfl (s_move hI) mb_X10_move mv_X10_move lk_L_36 rfl ⟨Nat.le_of_ble_eq_true rfl, Nat.le_of_ble_eq_true rfl⟩ (Nat.le_of_ble_eq_true rfl) (Nat.le_of_ble_eq_true rfl) rfl (recvRep ho_0 rfl) (Nat.le_of_ble_eq_true rfl) dL_law_313 (fun r N hN => ?_)
  refine LwT.aload_n F dL_law_316 rfl 2 rfl ?_
  refine LwT.aloads F dL_law_317 rfl 0 rfl ?_
  refine LwT.iload_n F dL_law_318 rfl 3 rfl ?_
  refine LwT.iconst (v := 1) F dL_law_319 (by decide) ?_
  refine LwT.iadd F dL_law_320 ?_
  refine LwT.sald F h1 dL_law_321 ?_
  refine LwT.aloads F dL_law_322 rfl 0 rfl ?_
  refine LwT.iload_n F dL_law_323 rfl 3 rfl ?_
  refine LwT.iconst (v := 2) F dL_law_324 (by decide) ?_
  refine LwT.iadd F dL_law_325 ?_
  refine LwT.sald F h2 dL_law_326 ?_
  refine LwT.aloads F dL_law_327 rfl 0 rfl ?_
  refine LwT.iload_n F dL_law_328 rfl 3 rfl ?_
  refine LwT.iconst (v := 3) F dL_law_329 (by decide) ?_
  refine LwT.iadd F dL_law_330 ?_
  refine LwT.sald F h3 dL_law_331 ?_
  refine LwT.callV F [.int (xs (Int32.toNatClampNeg (nI i + 1))), .int (xs (Int32.toNatClampNeg (nI i + 2))), .int (xs (Int32.toNatClampNeg (nI i + 3)))] rfl hN mb_X11_move mv_X11_move lk_L_40 rfl ⟨Nat.le_of_ble_eq_true rfl, Nat.le_of_ble_eq_true rfl⟩ (Nat.le_of_ble_eq_true rfl) (Nat.le_of_ble_eq_true rfl) rfl (recvRep ho_175 rfl) (Nat.le_of_ble_eq_true rfl) dL_law_332 (fun r' P hP => ?_)
  exact LwT.icmp_eq (tgt := 1340) F dL_law_335 (by decide) hP.1 (kk P hP.2)
theorem lc_of (F : LCx G p s m meth c bb Ls xs) (hi : i + 4 ≤ Ls) {M : Mem} (hI : INV M) (kk : ∀ P, INV P → LwT G (Rep G) p e s m below meth c bb 199 3861 1340 [(0, .float 1), (1, .ref 0), (2, .ref 175), (3, .int (nI i))] [] P) : LwT G (Rep G) p e s m below meth c bb 199 3861 340 [(0, .float 1), (1, .ref 0), (2, .ref 175), (3, .int (nI i))] [] M := by
  obtain ⟨h1, h2, h3⟩ := lc_ix F hi
  refine LwT.aload_n F dL_law_340 rfl 1 rfl ?_
  refine LwT.aloads F dL_law_341 rfl 0 rfl ?_
  refine LwT.iload_n F dL_law_342 rfl 3 rfl ?_
  refine LwT.iconst (v := 1) F dL_law_343 (by decide) ?_
  refine LwT.iadd F dL_law_344 ?_
  refine LwT.sald F h1 dL_law_345 ?_
  refine LwT.aloads F dL_law_346 rfl 0 rfl ?_
  refine LwT.iload_n F dL_law_347 rfl 3 rfl ?_
  refine LwT.iconst (v := 2) F dL_law_348 (by decide) ?_
  refine LwT.iadd F dL_law_349 ?_
  refine LwT.sald F h2 dL_law_350 ?_
  refine LwT.callV F [.int (xs (Int32.toNatClampNeg (nI i + 1))), .int (xs (Int32.toNatClampNeg (nI i + 2)))] rfl (s_of hI) mb_X10_of mv_X10_of lk_L_41 rfl ⟨Nat.le_of_ble_eq_true rfl, Nat.le_of_ble_eq_true rfl⟩ (Nat.le_of_ble_eq_true rfl) (Nat.le_of_ble_eq_true rfl) rfl (recvRep ho_0 rfl) (Nat.le_of_ble_eq_true rfl) dL_law_351 (fun r N hN => ?_)
  refine LwT.aload_n F dL_law_354 rfl 2 rfl ?_
  refine LwT.aloads F dL_law_355 rfl 0 rfl ?_
  refine LwT.iload_n F dL_law_356 rfl 3 rfl ?_
  refine LwT.iconst (v := 1) F dL_law_357 (by decide) ?_
  refine LwT.iadd F dL_law_358 ?_
  refine LwT.sald F h1 dL_law_359 ?_
  refine LwT.aloads F dL_law_360 rfl 0 rfl ?_
  refine LwT.iload_n F dL_law_361 rfl 3 rfl ?_
  refine LwT.iconst (v := 2) F dL_law_362 (by decide) ?_
  refine LwT.iadd F dL_law_363 ?_
  refine LwT.sald F h2 dL_law_364 ?_
  refine LwT.callV F [.int (xs (Int32.toNatClampNeg (nI i + 1))), .int (xs (Int32.toNatClampNeg (nI i + 2)))] rfl hN mb_X11_of mv_X11_of lk_L_44 rfl ⟨Nat.le_of_ble_eq_true rfl, Nat.le_of_ble_eq_true rfl⟩ (Nat.le_of_ble_eq_true rfl) (Nat.le_of_ble_eq_true rfl) rfl (recvRep ho_175 rfl) (Nat.le_of_ble_eq_true rfl) dL_law_365 (fun r' P hP => ?_)
  exact LwT.icmp_eq (tgt := 1340) F dL_law_368 (by decide) hP.1 (kk P hP.2)
theorem lc_part (F : LCx G p s m meth c bb Ls xs) (hi : i + 4 ≤ Ls) {M : Mem} (hI : INV M) (kk : ∀ P, INV P → LwT G (Rep G) p e s m below meth c bb 199 3861 1340 [(0, .float 1), (1, .ref 0), (2, .ref 175), (3, .int (nI i))] [] P) : LwT G (Rep G) p e s m below meth c bb 199 3861 373 [(0, .float 1), (1, .ref 0), (2, .ref 175), (3, .int (nI i))] [] M := by
  obtain ⟨h1, h2, h3⟩ := lc_ix F hi
  refine LwT.aload_n F dL_law_373 rfl 1 rfl ?_
  refine LwT.aloads F dL_law_374 rfl 0 rfl ?_
  refine LwT.iload_n F dL_law_375 rfl 3 rfl ?_
  refine LwT.iconst (v := 1) F dL_law_376 (by decide) ?_
  refine LwT.iadd F dL_law_377 ?_
  refine LwT.sald F h1 dL_law_378 ?_
  refine LwT.aloads F dL_law_379 rfl 0 rfl ?_
  refine LwT.iload_n F dL_law_380 rfl 3 rfl ?_
  refine LwT.iconst (v := 2) F dL_law_381 (by decide) ?_
  refine LwT.iadd F dL_law_382 ?_
  refine LwT.sald F h2 dL_law_383 ?_
  refine LwT.aloads F dL_law_384 rfl 0 rfl ?_
  refine LwT.iload_n F dL_law_385 rfl 3 rfl ?_
  refine LwT.iconst (v := 3) F dL_law_386 (by decide) ?_
  refine LwT.iadd F dL_law_387 ?_
  refine LwT.sald F h3 dL_law_388 ?_
  refine LwT.callV F [.int (xs (Int32.toNatClampNeg (nI i + 1))), .int (xs (Int32.toNatClampNeg (nI i + 2))), .int (xs (Int32.toNatClampNeg (nI i + 3)))] rfl (s_part hI) mb_X10_part mv_X10_part lk_L_45 rfl ⟨Nat.le_of_ble_eq_true rfl, Nat.le_of_ble_eq_true rfl⟩ (Nat.le_of_ble_eq_true rfl) (Nat.le_of_ble_eq_true rfl) rfl (recvRep ho_0 rfl) (Nat.le_of_ble_eq_true rfl) dL_law_389 (fun r N hN => ?_)
  refine LwT.aload_n F dL_law_392 rfl 2 rfl ?_
  refine LwT.aloads F dL_law_393 rfl 0 rfl ?_
  refine LwT.iload_n F dL_law_394 rfl 3 rfl ?_
  refine LwT.iconst (v := 1) F dL_law_395 (by decide) ?_
  refine LwT.iadd F dL_law_396 ?_
  refine LwT.sald F h1 dL_law_397 ?_
  refine LwT.aloads F dL_law_398 rfl 0 rfl ?_
  refine LwT.iload_n F dL_law_399 rfl 3 rfl ?_
  refine LwT.iconst (v := 2) F dL_law_400 (by decide) ?_
  refine LwT.iadd F dL_law_401 ?_
  refine LwT.sald F h2 dL_law_402 ?_
  refine LwT.aloads F dL_law_403 rfl 0 rfl ?_
  refine LwT.iload_n F dL_law_404 rfl 3 rfl ?_
  refine LwT.iconst (v := 3) F dL_law_405 (by decide) ?_
  refine LwT.iadd F dL_law_406 ?_
  refine LwT.sald F h3 dL_law_407 ?_
  refine LwT.callV F [.int (xs (Int32.toNatClampNeg (nI i + 1))), .int (xs (Int32.toNatClampNeg (nI i + 2))), .int (xs (Int32.toNatClampNeg (nI i + 3)))] rfl hN mb_X11_part mv_X11_part lk_L_48 rfl ⟨Nat.le_of_ble_eq_true rfl, Nat.le_of_ble_eq_true rfl⟩ (Nat.le_of_ble_eq_true rfl) (Nat.le_of_ble_eq_true rfl) rfl (recvRep ho_175 rfl) (Nat.le_of_ble_eq_true rfl) dL_law_408 (fun r' P hP => ?_)
  exact LwT.icmp_eq (tgt := 1340) F dL_law_411 (by decide) hP.1 (kk P hP.2)
theorem lc_force (F : LCx G p s m meth c bb Ls xs) (hi : i + 4 ≤ Ls) {M : Mem} (hI : INV M) (kk : ∀ P, INV P → LwT G (Rep G) p e s m below meth c bb 199 3861 1340 [(0, .float 1), (1, .ref 0), (2, .ref 175), (3, .int (nI i))] [] P) : LwT G (Rep G) p e s m below meth c bb 199 3861 416 [(0, .float 1), (1, .ref 0), (2, .ref 175), (3, .int (nI i))] [] M := by
  obtain ⟨h1, h2, h3⟩ := lc_ix F hi
  refine LwT.aload_n F dL_law_416 rfl 1 rfl ?_
  refine LwT.aloads F dL_law_417 rfl 0 rfl ?_
  refine LwT.iload_n F dL_law_418 rfl 3 rfl ?_
  refine LwT.iconst (v := 1) F dL_law_419 (by decide) ?_
  refine LwT.iadd F dL_law_420 ?_
  refine LwT.sald F h1 dL_law_421 ?_
  refine LwT.aloads F dL_law_422 rfl 0 rfl ?_
  refine LwT.iload_n F dL_law_423 rfl 3 rfl ?_
  refine LwT.iconst (v := 2) F dL_law_424 (by decide) ?_
  refine LwT.iadd F dL_law_425 ?_
  refine LwT.sald F h2 dL_law_426 ?_
  refine LwT.callV F [.int (xs (Int32.toNatClampNeg (nI i + 1))), .int (xs (Int32.toNatClampNeg (nI i + 2)))] rfl (s_force hI) mb_X10_force mv_X10_force lk_L_49 rfl ⟨Nat.le_of_ble_eq_true rfl, Nat.le_of_ble_eq_true rfl⟩ (Nat.le_of_ble_eq_true rfl) (Nat.le_of_ble_eq_true rfl) rfl (recvRep ho_0 rfl) (Nat.le_of_ble_eq_true rfl) dL_law_427 (fun r N hN => ?_)
  refine LwT.aload_n F dL_law_430 rfl 2 rfl ?_
  refine LwT.aloads F dL_law_431 rfl 0 rfl ?_
  refine LwT.iload_n F dL_law_432 rfl 3 rfl ?_
  refine LwT.iconst (v := 1) F dL_law_433 (by decide) ?_
  refine LwT.iadd F dL_law_434 ?_
  refine LwT.sald F h1 dL_law_435 ?_
  refine LwT.aloads F dL_law_436 rfl 0 rfl ?_
  refine LwT.iload_n F dL_law_437 rfl 3 rfl ?_
  refine LwT.iconst (v := 2) F dL_law_438 (by decide) ?_
  refine LwT.iadd F dL_law_439 ?_
  refine LwT.sald F h2 dL_law_440 ?_
  refine LwT.callV F [.int (xs (Int32.toNatClampNeg (nI i + 1))), .int (xs (Int32.toNatClampNeg (nI i + 2)))] rfl hN mb_X11_force mv_X11_force lk_L_52 rfl ⟨Nat.le_of_ble_eq_true rfl, Nat.le_of_ble_eq_true rfl⟩ (Nat.le_of_ble_eq_true rfl) (Nat.le_of_ble_eq_true rfl) rfl (recvRep ho_175 rfl) (Nat.le_of_ble_eq_true rfl) dL_law_441 (fun r' P hP => ?_)
  exact LwT.icmp_eq (tgt := 1340) F dL_law_444 (by decide) hP.1 (kk P hP.2)
theorem lc_open (F : LCx G p s m meth c bb Ls xs) (hi : i + 4 ≤ Ls) {M : Mem} (hI : INV M) (kk : ∀ P, INV P → LwT G (Rep G) p e s m below meth c bb 199 3861 1340 [(0, .float 1), (1, .ref 0), (2, .ref 175), (3, .int (nI i))] [] P) : LwT G (Rep G) p e s m below meth c bb 199 3861 449 [(0, .float 1), (1, .ref 0), (2, .ref 175), (3, .int (nI i))] [] M := by
  obtain ⟨h1, h2, h3⟩ := lc_ix F hi
  refine LwT.aload_n F dL_law_449 rfl 1 rfl ?_
  refine LwT.aloads F dL_law_450 rfl 0 rfl ?_
  refine LwT.iload_n F dL_law_451 rfl 3 rfl ?_
  refine LwT.iconst (v := 1) F dL_law_452 (by decide) ?_
  refine LwT.iadd F dL_law_453 ?_
  refine LwT.sald F h1 dL_law_454 ?_
  refine LwT.callV F [.int (xs (Int32.toNatClampNeg (nI i + 1)))] rfl (s_open hI) mb_X10_open mv_X10_open lk_L_53 rfl ⟨Nat.le_of_ble_eq_true rfl, Nat.le_of_ble_eq_true rfl⟩ (Nat.le_of_ble_eq_true rfl) (Nat.le_of_ble_eq_true rfl) rfl (recvRep ho_0 rfl) (Nat.le_of_ble_eq_true rfl) dL_law_455 (fun r N hN => ?_)
  refine LwT.aload_n F dL_law_458 rfl 2 rfl ?_
  refine LwT.aloads F dL_law_459 rfl 0 rfl ?_
  refine LwT.iload_n F dL_law_460 rfl 3 rfl ?_
  refine LwT.iconst (v := 1) F dL_law_461 (by decide) ?_
  refine LwT.iadd F dL_law_462 ?_
  refine LwT.sald F h1 dL_law_463 ?_
  refine LwT.callV F [.int (xs (Int32.toNatClampNeg (nI i + 1)))] rfl hN mb_X11_open mv_X11_open lk_L_56 rfl ⟨Nat.le_of_ble_eq_true rfl, Nat.le_of_ble_eq_true rfl⟩ (Nat.le_of_ble_eq_true rfl) (Nat.le_of_ble_eq_true rfl) rfl (recvRep ho_175 rfl) (Nat.le_of_ble_eq_true rfl) dL_law_464 (fun r' P hP => ?_)
  exact LwT.icmp_eq (tgt := 1340) F dL_law_467 (by decide) hP.1 (kk P hP.2)
theorem lc_piece (F : LCx G p s m meth c bb Ls xs) (hi : i + 4 ≤ Ls) {M : Mem} (hI : INV M) (kk : ∀ P, INV P → LwT G (Rep G) p e s m below meth c bb 199 3861 1340 [(0, .float 1), (1, .ref 0), (2, .ref 175), (3, .int (nI i))] [] P) : LwT G (Rep G) p e s m below meth c bb 199 3861 472 [(0, .float 1), (1, .ref 0), (2, .ref 175), (3, .int (nI i))] [] M := by
  obtain ⟨h1, h2, h3⟩ := lc_ix F hi
  refine LwT.aload_n F dL_law_472 rfl 1 rfl ?_
  refine LwT.aloads F dL_law_473 rfl 0 rfl ?_
  refine LwT.iload_n F dL_law_474 rfl 3 rfl ?_
  refine LwT.iconst (v := 1) F dL_law_475 (by decide) ?_
  refine LwT.iadd F dL_law_476 ?_
  refine LwT.sald F h1 dL_law_477 ?_
  refine LwT.aloads F dL_law_478 rfl 0 rfl ?_
  refine LwT.iload_n F dL_law_479 rfl 3 rfl ?_
  refine LwT.iconst (v := 2) F dL_law_480 (by decide) ?_
  refine LwT.iadd F dL_law_481 ?_
  refine LwT.sald F h2 dL_law_482 ?_
  refine LwT.callV F [.int (xs (Int32.toNatClampNeg (nI i + 1))), .int (xs (Int32.toNatClampNeg (nI i + 2)))] rfl (s_piece hI) mb_X10_piece mv_X10_piece lk_L_57 rfl ⟨Nat.le_of_ble_eq_true rfl, Nat.le_of_ble_eq_true rfl⟩ (Nat.le_of_ble_eq_true rfl) (Nat.le_of_ble_eq_true rfl) rfl (recvRep ho_0 rfl) (Nat.le_of_ble_eq_true rfl) dL_law_483 (fun r N hN => ?_)
  refine LwT.aload_n F dL_law_486 rfl 2 rfl ?_
  refine LwT.aloads F dL_law_487 rfl 0 rfl ?_
  refine LwT.iload_n F dL_law_488 rfl 3 rfl ?_
  refine LwT.iconst (v := 1) F dL_law_489 (by decide) ?_
  refine LwT.iadd F dL_law_490 ?_
  refine LwT.sald F h1 dL_law_491 ?_
  refine LwT.aloads F dL_law_492 rfl 0 rfl ?_
  refine LwT.iload_n F dL_law_493 rfl 3 rfl ?_
  refine LwT.iconst (v := 2) F dL_law_494 (by decide) ?_
  refine LwT.iadd F dL_law_495 ?_
  refine LwT.sald F h2 dL_law_496 ?_
  refine LwT.callV F [.int (xs (Int32.toNatClampNeg (nI i + 1))), .int (xs (Int32.toNatClampNeg (nI i + 2)))] rfl hN mb_X11_piece mv_X11_piece lk_L_60 rfl ⟨Nat.le_of_ble_eq_true rfl, Nat.le_of_ble_eq_true rfl⟩ (Nat.le_of_ble_eq_true rfl) (Nat.le_of_ble_eq_true rfl) rfl (recvRep ho_175 rfl) (Nat.le_of_ble_eq_true rfl) dL_law_497 (fun r' P hP => ?_)
  exact LwT.icmp_eq (tgt := 1340) F dL_law_500 (by decide) hP.1 (kk P hP.2)
theorem lc_about (F : LCx G p s m meth c bb Ls xs) (hi : i + 4 ≤ Ls) {M : Mem} (hI : INV M) (kk : ∀ P, INV P → LwT G (Rep G) p e s m below meth c bb 199 3861 1340 [(0, .float 1), (1, .ref 0), (2, .ref 175), (3, .int (nI i))] [] P) : LwT G (Rep G) p e s m below meth c bb 199 3861 505 [(0, .float 1), (1, .ref 0), (2, .ref 175), (3, .int (nI i))] [] M := by
  obtain ⟨h1, h2, h3⟩ := lc_ix F hi
  refine LwT.aload_n F dL_law_505 rfl 1 rfl ?_
  refine LwT.aloads F dL_law_506 rfl 0 rfl ?_
  refine LwT.iload_n F dL_law_507 rfl 3 rfl ?_
  refine LwT.iconst (v := 1) F dL_law_508 (by decide) ?_
  refine LwT.iadd F dL_law_509 ?_
  refine LwT.sald F h1 dL_law_510 ?_
  refine LwT.aloads F dL_law_511 rfl 0 rfl ?_
  refine LwT.iload_n F dL_law_512 rfl 3 rfl ?_
  refine LwT.iconst (v := 2) F dL_law_513 (by decide) ?_
  refine LwT.iadd F dL_law_514 ?_
  refine LwT.sald F h2 dL_law_515 ?_
  refine LwT.callV F [.int (xs (Int32.toNatClampNeg (nI i + 1))), .int (xs (Int32.toNatClampNeg (nI i + 2)))] rfl (s_about hI) mb_X10_about mv_X10_about lk_L_61 rfl ⟨Nat.le_of_ble_eq_true rfl, Nat.le_of_ble_eq_true rfl⟩ (Nat.le_of_ble_eq_true rfl) (Nat.le_of_ble_eq_true rfl) rfl (recvRep ho_0 rfl) (Nat.le_of_ble_eq_true rfl) dL_law_516 (fun r N hN => ?_)
  refine LwT.aload_n F dL_law_519 rfl 2 rfl ?_
  refine LwT.aloads F dL_law_520 rfl 0 rfl ?_
  refine LwT.iload_n F dL_law_521 rfl 3 rfl ?_
  refine LwT.iconst (v := 1) F dL_law_522 (by decide) ?_
  refine LwT.iadd F dL_law_523 ?_
  refine LwT.sald F h1 dL_law_524 ?_
  refine LwT.aloads F dL_law_525 rfl 0 rfl ?_
  refine LwT.iload_n F dL_law_526 rfl 3 rfl ?_
  refine LwT.iconst (v := 2) F dL_law_527 (by decide) ?_
  refine LwT.iadd F dL_law_528 ?_
  refine LwT.sald F h2 dL_law_529 ?_
  refine LwT.callV F [.int (xs (Int32.toNatClampNeg (nI i + 1))), .int (xs (Int32.toNatClampNeg (nI i + 2)))] rfl hN mb_X11_about mv_X11_about lk_L_64 rfl ⟨Nat.le_of_ble_eq_true rfl, Nat.le_of_ble_eq_true rfl⟩ (Nat.le_of_ble_eq_true rfl) (Nat.le_of_ble_eq_true rfl) rfl (recvRep ho_175 rfl) (Nat.le_of_ble_eq_true rfl) dL_law_530 (fun r' P hP => ?_)
  exact LwT.icmp_eq (tgt := 1340) F dL_law_533 (by decide) hP.1 (kk P hP.2)
theorem lc_change (F : LCx G p s m meth c bb Ls xs) (hi : i + 4 ≤ Ls) {M : Mem} (hI : INV M) (kk : ∀ P, INV P → LwT G (Rep G) p e s m below meth c bb 199 3861 1340 [(0, .float 1), (1, .ref 0), (2, .ref 175), (3, .int (nI i))] [] P) : LwT G (Rep G) p e s m below meth c bb 199 3861 538 [(0, .float 1), (1, .ref 0), (2, .ref 175), (3, .int (nI i))] [] M := by
  obtain ⟨h1, h2, h3⟩ := lc_ix F hi
  refine LwT.aload_n F dL_law_538 rfl 1 rfl ?_
  refine LwT.aloads F dL_law_539 rfl 0 rfl ?_
  refine LwT.iload_n F dL_law_540 rfl 3 rfl ?_
  refine LwT.iconst (v := 1) F dL_law_541 (by decide) ?_
  refine LwT.iadd F dL_law_542 ?_
  refine LwT.sald F h1 dL_law_543 ?_
  refine LwT.aloads F dL_law_544 rfl 0 rfl ?_
  refine LwT.iload_n F dL_law_545 rfl 3 rfl ?_
  refine LwT.iconst (v := 2) F dL_law_546 (by decide) ?_
  refine LwT.iadd F dL_law_547 ?_
  refine LwT.sald F h2 dL_law_548 ?_
  refine LwT.aloads F dL_law_549 rfl 0 rfl ?_
  refine LwT.iload_n F dL_law_550 rfl 3 rfl ?_
  refine LwT.iconst (v := 3) F dL_law_551 (by decide) ?_
  refine LwT.iadd F dL_law_552 ?_
  refine LwT.sald F h3 dL_law_553 ?_
  refine LwT.callV F [.int (xs (Int32.toNatClampNeg (nI i + 1))), .int (xs (Int32.toNatClampNeg (nI i + 2))), .int (xs (Int32.toNatClampNeg (nI i + 3)))] rfl (s_change hI) mb_X10_change mv_X10_change lk_L_65 rfl ⟨Nat.le_of_ble_eq_true rfl, Nat.le_of_ble_eq_true rfl⟩ (Nat.le_of_ble_eq_true rfl) (Nat.le_of_ble_eq_true rfl) rfl (recvRep ho_0 rfl) (Nat.le_of_ble_eq_true rfl) dL_law_554 (fun r N hN => ?_)
  refine LwT.aload_n F dL_law_557 rfl 2 rfl ?_
  refine LwT.aloads F dL_law_558 rfl 0 rfl ?_
  refine LwT.iload_n F dL_law_559 rfl 3 rfl ?_
  refine LwT.iconst (v := 1) F dL_law_560 (by decide) ?_
  refine LwT.iadd F dL_law_561 ?_
  refine LwT.sald F h1 dL_law_562 ?_
  refine LwT.aloads F dL_law_563 rfl 0 rfl ?_
  refine LwT.iload_n F dL_law_564 rfl 3 rfl ?_
  refine LwT.iconst (v := 2) F dL_law_565 (by decide) ?_
  refine LwT.iadd F dL_law_566 ?_
  refine LwT.sald F h2 dL_law_567 ?_
  refine LwT.aloads F dL_law_568 rfl 0 rfl ?_
  refine LwT.iload_n F dL_law_569 rfl 3 rfl ?_
  refine LwT.iconst (v := 3) F dL_law_570 (by decide) ?_
  refine LwT.iadd F dL_law_571 ?_
  refine LwT.sald F h3 dL_law_572 ?_
  refine LwT.callV F [.int (xs (Int32.toNatClampNeg (nI i + 1))), .int (xs (Int32.toNatClampNeg (nI i + 2))), .int (xs (Int32.toNatClampNeg (nI i + 3)))] rfl hN mb_X11_change mv_X11_change lk_L_68 rfl ⟨Nat.le_of_ble_eq_true rfl, Nat.le_of_ble_eq_true rfl⟩ (Nat.le_of_ble_eq_true rfl) (Nat.le_of_ble_eq_true rfl) rfl (recvRep ho_175 rfl) (Nat.le_of_ble_eq_true rfl) dL_law_573 (fun r' P hP => ?_)
  exact LwT.icmp_eq (tgt := 1340) F dL_law_576 (by decide) hP.1 (kk P hP.2)
theorem lc_set (F : LCx G p s m meth c bb Ls xs) (hi : i + 4 ≤ Ls) {M : Mem} (hI : INV M) (kk : ∀ P, INV P → LwT G (Rep G) p e s m below meth c bb 199 3861 1340 [(0, .float 1), (1, .ref 0), (2, .ref 175), (3, .int (nI i))] [] P) : LwT G (Rep G) p e s m below meth c bb 199 3861 581 [(0, .float 1), (1, .ref 0), (2, .ref 175), (3, .int (nI i))] [] M := by
  obtain ⟨h1, h2, h3⟩ := lc_ix F hi
  refine LwT.aload_n F dL_law_581 rfl 1 rfl ?_
  refine LwT.aloads F dL_law_582 rfl 0 rfl ?_
  refine LwT.iload_n F dL_law_583 rfl 3 rfl ?_
  refine LwT.iconst (v := 1) F dL_law_584 (by decide) ?_
  refine LwT.iadd F dL_law_585 ?_
  refine LwT.sald F h1 dL_law_586 ?_
  refine LwT.aloads F dL_law_587 rfl 0 rfl ?_
  refine LwT.iload_n F dL_law_588 rfl 3 rfl ?_
  refine LwT.iconst (v := 2) F dL_law_589 (by decide) ?_
  refine LwT.iadd F dL_law_590 ?_
  refine LwT.sald F h2 dL_law_591 ?_
  refine LwT.callV F [.int (xs (Int32.toNatClampNeg (nI i + 1))), .int (xs (Int32.toNatClampNeg (nI i + 2)))] rfl (s_set hI) mb_X10_set mv_X10_set lk_L_69 rfl ⟨Nat.le_of_ble_eq_true rfl, Nat.le_of_ble_eq_true rfl⟩ (Nat.le_of_ble_eq_true rfl) (Nat.le_of_ble_eq_true rfl) rfl (recvRep ho_0 rfl) (Nat.le_of_ble_eq_true rfl) dL_law_592 (fun r N hN => ?_)
  refine LwT.aload_n F dL_law_595 rfl 2 rfl ?_
  refine LwT.aloads F dL_law_596 rfl 0 rfl ?_
  refine LwT.iload_n F dL_law_597 rfl 3 rfl ?_
  refine LwT.iconst (v := 1) F dL_law_598 (by decide) ?_
  refine LwT.iadd F dL_law_599 ?_
  refine LwT.sald F h1 dL_law_600 ?_
  refine LwT.aloads F dL_law_601 rfl 0 rfl ?_
  refine LwT.iload_n F dL_law_602 rfl 3 rfl ?_
  refine LwT.iconst (v := 2) F dL_law_603 (by decide) ?_
  refine LwT.iadd F dL_law_604 ?_
  refine LwT.sald F h2 dL_law_605 ?_
  refine LwT.callV F [.int (xs (Int32.toNatClampNeg (nI i + 1))), .int (xs (Int32.toNatClampNeg (nI i + 2)))] rfl hN mb_X11_set mv_X11_set lk_L_72 rfl ⟨Nat.le_of_ble_eq_true rfl, Nat.le_of_ble_eq_true rfl⟩ (Nat.le_of_ble_eq_true rfl) (Nat.le_of_ble_eq_true rfl) rfl (recvRep ho_175 rfl) (Nat.le_of_ble_eq_true rfl) dL_law_606 (fun r' P hP => ?_)
  exact LwT.icmp_eq (tgt := 1340) F dL_law_609 (by decide) hP.1 (kk P hP.2)
theorem lc_meets (F : LCx G p s m meth c bb Ls xs) (hi : i + 4 ≤ Ls) {M : Mem} (hI : INV M) (kk : ∀ P, INV P → LwT G (Rep G) p e s m below meth c bb 199 3861 1340 [(0, .float 1), (1, .ref 0), (2, .ref 175), (3, .int (nI i))] [] P) : LwT G (Rep G) p e s m below meth c bb 199 3861 614 [(0, .float 1), (1, .ref 0), (2, .ref 175), (3, .int (nI i))] [] M := by
  obtain ⟨h1, h2, h3⟩ := lc_ix F hi
  refine LwT.aload_n F dL_law_614 rfl 1 rfl ?_
  refine LwT.aloads F dL_law_615 rfl 0 rfl ?_
  refine LwT.iload_n F dL_law_616 rfl 3 rfl ?_
  refine LwT.iconst (v := 1) F dL_law_617 (by decide) ?_
  refine LwT.iadd F dL_law_618 ?_
  refine LwT.sald F h1 dL_law_619 ?_
  refine LwT.aloads F dL_law_620 rfl 0 rfl ?_
  refine LwT.iload_n F dL_law_621 rfl 3 rfl ?_
  refine LwT.iconst (v := 2) F dL_law_622 (by decide) ?_
  refine LwT.iadd F dL_law_623 ?_
  refine LwT.sald F h2 dL_law_624 ?_
  refine LwT.aloads F dL_law_625 rfl 0 rfl ?_
  refine LwT.iload_n F dL_law_626 rfl 3 rfl ?_
  refine LwT.iconst (v := 3) F dL_law_627 (by decide) ?_
  refine LwT.iadd F dL_law_628 ?_
  refine LwT.sald F h3 dL_law_629 ?_
  refine LwT.callV F [.int (xs (Int32.toNatClampNeg (nI i + 1))), .int (xs (Int32.toNatClampNeg (nI i + 2))), .int (xs (Int32.toNatClampNeg (nI i + 3)))] rfl (s_meets hI) mb_X10_meets mv_X10_meets lk_L_73 rfl ⟨Nat.le_of_ble_eq_true rfl, Nat.le_of_ble_eq_true rfl⟩ (Nat.le_of_ble_eq_true rfl) (Nat.le_of_ble_eq_true rfl) rfl (recvRep ho_0 rfl) (Nat.le_of_ble_eq_true rfl) dL_law_630 (fun r N hN => ?_)
  refine LwT.aload_n F dL_law_633 rfl 2 rfl ?_
  refine LwT.aloads F dL_law_634 rfl 0 rfl ?_
  refine LwT.iload_n F dL_law_635 rfl 3 rfl ?_
  refine LwT.iconst (v := 1) F dL_law_636 (by decide) ?_
  refine LwT.iadd F dL_law_637 ?_
  refine LwT.sald F h1 dL_law_638 ?_
  refine LwT.aloads F dL_law_639 rfl 0 rfl ?_
  refine LwT.iload_n F dL_law_640 rfl 3 rfl ?_
  refine LwT.iconst (v := 2) F dL_law_641 (by decide) ?_
  refine LwT.iadd F dL_law_642 ?_
  refine LwT.sald F h2 dL_law_643 ?_
  refine LwT.aloads F dL_law_644 rfl 0 rfl ?_
  refine LwT.iload_n F dL_law_645 rfl 3 rfl ?_
  refine LwT.iconst (v := 3) F dL_law_646 (by decide) ?_
  refine LwT.iadd F dL_law_647 ?_
  refine LwT.sald F h3 dL_law_648 ?_
  refine LwT.callV F [.int (xs (Int32.toNatClampNeg (nI i + 1))), .int (xs (Int32.toNatClampNeg (nI i + 2))), .int (xs (Int32.toNatClampNeg (nI i + 3)))] rfl hN mb_X11_meets mv_X11_meets lk_L_76 rfl ⟨Nat.le_of_ble_eq_true rfl, Nat.le_of_ble_eq_true rfl⟩ (Nat.le_of_ble_eq_true rfl) (Nat.le_of_ble_eq_true rfl) rfl (recvRep ho_175 rfl) (Nat.le_of_ble_eq_true rfl) dL_law_649 (fun r' P hP => ?_)
  exact LwT.icmp_eq (tgt := 1340) F dL_law_652 (by decide) hP.1 (kk P hP.2)
theorem lc_why (F : LCx G p s m meth c bb Ls xs) (hi : i + 4 ≤ Ls) {M : Mem} (hI : INV M) (kk : ∀ P, INV P → LwT G (Rep G) p e s m below meth c bb 199 3861 1340 [(0, .float 1), (1, .ref 0), (2, .ref 175), (3, .int (nI i))] [] P) : LwT G (Rep G) p e s m below meth c bb 199 3861 657 [(0, .float 1), (1, .ref 0), (2, .ref 175), (3, .int (nI i))] [] M := by
  obtain ⟨h1, h2, h3⟩ := lc_ix F hi
  refine LwT.aload_n F dL_law_657 rfl 1 rfl ?_
  refine LwT.aloads F dL_law_658 rfl 0 rfl ?_
  refine LwT.iload_n F dL_law_659 rfl 3 rfl ?_
  refine LwT.iconst (v := 1) F dL_law_660 (by decide) ?_
  refine LwT.iadd F dL_law_661 ?_
  refine LwT.sald F h1 dL_law_662 ?_
  refine LwT.aloads F dL_law_663 rfl 0 rfl ?_
  refine LwT.iload_n F dL_law_664 rfl 3 rfl ?_
  refine LwT.iconst (v := 2) F dL_law_665 (by decide) ?_
  refine LwT.iadd F dL_law_666 ?_
  refine LwT.sald F h2 dL_law_667 ?_
  refine LwT.aloads F dL_law_668 rfl 0 rfl ?_
  refine LwT.iload_n F dL_law_669 rfl 3 rfl ?_
  refine LwT.iconst (v := 3) F dL_law_670 (by decide) ?_
  refine LwT.iadd F dL_law_671 ?_
  refine LwT.sald F h3 dL_law_672 ?_
  refine LwT.callV F [.int (xs (Int32.toNatClampNeg (nI i + 1))), .int (xs (Int32.toNatClampNeg (nI i + 2))), .int (xs (Int32.toNatClampNeg (nI i + 3)))] rfl (s_why hI) mb_X10_why mv_X10_why lk_L_77 rfl ⟨Nat.le_of_ble_eq_true rfl, Nat.le_of_ble_eq_true rfl⟩ (Nat.le_of_ble_eq_true rfl) (Nat.le_of_ble_eq_true rfl) rfl (recvRep ho_0 rfl) (Nat.le_of_ble_eq_true rfl) dL_law_673 (fun r N hN => ?_)
  refine LwT.aload_n F dL_law_676 rfl 2 rfl ?_
  refine LwT.aloads F dL_law_677 rfl 0 rfl ?_
  refine LwT.iload_n F dL_law_678 rfl 3 rfl ?_
  refine LwT.iconst (v := 1) F dL_law_679 (by decide) ?_
  refine LwT.iadd F dL_law_680 ?_
  refine LwT.sald F h1 dL_law_681 ?_
  refine LwT.aloads F dL_law_682 rfl 0 rfl ?_
  refine LwT.iload_n F dL_law_683 rfl 3 rfl ?_
  refine LwT.iconst (v := 2) F dL_law_684 (by decide) ?_
  refine LwT.iadd F dL_law_685 ?_
  refine LwT.sald F h2 dL_law_686 ?_
  refine LwT.aloads F dL_law_687 rfl 0 rfl ?_
  refine LwT.iload_n F dL_law_688 rfl 3 rfl ?_
  refine LwT.iconst (v := 3) F dL_law_689 (by decide) ?_
  refine LwT.iadd F dL_law_690 ?_
  refine LwT.sald F h3 dL_law_691 ?_
  refine LwT.callV F [.int (xs (Int32.toNatClampNeg (nI i + 1))), .int (xs (Int32.toNatClampNeg (nI i + 2))), .int (xs (Int32.toNatClampNeg (nI i + 3)))] rfl hN mb_X11_why mv_X11_why lk_L_80 rfl ⟨Nat.le_of_ble_eq_true rfl, Nat.le_of_ble_eq_true rfl⟩ (Nat.le_of_ble_eq_true rfl) (Nat.le_of_ble_eq_true rfl) rfl (recvRep ho_175 rfl) (Nat.le_of_ble_eq_true rfl) dL_law_692 (fun r' P hP => ?_)
  exact LwT.icmp_eq (tgt := 1340) F dL_law_695 (by decide) hP.1 (kk P hP.2)
theorem lc_governs (F : LCx G p s m meth c bb Ls xs) (hi : i + 4 ≤ Ls) {M : Mem} (hI : INV M) (kk : ∀ P, INV P → LwT G (Rep G) p e s m below meth c bb 199 3861 1340 [(0, .float 1), (1, .ref 0), (2, .ref 175), (3, .int (nI i))] [] P) : LwT G (Rep G) p e s m below meth c bb 199 3861 700 [(0, .float 1), (1, .ref 0), (2, .ref 175), (3, .int (nI i))] [] M := by
  obtain ⟨h1, h2, h3⟩ := lc_ix F hi
  refine LwT.aload_n F dL_law_700 rfl 1 rfl ?_
  refine LwT.aloads F dL_law_701 rfl 0 rfl ?_
  refine LwT.iload_n F dL_law_702 rfl 3 rfl ?_
  refine LwT.iconst (v := 1) F dL_law_703 (by decide) ?_
  refine LwT.iadd F dL_law_704 ?_
  refine LwT.sald F h1 dL_law_705 ?_
  refine LwT.aloads F dL_law_706 rfl 0 rfl ?_
  refine LwT.iload_n F dL_law_707 rfl 3 rfl ?_
  refine LwT.iconst (v := 2) F dL_law_708 (by decide) ?_
  refine LwT.iadd F dL_law_709 ?_
  refine LwT.sald F h2 dL_law_710 ?_
  refine LwT.callV F [.int (xs (Int32.toNatClampNeg (nI i + 1))), .int (xs (Int32.toNatClampNeg (nI i + 2)))] rfl (s_governs hI) mb_X10_governs mv_X10_governs lk_L_81 rfl ⟨Nat.le_of_ble_eq_true rfl, Nat.le_of_ble_eq_true rfl⟩ (Nat.le_of_ble_eq_true rfl) (Nat.le_of_ble_eq_true rfl) rfl (recvRep ho_0 rfl) (Nat.le_of_ble_eq_true rfl) dL_law_711 (fun r N hN => ?_)
  refine LwT.aload_n F dL_law_714 rfl 2 rfl ?_
  refine LwT.aloads F dL_law_715 rfl 0 rfl ?_
  refine LwT.iload_n F dL_law_716 rfl 3 rfl ?_
  refine LwT.iconst (v := 1) F dL_law_717 (by decide) ?_
  refine LwT.iadd F dL_law_718 ?_
  refine LwT.sald F h1 dL_law_719 ?_
  refine LwT.aloads F dL_law_720 rfl 0 rfl ?_
  refine LwT.iload_n F dL_law_721 rfl 3 rfl ?_
  refine LwT.iconst (v := 2) F dL_law_722 (by decide) ?_
  refine LwT.iadd F dL_law_723 ?_
  refine LwT.sald F h2 dL_law_724 ?_
  refine LwT.callV F [.int (xs (Int32.toNatClampNeg (nI i + 1))), .int (xs (Int32.toNatClampNeg (nI i + 2)))] rfl hN mb_X11_governs mv_X11_governs lk_L_84 rfl ⟨Nat.le_of_ble_eq_true rfl, Nat.le_of_ble_eq_true rfl⟩ (Nat.le_of_ble_eq_true rfl) (Nat.le_of_ble_eq_true rfl) rfl (recvRep ho_175 rfl) (Nat.le_of_ble_eq_true rfl) dL_law_725 (fun r' P hP => ?_)
  exact LwT.icmp_eq (tgt := 1340) F dL_law_728 (by decide) hP.1 (kk P hP.2)
theorem lc_those (F : LCx G p s m meth c bb Ls xs) (hi : i + 4 ≤ Ls) {M : Mem} (hI : INV M) (kk : ∀ P, INV P → LwT G (Rep G) p e s m below meth c bb 199 3861 1340 [(0, .float 1), (1, .ref 0), (2, .ref 175), (3, .int (nI i))] [] P) : LwT G (Rep G) p e s m below meth c bb 199 3861 733 [(0, .float 1), (1, .ref 0), (2, .ref 175), (3, .int (nI i))] [] M := by
  obtain ⟨h1, h2, h3⟩ := lc_ix F hi
  refine LwT.aload_n F dL_law_733 rfl 1 rfl ?_
  refine LwT.aloads F dL_law_734 rfl 0 rfl ?_
  refine LwT.iload_n F dL_law_735 rfl 3 rfl ?_
  refine LwT.iconst (v := 1) F dL_law_736 (by decide) ?_
  refine LwT.iadd F dL_law_737 ?_
  refine LwT.sald F h1 dL_law_738 ?_
  refine LwT.aloads F dL_law_739 rfl 0 rfl ?_
  refine LwT.iload_n F dL_law_740 rfl 3 rfl ?_
  refine LwT.iconst (v := 2) F dL_law_741 (by decide) ?_
  refine LwT.iadd F dL_law_742 ?_
  refine LwT.sald F h2 dL_law_743 ?_
  refine LwT.callV F [.int (xs (Int32.toNatClampNeg (nI i + 1))), .int (xs (Int32.toNatClampNeg (nI i + 2)))] rfl (s_those hI) mb_X10_those mv_X10_those lk_L_85 rfl ⟨Nat.le_of_ble_eq_true rfl, Nat.le_of_ble_eq_true rfl⟩ (Nat.le_of_ble_eq_true rfl) (Nat.le_of_ble_eq_true rfl) rfl (recvRep ho_0 rfl) (Nat.le_of_ble_eq_true rfl) dL_law_744 (fun r N hN => ?_)
  refine LwT.aload_n F dL_law_747 rfl 2 rfl ?_
  refine LwT.aloads F dL_law_748 rfl 0 rfl ?_
  refine LwT.iload_n F dL_law_749 rfl 3 rfl ?_
  refine LwT.iconst (v := 1) F dL_law_750 (by decide) ?_
  refine LwT.iadd F dL_law_751 ?_
  refine LwT.sald F h1 dL_law_752 ?_
  refine LwT.aloads F dL_law_753 rfl 0 rfl ?_
  refine LwT.iload_n F dL_law_754 rfl 3 rfl ?_
  refine LwT.iconst (v := 2) F dL_law_755 (by decide) ?_
  refine LwT.iadd F dL_law_756 ?_
  refine LwT.sald F h2 dL_law_757 ?_
  refine LwT.callV F [.int (xs (Int32.toNatClampNeg (nI i + 1))), .int (xs (Int32.toNatClampNeg (nI i + 2)))] rfl hN mb_X11_those mv_X11_those lk_L_88 rfl ⟨Nat.le_of_ble_eq_true rfl, Nat.le_of_ble_eq_true rfl⟩ (Nat.le_of_ble_eq_true rfl) (Nat.le_of_ble_eq_true rfl) rfl (recvRep ho_175 rfl) (Nat.le_of_ble_eq_true rfl) dL_law_758 (fun r' P hP => ?_)
  exact LwT.icmp_eq (tgt := 1340) F dL_law_761 (by decide) hP.1 (kk P hP.2)
theorem lc_gives (F : LCx G p s m meth c bb Ls xs) (hi : i + 4 ≤ Ls) {M : Mem} (hI : INV M) (kk : ∀ P, INV P → LwT G (Rep G) p e s m below meth c bb 199 3861 1340 [(0, .float 1), (1, .ref 0), (2, .ref 175), (3, .int (nI i))] [] P) : LwT G (Rep G) p e s m below meth c bb 199 3861 766 [(0, .float 1), (1, .ref 0), (2, .ref 175), (3, .int (nI i))] [] M := by
  obtain ⟨h1, h2, h3⟩ := lc_ix F hi
  refine LwT.aload_n F dL_law_766 rfl 1 rfl ?_
  refine LwT.aloads F dL_law_767 rfl 0 rfl ?_
  refine LwT.iload_n F dL_law_768 rfl 3 rfl ?_
  refine LwT.iconst (v := 1) F dL_law_769 (by decide) ?_
  refine LwT.iadd F dL_law_770 ?_
  refine LwT.sald F h1 dL_law_771 ?_
  refine LwT.aloads F dL_law_772 rfl 0 rfl ?_
  refine LwT.iload_n F dL_law_773 rfl 3 rfl ?_
  refine LwT.iconst (v := 2) F dL_law_774 (by decide) ?_
  refine LwT.iadd F dL_law_775 ?_
  refine LwT.sald F h2 dL_law_776 ?_
  refine LwT.callV F [.int (xs (Int32.toNatClampNeg (nI i + 1))), .int (xs (Int32.toNatClampNeg (nI i + 2)))] rfl (s_gives hI) mb_X10_gives mv_X10_gives lk_L_89 rfl ⟨Nat.le_of_ble_eq_true rfl, Nat.le_of_ble_eq_true rfl⟩ (Nat.le_of_ble_eq_true rfl) (Nat.le_of_ble_eq_true rfl) rfl (recvRep ho_0 rfl) (Nat.le_of_ble_eq_true rfl) dL_law_777 (fun r N hN => ?_)
  refine LwT.aload_n F dL_law_780 rfl 2 rfl ?_
  refine LwT.aloads F dL_law_781 rfl 0 rfl ?_
  refine LwT.iload_n F dL_law_782 rfl 3 rfl ?_
  refine LwT.iconst (v := 1) F dL_law_783 (by decide) ?_
  refine LwT.iadd F dL_law_784 ?_
  refine LwT.sald F h1 dL_law_785 ?_
  refine LwT.aloads F dL_law_786 rfl 0 rfl ?_
  refine LwT.iload_n F dL_law_787 rfl 3 rfl ?_
  refine LwT.iconst (v := 2) F dL_law_788 (by decide) ?_
  refine LwT.iadd F dL_law_789 ?_
  refine LwT.sald F h2 dL_law_790 ?_
  refine LwT.callV F [.int (xs (Int32.toNatClampNeg (nI i + 1))), .int (xs (Int32.toNatClampNeg (nI i + 2)))] rfl hN mb_X11_gives mv_X11_gives lk_L_92 rfl ⟨Nat.le_of_ble_eq_true rfl, Nat.le_of_ble_eq_true rfl⟩ (Nat.le_of_ble_eq_true rfl) (Nat.le_of_ble_eq_true rfl) rfl (recvRep ho_175 rfl) (Nat.le_of_ble_eq_true rfl) dL_law_791 (fun r' P hP => ?_)
  exact LwT.icmp_eq (tgt := 1340) F dL_law_794 (by decide) hP.1 (kk P hP.2)
theorem lc_route (F : LCx G p s m meth c bb Ls xs) (hi : i + 4 ≤ Ls) {M : Mem} (hI : INV M) (kk : ∀ P, INV P → LwT G (Rep G) p e s m below meth c bb 199 3861 1340 [(0, .float 1), (1, .ref 0), (2, .ref 175), (3, .int (nI i))] [] P) : LwT G (Rep G) p e s m below meth c bb 199 3861 799 [(0, .float 1), (1, .ref 0), (2, .ref 175), (3, .int (nI i))] [] M := by
  obtain ⟨h1, h2, h3⟩ := lc_ix F hi
  refine LwT.aload_n F dL_law_799 rfl 1 rfl ?_
  refine LwT.aloads F dL_law_800 rfl 0 rfl ?_
  refine LwT.iload_n F dL_law_801 rfl 3 rfl ?_
  refine LwT.iconst (v := 1) F dL_law_802 (by decide) ?_
  refine LwT.iadd F dL_law_803 ?_
  refine LwT.sald F h1 dL_law_804 ?_
  refine LwT.aloads F dL_law_805 rfl 0 rfl ?_
  refine LwT.iload_n F dL_law_806 rfl 3 rfl ?_
  refine LwT.iconst (v := 2) F dL_law_807 (by decide) ?_
  refine LwT.iadd F dL_law_808 ?_
  refine LwT.sald F h2 dL_law_809 ?_
  refine LwT.aloads F dL_law_810 rfl 0 rfl ?_
  refine LwT.iload_n F dL_law_811 rfl 3 rfl ?_
  refine LwT.iconst (v := 3) F dL_law_812 (by decide) ?_
  refine LwT.iadd F dL_law_813 ?_
  refine LwT.sald F h3 dL_law_814 ?_
  refine LwT.callV F [.int (xs (Int32.toNatClampNeg (nI i + 1))), .int (xs (Int32.toNatClampNeg (nI i + 2))), .int (xs (Int32.toNatClampNeg (nI i + 3)))] rfl (s_route hI) mb_X10_route mv_X10_route lk_L_93 rfl ⟨Nat.le_of_ble_eq_true rfl, Nat.le_of_ble_eq_true rfl⟩ (Nat.le_of_ble_eq_true rfl) (Nat.le_of_ble_eq_true rfl) rfl (recvRep ho_0 rfl) (Nat.le_of_ble_eq_true rfl) dL_law_815 (fun r N hN => ?_)
  refine LwT.aload_n F dL_law_818 rfl 2 rfl ?_
  refine LwT.aloads F dL_law_819 rfl 0 rfl ?_
  refine LwT.iload_n F dL_law_820 rfl 3 rfl ?_
  refine LwT.iconst (v := 1) F dL_law_821 (by decide) ?_
  refine LwT.iadd F dL_law_822 ?_
  refine LwT.sald F h1 dL_law_823 ?_
  refine LwT.aloads F dL_law_824 rfl 0 rfl ?_
  refine LwT.iload_n F dL_law_825 rfl 3 rfl ?_
  refine LwT.iconst (v := 2) F dL_law_826 (by decide) ?_
  refine LwT.iadd F dL_law_827 ?_
  refine LwT.sald F h2 dL_law_828 ?_
  refine LwT.aloads F dL_law_829 rfl 0 rfl ?_
  refine LwT.iload_n F dL_law_830 rfl 3 rfl ?_
  refine LwT.iconst (v := 3) F dL_law_831 (by decide) ?_
  refine LwT.iadd F dL_law_832 ?_
  refine LwT.sald F h3 dL_law_833 ?_
  refine LwT.callV F [.int (xs (Int32.toNatClampNeg (nI i + 1))), .int (xs (Int32.toNatClampNeg (nI i + 2))), .int (xs (Int32.toNatClampNeg (nI i + 3)))] rfl hN mb_X11_route mv_X11_route lk_L_96 rfl ⟨Nat.le_of_ble_eq_true rfl, Nat.le_of_ble_eq_true rfl⟩ (Nat.le_of_ble_eq_true rfl) (Nat.le_of_ble_eq_true rfl) rfl (recvRep ho_175 rfl) (Nat.le_of_ble_eq_true rfl) dL_law_834 (fun r' P hP => ?_)
  exact LwT.icmp_eq (tgt := 1340) F dL_law_837 (by decide) hP.1 (kk P hP.2)
theorem lc_sum (F : LCx G p s m meth c bb Ls xs) (hi : i + 4 ≤ Ls) {M : Mem} (hI : INV M) (kk : ∀ P, INV P → LwT G (Rep G) p e s m below meth c bb 199 3861 1340 [(0, .float 1), (1, .ref 0), (2, .ref 175), (3, .int (nI i))] [] P) : LwT G (Rep G) p e s m below meth c bb 199 3861 842 [(0, .float 1), (1, .ref 0), (2, .ref 175), (3, .int (nI i))] [] M := by
  obtain ⟨h1, h2, h3⟩ := lc_ix F hi
  refine LwT.aload_n F dL_law_842 rfl 1 rfl ?_
  refine LwT.aloads F dL_law_843 rfl 0 rfl ?_
  refine LwT.iload_n F dL_law_844 rfl 3 rfl ?_
  refine LwT.iconst (v := 1) F dL_law_845 (by decide) ?_
  refine LwT.iadd F dL_law_846 ?_
  refine LwT.sald F h1 dL_law_847 ?_
  refine LwT.callV F [.int (xs (Int32.toNatClampNeg (nI i + 1)))] rfl (s_sum hI) mb_X10_sum mv_X10_sum lk_L_97 rfl ⟨Nat.le_of_ble_eq_true rfl, Nat.le_of_ble_eq_true rfl⟩ (Nat.le_of_ble_eq_true rfl) (Nat.le_of_ble_eq_true rfl) rfl (recvRep ho_0 rfl) (Nat.le_of_ble_eq_true rfl) dL_law_848 (fun r N hN => ?_)
  refine LwT.aload_n F dL_law_851 rfl 2 rfl ?_
  refine LwT.aloads F dL_law_852 rfl 0 rfl ?_
  refine LwT.iload_n F dL_law_853 rfl 3 rfl ?_
  refine LwT.iconst (v := 1) F dL_law_854 (by decide) ?_
  refine LwT.iadd F dL_law_855 ?_
  refine LwT.sald F h1 dL_law_856 ?_
  refine LwT.callV F [.int (xs (Int32.toNatClampNeg (nI i + 1)))] rfl hN mb_X11_sum mv_X11_sum lk_L_100 rfl ⟨Nat.le_of_ble_eq_true rfl, Nat.le_of_ble_eq_true rfl⟩ (Nat.le_of_ble_eq_true rfl) (Nat.le_of_ble_eq_true rfl) rfl (recvRep ho_175 rfl) (Nat.le_of_ble_eq_true rfl) dL_law_857 (fun r' P hP => ?_)
  exact LwT.icmp_eq (tgt := 1340) F dL_law_860 (by decide) hP.1 (kk P hP.2)
theorem lc_passage (F : LCx G p s m meth c bb Ls xs) (hi : i + 4 ≤ Ls) {M : Mem} (hI : INV M) (kk : ∀ P, INV P → LwT G (Rep G) p e s m below meth c bb 199 3861 1340 [(0, .float 1), (1, .ref 0), (2, .ref 175), (3, .int (nI i))] [] P) : LwT G (Rep G) p e s m below meth c bb 199 3861 865 [(0, .float 1), (1, .ref 0), (2, .ref 175), (3, .int (nI i))] [] M := by
  obtain ⟨h1, h2, h3⟩ := lc_ix F hi
  refine LwT.aload_n F dL_law_865 rfl 1 rfl ?_
  refine LwT.aloads F dL_law_866 rfl 0 rfl ?_
  refine LwT.iload_n F dL_law_867 rfl 3 rfl ?_
  refine LwT.iconst (v := 1) F dL_law_868 (by decide) ?_
  refine LwT.iadd F dL_law_869 ?_
  refine LwT.sald F h1 dL_law_870 ?_
  refine LwT.aloads F dL_law_871 rfl 0 rfl ?_
  refine LwT.iload_n F dL_law_872 rfl 3 rfl ?_
  refine LwT.iconst (v := 2) F dL_law_873 (by decide) ?_
  refine LwT.iadd F dL_law_874 ?_
  refine LwT.sald F h2 dL_law_875 ?_
  refine LwT.aloads F dL_law_876 rfl 0 rfl ?_
  refine LwT.iload_n F dL_law_877 rfl 3 rfl ?_
  refine LwT.iconst (v := 3) F dL_law_878 (by decide) ?_
  refine LwT.iadd F dL_law_879 ?_
  refine LwT.sald F h3 dL_law_880 ?_
  refine LwT.callV F [.int (xs (Int32.toNatClampNeg (nI i + 1))), .int (xs (Int32.toNatClampNeg (nI i + 2))), .int (xs (Int32.toNatClampNeg (nI i + 3)))] rfl (s_passage hI) mb_X10_passage mv_X10_passage lk_L_101 rfl ⟨Nat.le_of_ble_eq_true rfl, Nat.le_of_ble_eq_true rfl⟩ (Nat.le_of_ble_eq_true rfl) (Nat.le_of_ble_eq_true rfl) rfl (recvRep ho_0 rfl) (Nat.le_of_ble_eq_true rfl) dL_law_881 (fun r N hN => ?_)
  refine LwT.aload_n F dL_law_884 rfl 2 rfl ?_
  refine LwT.aloads F dL_law_885 rfl 0 rfl ?_
  refine LwT.iload_n F dL_law_886 rfl 3 rfl ?_
  refine LwT.iconst (v := 1) F dL_law_887 (by decide) ?_
  refine LwT.iadd F dL_law_888 ?_
  refine LwT.sald F h1 dL_law_889 ?_
  refine LwT.aloads F dL_law_890 rfl 0 rfl ?_
  refine LwT.iload_n F dL_law_891 rfl 3 rfl ?_
  refine LwT.iconst (v := 2) F dL_law_892 (by decide) ?_
  refine LwT.iadd F dL_law_893 ?_
  refine LwT.sald F h2 dL_law_894 ?_
  refine LwT.aloads F dL_law_895 rfl 0 rfl ?_
  refine LwT.iload_n F dL_law_896 rfl 3 rfl ?_
  refine LwT.iconst (v := 3) F dL_law_897 (by decide) ?_
  refine LwT.iadd F dL_law_898 ?_
  refine LwT.sald F h3 dL_law_899 ?_
  refine LwT.callV F [.int (xs (Int32.toNatClampNeg (nI i + 1))), .int (xs (Int32.toNatClampNeg (nI i + 2))), .int (xs (Int32.toNatClampNeg (nI i + 3)))] rfl hN mb_X11_passage mv_X11_passage lk_L_104 rfl ⟨Nat.le_of_ble_eq_true rfl, Nat.le_of_ble_eq_true rfl⟩ (Nat.le_of_ble_eq_true rfl) (Nat.le_of_ble_eq_true rfl) rfl (recvRep ho_175 rfl) (Nat.le_of_ble_eq_true rfl) dL_law_900 (fun r' P hP => ?_)
  exact LwT.icmp_eq (tgt := 1340) F dL_law_903 (by decide) hP.1 (kk P hP.2)
theorem lc_term (F : LCx G p s m meth c bb Ls xs) (hi : i + 4 ≤ Ls) {M : Mem} (hI : INV M) (kk : ∀ P, INV P → LwT G (Rep G) p e s m below meth c bb 199 3861 1340 [(0, .float 1), (1, .ref 0), (2, .ref 175), (3, .int (nI i))] [] P) : LwT G (Rep G) p e s m below meth c bb 199 3861 908 [(0, .float 1), (1, .ref 0), (2, .ref 175), (3, .int (nI i))] [] M := by
  obtain ⟨h1, h2, h3⟩ := lc_ix F hi
  refine LwT.aload_n F dL_law_908 rfl 1 rfl ?_
  refine LwT.aloads F dL_law_909 rfl 0 rfl ?_
  refine LwT.iload_n F dL_law_910 rfl 3 rfl ?_
  refine LwT.iconst (v := 1) F dL_law_911 (by decide) ?_
  refine LwT.iadd F dL_law_912 ?_
  refine LwT.sald F h1 dL_law_913 ?_
  refine LwT.aloads F dL_law_914 rfl 0 rfl ?_
  refine LwT.iload_n F dL_law_915 rfl 3 rfl ?_
  refine LwT.iconst (v := 2) F dL_law_916 (by decide) ?_
  refine LwT.iadd F dL_law_917 ?_
  refine LwT.sald F h2 dL_law_918 ?_
  refine LwT.aloads F dL_law_919 rfl 0 rfl ?_
  refine LwT.iload_n F dL_law_920 rfl 3 rfl ?_
  refine LwT.iconst (v := 3) F dL_law_921 (by decide) ?_
  refine LwT.iadd F dL_law_922 ?_
  refine LwT.sald F h3 dL_law_923 ?_
  refine LwT.callV F [.int (xs (Int32.toNatClampNeg (nI i + 1))), .int (xs (Int32.toNatClampNeg (nI i + 2))), .int (xs (Int32.toNatClampNeg (nI i + 3)))] rfl (s_term hI) mb_X10_term mv_X10_term lk_L_105 rfl ⟨Nat.le_of_ble_eq_true rfl, Nat.le_of_ble_eq_true rfl⟩ (Nat.le_of_ble_eq_true rfl) (Nat.le_of_ble_eq_true rfl) rfl (recvRep ho_0 rfl) (Nat.le_of_ble_eq_true rfl) dL_law_924 (fun r N hN => ?_)
  refine LwT.aload_n F dL_law_927 rfl 2 rfl ?_
  refine LwT.aloads F dL_law_928 rfl 0 rfl ?_
  refine LwT.iload_n F dL_law_929 rfl 3 rfl ?_
  refine LwT.iconst (v := 1) F dL_law_930 (by decide) ?_
  refine LwT.iadd F dL_law_931 ?_
  refine LwT.sald F h1 dL_law_932 ?_
  refine LwT.aloads F dL_law_933 rfl 0 rfl ?_
  refine LwT.iload_n F dL_law_934 rfl 3 rfl ?_
  refine LwT.iconst (v := 2) F dL_law_935 (by decide) ?_
  refine LwT.iadd F dL_law_936 ?_
  refine LwT.sald F h2 dL_law_937 ?_
  refine LwT.aloads F dL_law_938 rfl 0 rfl ?_
  refine LwT.iload_n F dL_law_939 rfl 3 rfl ?_
  refine LwT.iconst (v := 3) F dL_law_940 (by decide) ?_
  refine LwT.iadd F dL_law_941 ?_
  refine LwT.sald F h3 dL_law_942 ?_
  refine LwT.callV F [.int (xs (Int32.toNatClampNeg (nI i + 1))), .int (xs (Int32.toNatClampNeg (nI i + 2))), .int (xs (Int32.toNatClampNeg (nI i + 3)))] rfl hN mb_X11_term mv_X11_term lk_L_108 rfl ⟨Nat.le_of_ble_eq_true rfl, Nat.le_of_ble_eq_true rfl⟩ (Nat.le_of_ble_eq_true rfl) (Nat.le_of_ble_eq_true rfl) rfl (recvRep ho_175 rfl) (Nat.le_of_ble_eq_true rfl) dL_law_943 (fun r' P hP => ?_)
  exact LwT.icmp_eq (tgt := 1340) F dL_law_946 (by decide) hP.1 (kk P hP.2)
theorem lc_whole (F : LCx G p s m meth c bb Ls xs) (hi : i + 4 ≤ Ls) {M : Mem} (hI : INV M) (kk : ∀ P, INV P → LwT G (Rep G) p e s m below meth c bb 199 3861 1340 [(0, .float 1), (1, .ref 0), (2, .ref 175), (3, .int (nI i))] [] P) : LwT G (Rep G) p e s m below meth c bb 199 3861 951 [(0, .float 1), (1, .ref 0), (2, .ref 175), (3, .int (nI i))] [] M := by
  obtain ⟨h1, h2, h3⟩ := lc_ix F hi
  refine LwT.aload_n F dL_law_951 rfl 1 rfl ?_
  refine LwT.aloads F dL_law_952 rfl 0 rfl ?_
  refine LwT.iload_n F dL_law_953 rfl 3 rfl ?_
  refine LwT.iconst (v := 1) F dL_law_954 (by decide) ?_
  refine LwT.iadd F dL_law_955 ?_
  refine LwT.sald F h1 dL_law_956 ?_
  refine LwT.aloads F dL_law_957 rfl 0 rfl ?_
  refine LwT.iload_n F dL_law_958 rfl 3 rfl ?_
  refine LwT.iconst (v := 2) F dL_law_959 (by decide) ?_
  refine LwT.iadd F dL_law_960 ?_
  refine LwT.sald F h2 dL_law_961 ?_
  refine LwT.callV F [.int (xs (Int32.toNatClampNeg (nI i + 1))), .int (xs (Int32.toNatClampNeg (nI i + 2)))] rfl (s_whole hI) mb_X10_whole mv_X10_whole lk_L_109 rfl ⟨Nat.le_of_ble_eq_true rfl, Nat.le_of_ble_eq_true rfl⟩ (Nat.le_of_ble_eq_true rfl) (Nat.le_of_ble_eq_true rfl) rfl (recvRep ho_0 rfl) (Nat.le_of_ble_eq_true rfl) dL_law_962 (fun r N hN => ?_)
  refine LwT.aload_n F dL_law_965 rfl 2 rfl ?_
  refine LwT.aloads F dL_law_966 rfl 0 rfl ?_
  refine LwT.iload_n F dL_law_967 rfl 3 rfl ?_
  refine LwT.iconst (v := 1) F dL_law_968 (by decide) ?_
  refine LwT.iadd F dL_law_969 ?_
  refine LwT.sald F h1 dL_law_970 ?_
  refine LwT.aloads F dL_law_971 rfl 0 rfl ?_
  refine LwT.iload_n F dL_law_972 rfl 3 rfl ?_
  refine LwT.iconst (v := 2) F dL_law_973 (by decide) ?_
  refine LwT.iadd F dL_law_974 ?_
  refine LwT.sald F h2 dL_law_975 ?_
  refine LwT.callV F [.int (xs (Int32.toNatClampNeg (nI i + 1))), .int (xs (Int32.toNatClampNeg (nI i + 2)))] rfl hN mb_X11_whole mv_X11_whole lk_L_112 rfl ⟨Nat.le_of_ble_eq_true rfl, Nat.le_of_ble_eq_true rfl⟩ (Nat.le_of_ble_eq_true rfl) (Nat.le_of_ble_eq_true rfl) rfl (recvRep ho_175 rfl) (Nat.le_of_ble_eq_true rfl) dL_law_976 (fun r' P hP => ?_)
  exact LwT.icmp_eq (tgt := 1340) F dL_law_979 (by decide) hP.1 (kk P hP.2)
theorem lc_taken (F : LCx G p s m meth c bb Ls xs) (hi : i + 4 ≤ Ls) {M : Mem} (hI : INV M) (kk : ∀ P, INV P → LwT G (Rep G) p e s m below meth c bb 199 3861 1340 [(0, .float 1), (1, .ref 0), (2, .ref 175), (3, .int (nI i))] [] P) : LwT G (Rep G) p e s m below meth c bb 199 3861 984 [(0, .float 1), (1, .ref 0), (2, .ref 175), (3, .int (nI i))] [] M := by
  obtain ⟨h1, h2, h3⟩ := lc_ix F hi
  refine LwT.aload_n F dL_law_984 rfl 1 rfl ?_
  refine LwT.aloads F dL_law_985 rfl 0 rfl ?_
  refine LwT.iload_n F dL_law_986 rfl 3 rfl ?_
  refine LwT.iconst (v := 1) F dL_law_987 (by decide) ?_
  refine LwT.iadd F dL_law_988 ?_
  refine LwT.sald F h1 dL_law_989 ?_
  refine LwT.callV F [.int (xs (Int32.toNatClampNeg (nI i + 1)))] rfl (s_taken hI) mb_X10_taken mv_X10_taken lk_L_113 rfl ⟨Nat.le_of_ble_eq_true rfl, Nat.le_of_ble_eq_true rfl⟩ (Nat.le_of_ble_eq_true rfl) (Nat.le_of_ble_eq_true rfl) rfl (recvRep ho_0 rfl) (Nat.le_of_ble_eq_true rfl) dL_law_990 (fun r N hN => ?_)
  refine LwT.aload_n F dL_law_993 rfl 2 rfl ?_
  refine LwT.aloads F dL_law_994 rfl 0 rfl ?_
  refine LwT.iload_n F dL_law_995 rfl 3 rfl ?_
  refine LwT.iconst (v := 1) F dL_law_996 (by decide) ?_
  refine LwT.iadd F dL_law_997 ?_
  refine LwT.sald F h1 dL_law_998 ?_
  refine LwT.callV F [.int (xs (Int32.toNatClampNeg (nI i + 1)))] rfl hN mb_X11_taken mv_X11_taken lk_L_116 rfl ⟨Nat.le_of_ble_eq_true rfl, Nat.le_of_ble_eq_true rfl⟩ (Nat.le_of_ble_eq_true rfl) (Nat.le_of_ble_eq_true rfl) rfl (recvRep ho_175 rfl) (Nat.le_of_ble_eq_true rfl) dL_law_999 (fun r' P hP => ?_)
  exact LwT.icmp_eq (tgt := 1340) F dL_law_1002 (by decide) hP.1 (kk P hP.2)
theorem lc_brief (F : LCx G p s m meth c bb Ls xs) (hi : i + 4 ≤ Ls) {M : Mem} (hI : INV M) (kk : ∀ P, INV P → LwT G (Rep G) p e s m below meth c bb 199 3861 1340 [(0, .float 1), (1, .ref 0), (2, .ref 175), (3, .int (nI i))] [] P) : LwT G (Rep G) p e s m below meth c bb 199 3861 1007 [(0, .float 1), (1, .ref 0), (2, .ref 175), (3, .int (nI i))] [] M := by
  obtain ⟨h1, h2, h3⟩ := lc_ix F hi
  refine LwT.aload_n F dL_law_1007 rfl 1 rfl ?_
  refine LwT.aloads F dL_law_1008 rfl 0 rfl ?_
  refine LwT.iload_n F dL_law_1009 rfl 3 rfl ?_
  refine LwT.iconst (v := 1) F dL_law_1010 (by decide) ?_
  refine LwT.iadd F dL_law_1011 ?_
  refine LwT.sald F h1 dL_law_1012 ?_
  refine LwT.callV F [.int (xs (Int32.toNatClampNeg (nI i + 1)))] rfl (s_brief hI) mb_X10_brief mv_X10_brief lk_L_117 rfl ⟨Nat.le_of_ble_eq_true rfl, Nat.le_of_ble_eq_true rfl⟩ (Nat.le_of_ble_eq_true rfl) (Nat.le_of_ble_eq_true rfl) rfl (recvRep ho_0 rfl) (Nat.le_of_ble_eq_true rfl) dL_law_1013 (fun r N hN => ?_)
  refine LwT.aload_n F dL_law_1016 rfl 2 rfl ?_
  refine LwT.aloads F dL_law_1017 rfl 0 rfl ?_
  refine LwT.iload_n F dL_law_1018 rfl 3 rfl ?_
  refine LwT.iconst (v := 1) F dL_law_1019 (by decide) ?_
  refine LwT.iadd F dL_law_1020 ?_
  refine LwT.sald F h1 dL_law_1021 ?_
  refine LwT.callV F [.int (xs (Int32.toNatClampNeg (nI i + 1)))] rfl hN mb_X11_brief mv_X11_brief lk_L_120 rfl ⟨Nat.le_of_ble_eq_true rfl, Nat.le_of_ble_eq_true rfl⟩ (Nat.le_of_ble_eq_true rfl) (Nat.le_of_ble_eq_true rfl) rfl (recvRep ho_175 rfl) (Nat.le_of_ble_eq_true rfl) dL_law_1022 (fun r' P hP => ?_)
  exact LwT.icmp_eq (tgt := 1340) F dL_law_1025 (by decide) hP.1 (kk P hP.2)
theorem lc_caught (F : LCx G p s m meth c bb Ls xs) (hi : i + 4 ≤ Ls) {M : Mem} (hI : INV M) (kk : ∀ P, INV P → LwT G (Rep G) p e s m below meth c bb 199 3861 1340 [(0, .float 1), (1, .ref 0), (2, .ref 175), (3, .int (nI i))] [] P) : LwT G (Rep G) p e s m below meth c bb 199 3861 1030 [(0, .float 1), (1, .ref 0), (2, .ref 175), (3, .int (nI i))] [] M := by
  obtain ⟨h1, h2, h3⟩ := lc_ix F hi
  refine LwT.aload_n F dL_law_1030 rfl 1 rfl ?_
  refine LwT.aloads F dL_law_1031 rfl 0 rfl ?_
  refine LwT.iload_n F dL_law_1032 rfl 3 rfl ?_
  refine LwT.iconst (v := 1) F dL_law_1033 (by decide) ?_
  refine LwT.iadd F dL_law_1034 ?_
  refine LwT.sald F h1 dL_law_1035 ?_
  refine LwT.callV F [.int (xs (Int32.toNatClampNeg (nI i + 1)))] rfl (s_caught hI) mb_X10_caught mv_X10_caught lk_L_121 rfl ⟨Nat.le_of_ble_eq_true rfl, Nat.le_of_ble_eq_true rfl⟩ (Nat.le_of_ble_eq_true rfl) (Nat.le_of_ble_eq_true rfl) rfl (recvRep ho_0 rfl) (Nat.le_of_ble_eq_true rfl) dL_law_1036 (fun r N hN => ?_)
  refine LwT.aload_n F dL_law_1039 rfl 2 rfl ?_
  refine LwT.aloads F dL_law_1040 rfl 0 rfl ?_
  refine LwT.iload_n F dL_law_1041 rfl 3 rfl ?_
  refine LwT.iconst (v := 1) F dL_law_1042 (by decide) ?_
  refine LwT.iadd F dL_law_1043 ?_
  refine LwT.sald F h1 dL_law_1044 ?_
  refine LwT.callV F [.int (xs (Int32.toNatClampNeg (nI i + 1)))] rfl hN mb_X11_caught mv_X11_caught lk_L_124 rfl ⟨Nat.le_of_ble_eq_true rfl, Nat.le_of_ble_eq_true rfl⟩ (Nat.le_of_ble_eq_true rfl) (Nat.le_of_ble_eq_true rfl) rfl (recvRep ho_175 rfl) (Nat.le_of_ble_eq_true rfl) dL_law_1045 (fun r' P hP => ?_)
  exact LwT.icmp_eq (tgt := 1340) F dL_law_1048 (by decide) hP.1 (kk P hP.2)
theorem lc_read (F : LCx G p s m meth c bb Ls xs) (hi : i + 4 ≤ Ls) {M : Mem} (hI : INV M) (kk : ∀ P, INV P → LwT G (Rep G) p e s m below meth c bb 199 3861 1340 [(0, .float 1), (1, .ref 0), (2, .ref 175), (3, .int (nI i))] [] P) : LwT G (Rep G) p e s m below meth c bb 199 3861 1053 [(0, .float 1), (1, .ref 0), (2, .ref 175), (3, .int (nI i))] [] M := by
  obtain ⟨h1, h2, h3⟩ := lc_ix F hi
  refine LwT.aload_n F dL_law_1053 rfl 1 rfl ?_
  refine LwT.aloads F dL_law_1054 rfl 0 rfl ?_
  refine LwT.iload_n F dL_law_1055 rfl 3 rfl ?_
  refine LwT.iconst (v := 1) F dL_law_1056 (by decide) ?_
  refine LwT.iadd F dL_law_1057 ?_
  refine LwT.sald F h1 dL_law_1058 ?_
  refine LwT.aloads F dL_law_1059 rfl 0 rfl ?_
  refine LwT.iload_n F dL_law_1060 rfl 3 rfl ?_
  refine LwT.iconst (v := 2) F dL_law_1061 (by decide) ?_
  refine LwT.iadd F dL_law_1062 ?_
  refine LwT.sald F h2 dL_law_1063 ?_
  refine LwT.aloads F dL_law_1064 rfl 0 rfl ?_
  refine LwT.iload_n F dL_law_1065 rfl 3 rfl ?_
  refine LwT.iconst (v := 3) F dL_law_1066 (by decide) ?_
  refine LwT.iadd F dL_law_1067 ?_
  refine LwT.sald F h3 dL_law_1068 ?_
  refine LwT.callV F [.int (xs (Int32.toNatClampNeg (nI i + 1))), .int (xs (Int32.toNatClampNeg (nI i + 2))), .int (xs (Int32.toNatClampNeg (nI i + 3)))] rfl (s_read hI) mb_X10_read mv_X10_read lk_L_125 rfl ⟨Nat.le_of_ble_eq_true rfl, Nat.le_of_ble_eq_true rfl⟩ (Nat.le_of_ble_eq_true rfl) (Nat.le_of_ble_eq_true rfl) rfl (recvRep ho_0 rfl) (Nat.le_of_ble_eq_true rfl) dL_law_1069 (fun r N hN => ?_)
  refine LwT.aload_n F dL_law_1072 rfl 2 rfl ?_
  refine LwT.aloads F dL_law_1073 rfl 0 rfl ?_
  refine LwT.iload_n F dL_law_1074 rfl 3 rfl ?_
  refine LwT.iconst (v := 1) F dL_law_1075 (by decide) ?_
  refine LwT.iadd F dL_law_1076 ?_
  refine LwT.sald F h1 dL_law_1077 ?_
  refine LwT.aloads F dL_law_1078 rfl 0 rfl ?_
  refine LwT.iload_n F dL_law_1079 rfl 3 rfl ?_
  refine LwT.iconst (v := 2) F dL_law_1080 (by decide) ?_
  refine LwT.iadd F dL_law_1081 ?_
  refine LwT.sald F h2 dL_law_1082 ?_
  refine LwT.aloads F dL_law_1083 rfl 0 rfl ?_
  refine LwT.iload_n F dL_law_1084 rfl 3 rfl ?_
  refine LwT.iconst (v := 3) F dL_law_1085 (by decide) ?_
  refine LwT.iadd F dL_law_1086 ?_
  refine LwT.sald F h3 dL_law_1087 ?_
  refine LwT.callV F [.int (xs (Int32.toNatClampNeg (nI i + 1))), .int (xs (Int32.toNatClampNeg (nI i + 2))), .int (xs (Int32.toNatClampNeg (nI i + 3)))] rfl hN mb_X11_read mv_X11_read lk_L_128 rfl ⟨Nat.le_of_ble_eq_true rfl, Nat.le_of_ble_eq_true rfl⟩ (Nat.le_of_ble_eq_true rfl) (Nat.le_of_ble_eq_true rfl) rfl (recvRep ho_175 rfl) (Nat.le_of_ble_eq_true rfl) dL_law_1088 (fun r' P hP => ?_)
  exact LwT.icmp_eq (tgt := 1340) F dL_law_1091 (by decide) hP.1 (kk P hP.2)
theorem lc_ways (F : LCx G p s m meth c bb Ls xs) (hi : i + 4 ≤ Ls) {M : Mem} (hI : INV M) (kk : ∀ P, INV P → LwT G (Rep G) p e s m below meth c bb 199 3861 1340 [(0, .float 1), (1, .ref 0), (2, .ref 175), (3, .int (nI i))] [] P) : LwT G (Rep G) p e s m below meth c bb 199 3861 1096 [(0, .float 1), (1, .ref 0), (2, .ref 175), (3, .int (nI i))] [] M := by
  obtain ⟨h1, h2, h3⟩ := lc_ix F hi
  refine LwT.aload_n F dL_law_1096 rfl 1 rfl ?_
  refine LwT.aloads F dL_law_1097 rfl 0 rfl ?_
  refine LwT.iload_n F dL_law_1098 rfl 3 rfl ?_
  refine LwT.iconst (v := 1) F dL_law_1099 (by decide) ?_
  refine LwT.iadd F dL_law_1100 ?_
  refine LwT.sald F h1 dL_law_1101 ?_
  refine LwT.aloads F dL_law_1102 rfl 0 rfl ?_
  refine LwT.iload_n F dL_law_1103 rfl 3 rfl ?_
  refine LwT.iconst (v := 2) F dL_law_1104 (by decide) ?_
  refine LwT.iadd F dL_law_1105 ?_
  refine LwT.sald F h2 dL_law_1106 ?_
  refine LwT.callV F [.int (xs (Int32.toNatClampNeg (nI i + 1))), .int (xs (Int32.toNatClampNeg (nI i + 2)))] rfl (s_ways hI) mb_X10_ways mv_X10_ways lk_L_129 rfl ⟨Nat.le_of_ble_eq_true rfl, Nat.le_of_ble_eq_true rfl⟩ (Nat.le_of_ble_eq_true rfl) (Nat.le_of_ble_eq_true rfl) rfl (recvRep ho_0 rfl) (Nat.le_of_ble_eq_true rfl) dL_law_1107 (fun r N hN => ?_)
  refine LwT.aload_n F dL_law_1110 rfl 2 rfl ?_
  refine LwT.aloads F dL_law_1111 rfl 0 rfl ?_
  refine LwT.iload_n F dL_law_1112 rfl 3 rfl ?_
  refine LwT.iconst (v := 1) F dL_law_1113 (by decide) ?_
  refine LwT.iadd F dL_law_1114 ?_
  refine LwT.sald F h1 dL_law_1115 ?_
  refine LwT.aloads F dL_law_1116 rfl 0 rfl ?_
  refine LwT.iload_n F dL_law_1117 rfl 3 rfl ?_
  refine LwT.iconst (v := 2) F dL_law_1118 (by decide) ?_
  refine LwT.iadd F dL_law_1119 ?_
  refine LwT.sald F h2 dL_law_1120 ?_
  refine LwT.callV F [.int (xs (Int32.toNatClampNeg (nI i + 1))), .int (xs (Int32.toNatClampNeg (nI i + 2)))] rfl hN mb_X11_ways mv_X11_ways lk_L_132 rfl ⟨Nat.le_of_ble_eq_true rfl, Nat.le_of_ble_eq_true rfl⟩ (Nat.le_of_ble_eq_true rfl) (Nat.le_of_ble_eq_true rfl) rfl (recvRep ho_175 rfl) (Nat.le_of_ble_eq_true rfl) dL_law_1121 (fun r' P hP => ?_)
  exact LwT.icmp_eq (tgt := 1340) F dL_law_1124 (by decide) hP.1 (kk P hP.2)
theorem lc_hangs (F : LCx G p s m meth c bb Ls xs) (hi : i + 4 ≤ Ls) {M : Mem} (hI : INV M) (kk : ∀ P, INV P → LwT G (Rep G) p e s m below meth c bb 199 3861 1340 [(0, .float 1), (1, .ref 0), (2, .ref 175), (3, .int (nI i))] [] P) : LwT G (Rep G) p e s m below meth c bb 199 3861 1129 [(0, .float 1), (1, .ref 0), (2, .ref 175), (3, .int (nI i))] [] M := by
  obtain ⟨h1, h2, h3⟩ := lc_ix F hi
  refine LwT.aload_n F dL_law_1129 rfl 1 rfl ?_
  refine LwT.aloads F dL_law_1130 rfl 0 rfl ?_
  refine LwT.iload_n F dL_law_1131 rfl 3 rfl ?_
  refine LwT.iconst (v := 1) F dL_law_1132 (by decide) ?_
  refine LwT.iadd F dL_law_1133 ?_
  refine LwT.sald F h1 dL_law_1134 ?_
  refine LwT.aloads F dL_law_1135 rfl 0 rfl ?_
  refine LwT.iload_n F dL_law_1136 rfl 3 rfl ?_
  refine LwT.iconst (v := 2) F dL_law_1137 (by decide) ?_
  refine LwT.iadd F dL_law_1138 ?_
  refine LwT.sald F h2 dL_law_1139 ?_
  refine LwT.callV F [.int (xs (Int32.toNatClampNeg (nI i + 1))), .int (xs (Int32.toNatClampNeg (nI i + 2)))] rfl (s_hangs hI) mb_X10_hangs mv_X10_hangs lk_L_133 rfl ⟨Nat.le_of_ble_eq_true rfl, Nat.le_of_ble_eq_true rfl⟩ (Nat.le_of_ble_eq_true rfl) (Nat.le_of_ble_eq_true rfl) rfl (recvRep ho_0 rfl) (Nat.le_of_ble_eq_true rfl) dL_law_1140 (fun r N hN => ?_)
  refine LwT.aload_n F dL_law_1143 rfl 2 rfl ?_
  refine LwT.aloads F dL_law_1144 rfl 0 rfl ?_
  refine LwT.iload_n F dL_law_1145 rfl 3 rfl ?_
  refine LwT.iconst (v := 1) F dL_law_1146 (by decide) ?_
  refine LwT.iadd F dL_law_1147 ?_
  refine LwT.sald F h1 dL_law_1148 ?_
  refine LwT.aloads F dL_law_1149 rfl 0 rfl ?_
  refine LwT.iload_n F dL_law_1150 rfl 3 rfl ?_
  refine LwT.iconst (v := 2) F dL_law_1151 (by decide) ?_
  refine LwT.iadd F dL_law_1152 ?_
  refine LwT.sald F h2 dL_law_1153 ?_
  refine LwT.callV F [.int (xs (Int32.toNatClampNeg (nI i + 1))), .int (xs (Int32.toNatClampNeg (nI i + 2)))] rfl hN mb_X11_hangs mv_X11_hangs lk_L_136 rfl ⟨Nat.le_of_ble_eq_true rfl, Nat.le_of_ble_eq_true rfl⟩ (Nat.le_of_ble_eq_true rfl) (Nat.le_of_ble_eq_true rfl) rfl (recvRep ho_175 rfl) (Nat.le_of_ble_eq_true rfl) dL_law_1154 (fun r' P hP => ?_)
  exact LwT.icmp_eq (tgt := 1340) F dL_law_1157 (by decide) hP.1 (kk P hP.2)
theorem lc_wish (F : LCx G p s m meth c bb Ls xs) (hi : i + 4 ≤ Ls) {M : Mem} (hI : INV M) (kk : ∀ P, INV P → LwT G (Rep G) p e s m below meth c bb 199 3861 1340 [(0, .float 1), (1, .ref 0), (2, .ref 175), (3, .int (nI i))] [] P) : LwT G (Rep G) p e s m below meth c bb 199 3861 1162 [(0, .float 1), (1, .ref 0), (2, .ref 175), (3, .int (nI i))] [] M := by
  obtain ⟨h1, h2, h3⟩ := lc_ix F hi
  refine LwT.aload_n F dL_law_1162 rfl 1 rfl ?_
  refine LwT.aloads F dL_law_1163 rfl 0 rfl ?_
  refine LwT.iload_n F dL_law_1164 rfl 3 rfl ?_
  refine LwT.iconst (v := 1) F dL_law_1165 (by decide) ?_
  refine LwT.iadd F dL_law_1166 ?_
  refine LwT.sald F h1 dL_law_1167 ?_
  refine LwT.aloads F dL_law_1168 rfl 0 rfl ?_
  refine LwT.iload_n F dL_law_1169 rfl 3 rfl ?_
  refine LwT.iconst (v := 2) F dL_law_1170 (by decide) ?_
  refine LwT.iadd F dL_law_1171 ?_
  refine LwT.sald F h2 dL_law_1172 ?_
  refine LwT.callV F [.int (xs (Int32.toNatClampNeg (nI i + 1))), .int (xs (Int32.toNatClampNeg (nI i + 2)))] rfl (s_wish hI) mb_X10_wish mv_X10_wish lk_L_137 rfl ⟨Nat.le_of_ble_eq_true rfl, Nat.le_of_ble_eq_true rfl⟩ (Nat.le_of_ble_eq_true rfl) (Nat.le_of_ble_eq_true rfl) rfl (recvRep ho_0 rfl) (Nat.le_of_ble_eq_true rfl) dL_law_1173 (fun r N hN => ?_)
  refine LwT.aload_n F dL_law_1176 rfl 2 rfl ?_
  refine LwT.aloads F dL_law_1177 rfl 0 rfl ?_
  refine LwT.iload_n F dL_law_1178 rfl 3 rfl ?_
  refine LwT.iconst (v := 1) F dL_law_1179 (by decide) ?_
  refine LwT.iadd F dL_law_1180 ?_
  refine LwT.sald F h1 dL_law_1181 ?_
  refine LwT.aloads F dL_law_1182 rfl 0 rfl ?_
  refine LwT.iload_n F dL_law_1183 rfl 3 rfl ?_
  refine LwT.iconst (v := 2) F dL_law_1184 (by decide) ?_
  refine LwT.iadd F dL_law_1185 ?_
  refine LwT.sald F h2 dL_law_1186 ?_
  refine LwT.callV F [.int (xs (Int32.toNatClampNeg (nI i + 1))), .int (xs (Int32.toNatClampNeg (nI i + 2)))] rfl hN mb_X11_wish mv_X11_wish lk_L_140 rfl ⟨Nat.le_of_ble_eq_true rfl, Nat.le_of_ble_eq_true rfl⟩ (Nat.le_of_ble_eq_true rfl) (Nat.le_of_ble_eq_true rfl) rfl (recvRep ho_175 rfl) (Nat.le_of_ble_eq_true rfl) dL_law_1187 (fun r' P hP => ?_)
  exact LwT.icmp_eq (tgt := 1340) F dL_law_1190 (by decide) hP.1 (kk P hP.2)
theorem lc_mend (F : LCx G p s m meth c bb Ls xs) (hi : i + 4 ≤ Ls) {M : Mem} (hI : INV M) (kk : ∀ P, INV P → LwT G (Rep G) p e s m below meth c bb 199 3861 1340 [(0, .float 1), (1, .ref 0), (2, .ref 175), (3, .int (nI i))] [] P) : LwT G (Rep G) p e s m below meth c bb 199 3861 1195 [(0, .float 1), (1, .ref 0), (2, .ref 175), (3, .int (nI i))] [] M := by
  obtain ⟨h1, h2, h3⟩ := lc_ix F hi
  refine LwT.aload_n F dL_law_1195 rfl 1 rfl ?_
  refine LwT.aloads F dL_law_1196 rfl 0 rfl ?_
  refine LwT.iload_n F dL_law_1197 rfl 3 rfl ?_
  refine LwT.iconst (v := 1) F dL_law_1198 (by decide) ?_
  refine LwT.iadd F dL_law_1199 ?_
  refine LwT.sald F h1 dL_law_1200 ?_
  refine LwT.aloads F dL_law_1201 rfl 0 rfl ?_
  refine LwT.iload_n F dL_law_1202 rfl 3 rfl ?_
  refine LwT.iconst (v := 2) F dL_law_1203 (by decide) ?_
  refine LwT.iadd F dL_law_1204 ?_
  refine LwT.sald F h2 dL_law_1205 ?_
  refine LwT.aloads F dL_law_1206 rfl 0 rfl ?_
  refine LwT.iload_n F dL_law_1207 rfl 3 rfl ?_
  refine LwT.iconst (v := 3) F dL_law_1208 (by decide) ?_
  refine LwT.iadd F dL_law_1209 ?_
  refine LwT.sald F h3 dL_law_1210 ?_
  refine LwT.callV F [.int (xs (Int32.toNatClampNeg (nI i + 1))), .int (xs (Int32.toNatClampNeg (nI i + 2))), .int (xs (Int32.toNatClampNeg (nI i + 3)))] rfl (s_mend hI) mb_X10_mend mv_X10_mend lk_L_141 rfl ⟨Nat.le_of_ble_eq_true rfl, Nat.le_of_ble_eq_true rfl⟩ (Nat.le_of_ble_eq_true rfl) (Nat.le_of_ble_eq_true rfl) rfl (recvRep ho_0 rfl) (Nat.le_of_ble_eq_true rfl) dL_law_1211 (fun r N hN => ?_)
  refine LwT.aload_n F dL_law_1214 rfl 2 rfl ?_
  refine LwT.aloads F dL_law_1215 rfl 0 rfl ?_
  refine LwT.iload_n F dL_law_1216 rfl 3 rfl ?_
  refine LwT.iconst (v := 1) F dL_law_1217 (by decide) ?_
  refine LwT.iadd F dL_law_1218 ?_
  refine LwT.sald F h1 dL_law_1219 ?_
  refine LwT.aloads F dL_law_1220 rfl 0 rfl ?_
  refine LwT.iload_n F dL_law_1221 rfl 3 rfl ?_
  refine LwT.iconst (v := 2) F dL_law_1222 (by decide) ?_
  refine LwT.iadd F dL_law_1223 ?_
  refine LwT.sald F h2 dL_law_1224 ?_
  refine LwT.aloads F dL_law_1225 rfl 0 rfl ?_
  refine LwT.iload_n F dL_law_1226 rfl 3 rfl ?_
  refine LwT.iconst (v := 3) F dL_law_1227 (by decide) ?_
  refine LwT.iadd F dL_law_1228 ?_
  refine LwT.sald F h3 dL_law_1229 ?_
  refine LwT.callV F [.int (xs (Int32.toNatClampNeg (nI i + 1))), .int (xs (Int32.toNatClampNeg (nI i + 2))), .int (xs (Int32.toNatClampNeg (nI i + 3)))] rfl hN mb_X11_mend mv_X11_mend lk_L_144 rfl ⟨Nat.le_of_ble_eq_true rfl, Nat.le_of_ble_eq_true rfl⟩ (Nat.le_of_ble_eq_true rfl) (Nat.le_of_ble_eq_true rfl) rfl (recvRep ho_175 rfl) (Nat.le_of_ble_eq_true rfl) dL_law_1230 (fun r' P hP => ?_)
  exact LwT.icmp_eq (tgt := 1340) F dL_law_1233 (by decide) hP.1 (kk P hP.2)
theorem lc_all (F : LCx G p s m meth c bb Ls xs) (hi : i + 4 ≤ Ls) {M : Mem} (hI : INV M) (kk : ∀ P, INV P → LwT G (Rep G) p e s m below meth c bb 199 3861 1340 [(0, .float 1), (1, .ref 0), (2, .ref 175), (3, .int (nI i))] [] P) : LwT G (Rep G) p e s m below meth c bb 199 3861 1238 [(0, .float 1), (1, .ref 0), (2, .ref 175), (3, .int (nI i))] [] M := by
  obtain ⟨h1, h2, h3⟩ := lc_ix F hi
  refine LwT.aload_n F dL_law_1238 rfl 1 rfl ?_
  refine LwT.aloads F dL_law_1239 rfl 0 rfl ?_
  refine LwT.iload_n F dL_law_1240 rfl 3 rfl ?_
  refine LwT.iconst (v := 1) F dL_law_1241 (by decide) ?_
  refine LwT.iadd F dL_law_1242 ?_
  refine LwT.sald F h1 dL_law_1243 ?_
  refine LwT.aloads F dL_law_1244 rfl 0 rfl ?_
  refine LwT.iload_n F dL_law_1245 rfl 3 rfl ?_
  refine LwT.iconst (v := 2) F dL_law_1246 (by decide) ?_
  refine LwT.iadd F dL_law_1247 ?_
  refine LwT.sald F h2 dL_law_1248 ?_
  refine LwT.callV F [.int (xs (Int32.toNatClampNeg (nI i + 1))), .int (xs (Int32.toNatClampNeg (nI i + 2)))] rfl (s_all hI) mb_X10_all mv_X10_all lk_L_145 rfl ⟨Nat.le_of_ble_eq_true rfl, Nat.le_of_ble_eq_true rfl⟩ (Nat.le_of_ble_eq_true rfl) (Nat.le_of_ble_eq_true rfl) rfl (recvRep ho_0 rfl) (Nat.le_of_ble_eq_true rfl) dL_law_1249 (fun r N hN => ?_)
  refine LwT.aload_n F dL_law_1252 rfl 2 rfl ?_
  refine LwT.aloads F dL_law_1253 rfl 0 rfl ?_
  refine LwT.iload_n F dL_law_1254 rfl 3 rfl ?_
  refine LwT.iconst (v := 1) F dL_law_1255 (by decide) ?_
  refine LwT.iadd F dL_law_1256 ?_
  refine LwT.sald F h1 dL_law_1257 ?_
  refine LwT.aloads F dL_law_1258 rfl 0 rfl ?_
  refine LwT.iload_n F dL_law_1259 rfl 3 rfl ?_
  refine LwT.iconst (v := 2) F dL_law_1260 (by decide) ?_
  refine LwT.iadd F dL_law_1261 ?_
  refine LwT.sald F h2 dL_law_1262 ?_
  refine LwT.callV F [.int (xs (Int32.toNatClampNeg (nI i + 1))), .int (xs (Int32.toNatClampNeg (nI i + 2)))] rfl hN mb_X11_all mv_X11_all lk_L_148 rfl ⟨Nat.le_of_ble_eq_true rfl, Nat.le_of_ble_eq_true rfl⟩ (Nat.le_of_ble_eq_true rfl) (Nat.le_of_ble_eq_true rfl) rfl (recvRep ho_175 rfl) (Nat.le_of_ble_eq_true rfl) dL_law_1263 (fun r' P hP => ?_)
  exact LwT.icmp_eq (tgt := 1340) F dL_law_1266 (by decide) hP.1 (kk P hP.2)
theorem lc_image (F : LCx G p s m meth c bb Ls xs) (hi : i + 4 ≤ Ls) {M : Mem} (hI : INV M) (kk : ∀ P, INV P → LwT G (Rep G) p e s m below meth c bb 199 3861 1340 [(0, .float 1), (1, .ref 0), (2, .ref 175), (3, .int (nI i))] [] P) : LwT G (Rep G) p e s m below meth c bb 199 3861 1271 [(0, .float 1), (1, .ref 0), (2, .ref 175), (3, .int (nI i))] [] M := by
  obtain ⟨h1, h2, h3⟩ := lc_ix F hi
  refine LwT.aload_n F dL_law_1271 rfl 1 rfl ?_
  refine LwT.aloads F dL_law_1272 rfl 0 rfl ?_
  refine LwT.iload_n F dL_law_1273 rfl 3 rfl ?_
  refine LwT.iconst (v := 1) F dL_law_1274 (by decide) ?_
  refine LwT.iadd F dL_law_1275 ?_
  refine LwT.sald F h1 dL_law_1276 ?_
  refine LwT.callV F [.int (xs (Int32.toNatClampNeg (nI i + 1)))] rfl (s_image hI) mb_X10_image mv_X10_image lk_L_149 rfl ⟨Nat.le_of_ble_eq_true rfl, Nat.le_of_ble_eq_true rfl⟩ (Nat.le_of_ble_eq_true rfl) (Nat.le_of_ble_eq_true rfl) rfl (recvRep ho_0 rfl) (Nat.le_of_ble_eq_true rfl) dL_law_1277 (fun r N hN => ?_)
  refine LwT.aload_n F dL_law_1280 rfl 2 rfl ?_
  refine LwT.aloads F dL_law_1281 rfl 0 rfl ?_
  refine LwT.iload_n F dL_law_1282 rfl 3 rfl ?_
  refine LwT.iconst (v := 1) F dL_law_1283 (by decide) ?_
  refine LwT.iadd F dL_law_1284 ?_
  refine LwT.sald F h1 dL_law_1285 ?_
  refine LwT.callV F [.int (xs (Int32.toNatClampNeg (nI i + 1)))] rfl hN mb_X11_image mv_X11_image lk_L_152 rfl ⟨Nat.le_of_ble_eq_true rfl, Nat.le_of_ble_eq_true rfl⟩ (Nat.le_of_ble_eq_true rfl) (Nat.le_of_ble_eq_true rfl) rfl (recvRep ho_175 rfl) (Nat.le_of_ble_eq_true rfl) dL_law_1286 (fun r' P hP => ?_)
  exact LwT.icmp_eq (tgt := 1340) F dL_law_1289 (by decide) hP.1 (kk P hP.2)
theorem lc_restore (F : LCx G p s m meth c bb Ls xs) (hi : i + 4 ≤ Ls) {M : Mem} (hI : INV M) (kk : ∀ P, INV P → LwT G (Rep G) p e s m below meth c bb 199 3861 1340 [(0, .float 1), (1, .ref 0), (2, .ref 175), (3, .int (nI i))] [] P) : LwT G (Rep G) p e s m below meth c bb 199 3861 1294 [(0, .float 1), (1, .ref 0), (2, .ref 175), (3, .int (nI i))] [] M := by
  obtain ⟨h1, h2, h3⟩ := lc_ix F hi
  refine LwT.aload_n F dL_law_1294 rfl 1 rfl ?_
  refine LwT.aloads F dL_law_1295 rfl 0 rfl ?_
  refine LwT.iload_n F dL_law_1296 rfl 3 rfl ?_
  refine LwT.iconst (v := 1) F dL_law_1297 (by decide) ?_
  refine LwT.iadd F dL_law_1298 ?_
  refine LwT.sald F h1 dL_law_1299 ?_
  refine LwT.callV F [.int (xs (Int32.toNatClampNeg (nI i + 1)))] rfl (s_restore hI) mb_X10_restore mv_X10_restore lk_L_153 rfl ⟨Nat.le_of_ble_eq_true rfl, Nat.le_of_ble_eq_true rfl⟩ (Nat.le_of_ble_eq_true rfl) (Nat.le_of_ble_eq_true rfl) rfl (recvRep ho_0 rfl) (Nat.le_of_ble_eq_true rfl) dL_law_1300 (fun r N hN => ?_)
  refine LwT.aload_n F dL_law_1303 rfl 2 rfl ?_
  refine LwT.aloads F dL_law_1304 rfl 0 rfl ?_
  refine LwT.iload_n F dL_law_1305 rfl 3 rfl ?_
  refine LwT.iconst (v := 1) F dL_law_1306 (by decide) ?_
  refine LwT.iadd F dL_law_1307 ?_
  refine LwT.sald F h1 dL_law_1308 ?_
  refine LwT.callV F [.int (xs (Int32.toNatClampNeg (nI i + 1)))] rfl hN mb_X11_restore mv_X11_restore lk_L_156 rfl ⟨Nat.le_of_ble_eq_true rfl, Nat.le_of_ble_eq_true rfl⟩ (Nat.le_of_ble_eq_true rfl) (Nat.le_of_ble_eq_true rfl) rfl (recvRep ho_175 rfl) (Nat.le_of_ble_eq_true rfl) dL_law_1309 (fun r' P hP => ?_)
  exact LwT.icmp_eq (tgt := 1340) F dL_law_1312 (by decide) hP.1 (kk P hP.2)
theorem lc_told (F : LCx G p s m meth c bb Ls xs) (hi : i + 4 ≤ Ls) {M : Mem} (hI : INV M) (kk : ∀ P, INV P → LwT G (Rep G) p e s m below meth c bb 199 3861 1340 [(0, .float 1), (1, .ref 0), (2, .ref 175), (3, .int (nI i))] [] P) : LwT G (Rep G) p e s m below meth c bb 199 3861 1317 [(0, .float 1), (1, .ref 0), (2, .ref 175), (3, .int (nI i))] [] M := by
  obtain ⟨h1, h2, h3⟩ := lc_ix F hi
  refine LwT.aload_n F dL_law_1317 rfl 1 rfl ?_
  refine LwT.aloads F dL_law_1318 rfl 0 rfl ?_
  refine LwT.iload_n F dL_law_1319 rfl 3 rfl ?_
  refine LwT.iconst (v := 1) F dL_law_1320 (by decide) ?_
  refine LwT.iadd F dL_law_1321 ?_
  refine LwT.sald F h1 dL_law_1322 ?_
  refine LwT.callV F [.int (xs (Int32.toNatClampNeg (nI i + 1)))] rfl (s_told hI) mb_X10_told mv_X10_told lk_L_157 rfl ⟨Nat.le_of_ble_eq_true rfl, Nat.le_of_ble_eq_true rfl⟩ (Nat.le_of_ble_eq_true rfl) (Nat.le_of_ble_eq_true rfl) rfl (recvRep ho_0 rfl) (Nat.le_of_ble_eq_true rfl) dL_law_1323 (fun r N hN => ?_)
  refine LwT.aload_n F dL_law_1326 rfl 2 rfl ?_
  refine LwT.aloads F dL_law_1327 rfl 0 rfl ?_
  refine LwT.iload_n F dL_law_1328 rfl 3 rfl ?_
  refine LwT.iconst (v := 1) F dL_law_1329 (by decide) ?_
  refine LwT.iadd F dL_law_1330 ?_
  refine LwT.sald F h1 dL_law_1331 ?_
  refine LwT.callV F [.int (xs (Int32.toNatClampNeg (nI i + 1)))] rfl hN mb_X11_told mv_X11_told lk_L_160 rfl ⟨Nat.le_of_ble_eq_true rfl, Nat.le_of_ble_eq_true rfl⟩ (Nat.le_of_ble_eq_true rfl) (Nat.le_of_ble_eq_true rfl) rfl (recvRep ho_175 rfl) (Nat.le_of_ble_eq_true rfl) dL_law_1332 (fun r' P hP => ?_)
  exact LwT.icmp_eq (tgt := 1340) F dL_law_1335 (by decide) hP.1 (kk P hP.2)
end CASES
