set_option maxRecDepth 100000 in
set_option maxHeartbeats 4000000 in
/-- addBasin -/
theorem case_0 {z : Zx} {g : Gx} {tb : List ExceptionTableEntry} {mc ms n k b L i : Nat} {xs : Nat → Int32} {ad0 ad : Nm} {μ0 : Ce} {ok : OkT} {ex : String → Prop} {σ : Sg} {o : Int64 × UInt64} (K : Kn g z cL_law 9 yL_law (some .boolean) tb 12 mc ms ad0 μ0 ok ex) (hl : (gl g).stackTraces = false) (X : Scr z g b L xs) (hL : L ≤ 4000) (hi : i + 6 ≤ L) (Q : IR σ) (C : ICo σ) (M : IMo σ) (hn : n + 20 ≤ mc) (hk : k + 400 ≤ ms) (kk : ∀ ad' ρ o', IR ρ → ICo ρ → IMo ρ → WW g z 9 (n + 20) (k + 400) ad' (Wz z ad' ρ ρ o') 2423 [(0, .ref b), (1, .ref (ad' 0 0)), (2, .ref (ad' 20 0)), (3, .ref (ad' 19 0)), (4, .ref (ad' 19 1)), (5, .int (nI i))] []) : WW g z 9 n k ad (Wz z ad σ σ o) 228 [(0, .ref b), (1, .ref (ad 0 0)), (2, .ref (ad 20 0)), (3, .ref (ad 19 0)), (4, .ref (ad 19 1)), (5, .int (nI i))] [] := by
  show WW g z 9 n k ad (Wz z ad σ σ o) 228 [(0, .ref b), (1, .ref (ad 0 0)), (2, .ref (ad 20 0)), (3, .ref (ad 19 0)), (4, .ref (ad 19 1)), (5, .int (nI i))] []
  refine r_aload_n K dL_law_228 1 rfl rfl ?_
  refine r_aload_n K dL_law_229 0 rfl rfl ?_
  refine r_iload K dL_law_230 5 rfl ?_
  refine r_iconst (v := nI 1) K dL_law_232 (by decide) ?_
  refine r_iadd (v := nI (i + 1)) K dL_law_233 (nI_add _ _) ?_
  refine r_sld (j := i + 1) K X rfl (by omega) (by omega) dL_law_234 ?_
  refine r_aload_n K dL_law_235 0 rfl rfl ?_
  refine r_iload K dL_law_236 5 rfl ?_
  refine r_iconst (v := nI 2) K dL_law_238 (by decide) ?_
  refine r_iadd (v := nI (i + 2)) K dL_law_239 (nI_add _ _) ?_
  refine r_sld (j := i + 2) K X rfl (by omega) (by omega) dL_law_240 ?_
  refine r_aload_n K dL_law_241 0 rfl rfl ?_
  refine r_iload K dL_law_242 5 rfl ?_
  refine r_iconst (v := nI 3) K dL_law_244 (by decide) ?_
  refine r_iadd (v := nI (i + 3)) K dL_law_245 (nI_add _ _) ?_
  refine r_sld (j := i + 3) K X rfl (by omega) (by omega) dL_law_246 ?_
  refine r_aload_n K dL_law_247 0 rfl rfl ?_
  refine r_iload K dL_law_248 5 rfl ?_
  refine r_iconst (v := nI 4) K dL_law_250 (by decide) ?_
  refine r_iadd (v := nI (i + 4)) K dL_law_251 (nI_add _ _) ?_
  refine r_sld (j := i + 4) K X rfl (by omega) (by omega) dL_law_252 ?_
  refine r_aload_n K dL_law_253 0 rfl rfl ?_
  refine r_iload K dL_law_254 5 rfl ?_
  refine r_iconst (v := nI 5) K dL_law_256 (by decide) ?_
  refine r_iadd (v := nI (i + 5)) K dL_law_257 (nI_add _ _) ?_
  refine r_sld (j := i + 5) K X rfl (by omega) (by omega) dL_law_258 ?_
  refine r_aload_n K dL_law_259 3 rfl rfl ?_
  refine r_callSH (st := []) K (k_L_addBasin (σ := σ) (τ := σ) (o := o) hl Q C) wd_325 wd_47 wd_327 wd_326 ⟨by decide, by decide, (by decide +kernel : (parseMethodDescriptor yL_addBasin.desc).map (fun d => d.parameters.length) = some 7)⟩ (by decide) (by decide) rfl (Nat.le_of_ble_eq_true rfl) (by omega) (by omega) dL_law_260 ?_
  rintro _ ad1 _ ⟨rfl, hK1, σ1, o1, rfl, hA1, hC1, hv1⟩
  refine r_eq (lv' := [(0, .ref b), (1, .ref (ad1 0 0)), (2, .ref (ad1 20 0)), (3, .ref (ad1 19 0)), (4, .ref (ad1 19 1)), (5, .int (nI i))]) rfl rfl (by rw [hK1.1, hK1.2.1, hK1.2.2.1, hK1.2.2.2]) rfl ?_
  show WW g z 9 (n + 10) (k + 201) ad1 (Wz z ad1 σ1 σ o1) 263 [(0, .ref b), (1, .ref (ad1 0 0)), (2, .ref (ad1 20 0)), (3, .ref (ad1 19 0)), (4, .ref (ad1 19 1)), (5, .int (nI i))] [.int (nI (cAB σ (xs (i + 1)) (xs (i + 2)) (xs (i + 3)) (xs (i + 4)) (xs (i + 5))))]
  refine r_istore (lv' := [(6, .int (nI (cAB σ (xs (i + 1)) (xs (i + 2)) (xs (i + 3)) (xs (i + 4)) (xs (i + 5))))), (0, .ref b), (1, .ref (ad1 0 0)), (2, .ref (ad1 20 0)), (3, .ref (ad1 19 0)), (4, .ref (ad1 19 1)), (5, .int (nI i))]) K dL_law_263 (by decide) rfl ?_
  refine r_aload_n K dL_law_265 3 rfl rfl ?_
  refine r_aload_n K dL_law_266 1 rfl rfl ?_
  refine r_iload K dL_law_267 6 rfl ?_
  refine r_iconst (v := nI 1) K dL_law_269 (by decide) ?_
  refine r_iadd (v := nI (i + 1)) K dL_law_270 (nI_add _ _) ?_
  refine r_sld (j := i + 1) K X rfl (by omega) (by omega) dL_law_271 ?_
  refine r_aload_n K dL_law_272 1 rfl rfl ?_
  refine r_iload K dL_law_273 6 rfl ?_
  refine r_iconst (v := nI 2) K dL_law_275 (by decide) ?_
  refine r_iadd (v := nI (i + 2)) K dL_law_276 (nI_add _ _) ?_
  refine r_sld (j := i + 2) K X rfl (by omega) (by omega) dL_law_277 ?_
  refine r_aload_n K dL_law_278 1 rfl rfl ?_
  refine r_iload K dL_law_279 6 rfl ?_
  refine r_iconst (v := nI 3) K dL_law_281 (by decide) ?_
  refine r_iadd (v := nI (i + 3)) K dL_law_282 (nI_add _ _) ?_
  refine r_sld (j := i + 3) K X rfl (by omega) (by omega) dL_law_283 ?_
  refine r_aload_n K dL_law_284 1 rfl rfl ?_
  refine r_iload K dL_law_285 6 rfl ?_
  refine r_iconst (v := nI 4) K dL_law_287 (by decide) ?_
  refine r_iadd (v := nI (i + 4)) K dL_law_288 (nI_add _ _) ?_
  refine r_sld (j := i + 4) K X rfl (by omega) (by omega) dL_law_289 ?_
  refine r_aload_n K dL_law_290 1 rfl rfl ?_
  refine r_iload K dL_law_291 6 rfl ?_
  refine r_iconst (v := nI 5) K dL_law_293 (by decide) ?_
  refine r_iadd (v := nI (i + 5)) K dL_law_294 (nI_add _ _) ?_
  refine r_sld (j := i + 5) K X rfl (by omega) (by omega) dL_law_295 ?_
  refine r_callV (st := []) K (k_X6_addBasin (σ := σ1) (τ := σ) (o := o1) hl Q M) cw_L_133 wd_1426 wd_1427 (by decide) (by decide) rfl rfl rfl rfl (Nat.le_of_ble_eq_true rfl) (by omega) (by omega) dL_law_296 ?_
  rintro _ _ _ ⟨x1, rfl, hx1, rfl, τ2, rfl, hA2, hM2, h72⟩
  show WW g z 9 (n + 10) (k + 201) ad1 (Wz z ad1 σ1 τ2 o1) 299 [(6, .int (nI (cAB σ (xs (i + 1)) (xs (i + 2)) (xs (i + 3)) (xs (i + 4)) (xs (i + 5))))), (0, .ref b), (1, .ref (ad1 0 0)), (2, .ref (ad1 20 0)), (3, .ref (ad1 19 0)), (4, .ref (ad1 19 1)), (5, .int (nI i))] [.int (x1)]
  refine r_istore (lv' := [(7, .int (x1)), (6, .int (nI (cAB σ (xs (i + 1)) (xs (i + 2)) (xs (i + 3)) (xs (i + 4)) (xs (i + 5))))), (0, .ref b), (1, .ref (ad1 0 0)), (2, .ref (ad1 20 0)), (3, .ref (ad1 19 0)), (4, .ref (ad1 19 1)), (5, .int (nI i))]) K dL_law_299 (by decide) rfl ?_
  refine r_aload_n K dL_law_301 4 rfl rfl ?_
  refine r_callV (st := []) K (k_X6_thrown (σ := σ1) (τ := τ2) (o := o1) hl) cw_L_134 wd_1422 wd_1423 (by decide) (by decide) rfl rfl rfl rfl (Nat.le_of_ble_eq_true rfl) (by omega) (by omega) dL_law_302 ?_
  rintro _ _ _ ⟨rfl, rfl, rfl⟩
  refine r_eq (st' := [.int (nI (cAB σ (xs (i + 1)) (xs (i + 2)) (xs (i + 3)) (xs (i + 4)) (xs (i + 5))))]) rfl rfl rfl (by rw [h72]; rfl) ?_
  show WW g z 9 (n + 10) (k + 201) ad1 (Wz z ad1 σ1 τ2 o1) 305 [(7, .int (x1)), (6, .int (nI (cAB σ (xs (i + 1)) (xs (i + 2)) (xs (i + 3)) (xs (i + 4)) (xs (i + 5))))), (0, .ref b), (1, .ref (ad1 0 0)), (2, .ref (ad1 20 0)), (3, .ref (ad1 19 0)), (4, .ref (ad1 19 1)), (5, .int (nI i))] [.int (nI (cAB σ (xs (i + 1)) (xs (i + 2)) (xs (i + 3)) (xs (i + 4)) (xs (i + 5))))]
  refine r_iload K dL_law_305 1 rfl ?_
  refine r_icmp_eq K dL_law_307 312 True (iff_of_true rfl trivial) (by decide) (fun _ => ?_) (fun c => absurd trivial c)
  refine r_iload K dL_law_312 1 rfl ?_
  have hcd : (cAB σ (xs (i + 1)) (xs (i + 2)) (xs (i + 3)) (xs (i + 4)) (xs (i + 5))) < 2 ^ 31 := by unfold cAB; (repeat' split) <;> decide
  refine r_if_ne K dL_law_314 329 ((cAB σ (xs (i + 1)) (xs (i + 2)) (xs (i + 3)) (xs (i + 4)) (xs (i + 5))) = 0) (n0_eq hcd) (by decide) (fun c_314 => ?_) (fun c_314 => ?_)
  · skip
    refine r_goto K dL_law_329 2423 (by decide) ?_
    have hG : IR (if (cAB σ (xs (i + 1)) (xs (i + 2)) (xs (i + 3)) (xs (i + 4)) (xs (i + 5))) = 0 then fBasin σ (xs (i + 1)) (xs (i + 2)) (xs (i + 3)) (xs (i + 4)) (xs (i + 5)) else σ) := by by_cases h0 : (cAB σ (xs (i + 1)) (xs (i + 2)) (xs (i + 3)) (xs (i + 4)) (xs (i + 5))) = 0; (rw [if_pos h0]; exact ir_basin Q h0); (rw [if_neg h0]; exact Q)
    obtain ⟨ρ, hW, hQ3, hC3, hM3⟩ := mg_all (z := z) (ad := ad1) (o := o1) hG hA1 hA2 hC1 hM2
    refine r_mu hW ?_
    refine r_lv (lv' := [(0, .ref b), (1, .ref (ad1 0 0)), (2, .ref (ad1 20 0)), (3, .ref (ad1 19 0)), (4, .ref (ad1 19 1)), (5, .int (nI i))]) [2, 3, 4, 5, 6, 7] rfl ?_
    exact r_wide (by omega) (by omega) (kk ad1 ρ o1 hQ3 hC3 hM3)
  · skip
    refine r_aload_n K dL_law_317 5 rfl rfl ?_
    refine r_iconst (v := nI 0) K dL_law_318 (by decide) ?_
    refine r_lald (j := 0) (v := o1.1) K rfl rfl rfl (by decide) (by decide) rfl dL_law_319 ?_
    refine r_iload K dL_law_320 0 rfl ?_
    refine r_i2l (v := ((x1).toInt64)) K dL_law_322 rfl ?_
    refine r_lcmpE K (by rw [hv1 c_314, hx1 c_314]) dL_law_323 ?_
    refine r_if_eq K dL_law_324 329 (0 = 0) (n0_eq (by omega)) (by decide) (fun c_324 => ?_) (fun c_324 => ?_)
    · skip
      refine r_goto K dL_law_329 2423 (by decide) ?_
      have hG : IR (if (cAB σ (xs (i + 1)) (xs (i + 2)) (xs (i + 3)) (xs (i + 4)) (xs (i + 5))) = 0 then fBasin σ (xs (i + 1)) (xs (i + 2)) (xs (i + 3)) (xs (i + 4)) (xs (i + 5)) else σ) := by by_cases h0 : (cAB σ (xs (i + 1)) (xs (i + 2)) (xs (i + 3)) (xs (i + 4)) (xs (i + 5))) = 0; (rw [if_pos h0]; exact ir_basin Q h0); (rw [if_neg h0]; exact Q)
      obtain ⟨ρ, hW, hQ3, hC3, hM3⟩ := mg_all (z := z) (ad := ad1) (o := o1) hG hA1 hA2 hC1 hM2
      refine r_mu hW ?_
      refine r_lv (lv' := [(0, .ref b), (1, .ref (ad1 0 0)), (2, .ref (ad1 20 0)), (3, .ref (ad1 19 0)), (4, .ref (ad1 19 1)), (5, .int (nI i))]) [2, 3, 4, 5, 6, 7] rfl ?_
      exact r_wide (by omega) (by omega) (kk ad1 ρ o1 hQ3 hC3 hM3)
    · skip
      exfalso; omega
set_option maxRecDepth 100000 in
set_option maxHeartbeats 4000000 in
/-- addCell -/
theorem case_1 {z : Zx} {g : Gx} {tb : List ExceptionTableEntry} {mc ms n k b L i : Nat} {xs : Nat → Int32} {ad0 ad : Nm} {μ0 : Ce} {ok : OkT} {ex : String → Prop} {σ : Sg} {o : Int64 × UInt64} (K : Kn g z cL_law 9 yL_law (some .boolean) tb 12 mc ms ad0 μ0 ok ex) (hl : (gl g).stackTraces = false) (X : Scr z g b L xs) (hL : L ≤ 4000) (hi : i + 6 ≤ L) (Q : IR σ) (C : ICo σ) (M : IMo σ) (hn : n + 20 ≤ mc) (hk : k + 400 ≤ ms) (kk : ∀ ad' ρ o', IR ρ → ICo ρ → IMo ρ → WW g z 9 (n + 20) (k + 400) ad' (Wz z ad' ρ ρ o') 2423 [(0, .ref b), (1, .ref (ad' 0 0)), (2, .ref (ad' 20 0)), (3, .ref (ad' 19 0)), (4, .ref (ad' 19 1)), (5, .int (nI i))] []) : WW g z 9 n k ad (Wz z ad σ σ o) 332 [(0, .ref b), (1, .ref (ad 0 0)), (2, .ref (ad 20 0)), (3, .ref (ad 19 0)), (4, .ref (ad 19 1)), (5, .int (nI i))] [] := by
  show WW g z 9 n k ad (Wz z ad σ σ o) 332 [(0, .ref b), (1, .ref (ad 0 0)), (2, .ref (ad 20 0)), (3, .ref (ad 19 0)), (4, .ref (ad 19 1)), (5, .int (nI i))] []
  refine r_aload_n K dL_law_332 1 rfl rfl ?_
  refine r_aload_n K dL_law_333 0 rfl rfl ?_
  refine r_iload K dL_law_334 5 rfl ?_
  refine r_iconst (v := nI 1) K dL_law_336 (by decide) ?_
  refine r_iadd (v := nI (i + 1)) K dL_law_337 (nI_add _ _) ?_
  refine r_sld (j := i + 1) K X rfl (by omega) (by omega) dL_law_338 ?_
  refine r_aload_n K dL_law_339 0 rfl rfl ?_
  refine r_iload K dL_law_340 5 rfl ?_
  refine r_iconst (v := nI 2) K dL_law_342 (by decide) ?_
  refine r_iadd (v := nI (i + 2)) K dL_law_343 (nI_add _ _) ?_
  refine r_sld (j := i + 2) K X rfl (by omega) (by omega) dL_law_344 ?_
  refine r_aload_n K dL_law_345 3 rfl rfl ?_
  refine r_callSH (st := []) K (k_L_addCell (σ := σ) (τ := σ) (o := o) hl Q C) wd_594 wd_47 wd_596 wd_595 ⟨by decide, by decide, (by decide +kernel : (parseMethodDescriptor yL_addCell.desc).map (fun d => d.parameters.length) = some 4)⟩ (by decide) (by decide) rfl (Nat.le_of_ble_eq_true rfl) (by omega) (by omega) dL_law_346 ?_
  rintro _ ad1 _ ⟨rfl, hK1, σ1, o1, rfl, hA1, hC1, hv1⟩
  refine r_eq (lv' := [(0, .ref b), (1, .ref (ad1 0 0)), (2, .ref (ad1 20 0)), (3, .ref (ad1 19 0)), (4, .ref (ad1 19 1)), (5, .int (nI i))]) rfl rfl (by rw [hK1.1, hK1.2.1, hK1.2.2.1, hK1.2.2.2]) rfl ?_
  show WW g z 9 (n + 3) (k + 18) ad1 (Wz z ad1 σ1 σ o1) 349 [(0, .ref b), (1, .ref (ad1 0 0)), (2, .ref (ad1 20 0)), (3, .ref (ad1 19 0)), (4, .ref (ad1 19 1)), (5, .int (nI i))] [.int (nI (cAC σ (xs (i + 1)) (xs (i + 2))))]
  refine r_istore (lv' := [(6, .int (nI (cAC σ (xs (i + 1)) (xs (i + 2))))), (0, .ref b), (1, .ref (ad1 0 0)), (2, .ref (ad1 20 0)), (3, .ref (ad1 19 0)), (4, .ref (ad1 19 1)), (5, .int (nI i))]) K dL_law_349 (by decide) rfl ?_
  refine r_aload_n K dL_law_351 3 rfl rfl ?_
  refine r_aload_n K dL_law_352 1 rfl rfl ?_
  refine r_iload K dL_law_353 6 rfl ?_
  refine r_iconst (v := nI 1) K dL_law_355 (by decide) ?_
  refine r_iadd (v := nI (i + 1)) K dL_law_356 (nI_add _ _) ?_
  refine r_sld (j := i + 1) K X rfl (by omega) (by omega) dL_law_357 ?_
  refine r_aload_n K dL_law_358 1 rfl rfl ?_
  refine r_iload K dL_law_359 6 rfl ?_
  refine r_iconst (v := nI 2) K dL_law_361 (by decide) ?_
  refine r_iadd (v := nI (i + 2)) K dL_law_362 (nI_add _ _) ?_
  refine r_sld (j := i + 2) K X rfl (by omega) (by omega) dL_law_363 ?_
  refine r_callV (st := []) K (k_X6_addCell (σ := σ1) (τ := σ) (o := o1) hl Q M) cw_L_141 wd_1441 wd_1442 (by decide) (by decide) rfl rfl rfl rfl (Nat.le_of_ble_eq_true rfl) (by omega) (by omega) dL_law_364 ?_
  rintro _ _ _ ⟨x1, rfl, hx1, rfl, τ2, rfl, hA2, hM2, h72⟩
  show WW g z 9 (n + 3) (k + 18) ad1 (Wz z ad1 σ1 τ2 o1) 367 [(6, .int (nI (cAC σ (xs (i + 1)) (xs (i + 2))))), (0, .ref b), (1, .ref (ad1 0 0)), (2, .ref (ad1 20 0)), (3, .ref (ad1 19 0)), (4, .ref (ad1 19 1)), (5, .int (nI i))] [.int (x1)]
  refine r_istore (lv' := [(7, .int (x1)), (6, .int (nI (cAC σ (xs (i + 1)) (xs (i + 2))))), (0, .ref b), (1, .ref (ad1 0 0)), (2, .ref (ad1 20 0)), (3, .ref (ad1 19 0)), (4, .ref (ad1 19 1)), (5, .int (nI i))]) K dL_law_367 (by decide) rfl ?_
  refine r_aload_n K dL_law_369 4 rfl rfl ?_
  refine r_callV (st := []) K (k_X6_thrown (σ := σ1) (τ := τ2) (o := o1) hl) cw_L_134 wd_1422 wd_1423 (by decide) (by decide) rfl rfl rfl rfl (Nat.le_of_ble_eq_true rfl) (by omega) (by omega) dL_law_370 ?_
  rintro _ _ _ ⟨rfl, rfl, rfl⟩
  refine r_eq (st' := [.int (nI (cAC σ (xs (i + 1)) (xs (i + 2))))]) rfl rfl rfl (by rw [h72]; rfl) ?_
  show WW g z 9 (n + 3) (k + 18) ad1 (Wz z ad1 σ1 τ2 o1) 373 [(7, .int (x1)), (6, .int (nI (cAC σ (xs (i + 1)) (xs (i + 2))))), (0, .ref b), (1, .ref (ad1 0 0)), (2, .ref (ad1 20 0)), (3, .ref (ad1 19 0)), (4, .ref (ad1 19 1)), (5, .int (nI i))] [.int (nI (cAC σ (xs (i + 1)) (xs (i + 2))))]
  refine r_iload K dL_law_373 1 rfl ?_
  refine r_icmp_eq K dL_law_375 380 True (iff_of_true rfl trivial) (by decide) (fun _ => ?_) (fun c => absurd trivial c)
  refine r_iload K dL_law_380 1 rfl ?_
  have hcd : (cAC σ (xs (i + 1)) (xs (i + 2))) < 2 ^ 31 := by unfold cAC; (repeat' split) <;> decide
  refine r_if_ne K dL_law_382 397 ((cAC σ (xs (i + 1)) (xs (i + 2))) = 0) (n0_eq hcd) (by decide) (fun c_382 => ?_) (fun c_382 => ?_)
  · skip
    refine r_goto K dL_law_397 2423 (by decide) ?_
    have hG : IR (if (cAC σ (xs (i + 1)) (xs (i + 2))) = 0 then fCell σ (xs (i + 1)) (xs (i + 2)) else σ) := by by_cases h0 : (cAC σ (xs (i + 1)) (xs (i + 2))) = 0; (rw [if_pos h0]; exact ir_cell Q h0); (rw [if_neg h0]; exact Q)
    obtain ⟨ρ, hW, hQ3, hC3, hM3⟩ := mg_all (z := z) (ad := ad1) (o := o1) hG hA1 hA2 hC1 hM2
    refine r_mu hW ?_
    refine r_lv (lv' := [(0, .ref b), (1, .ref (ad1 0 0)), (2, .ref (ad1 20 0)), (3, .ref (ad1 19 0)), (4, .ref (ad1 19 1)), (5, .int (nI i))]) [2, 3, 4, 5, 6, 7] rfl ?_
    exact r_wide (by omega) (by omega) (kk ad1 ρ o1 hQ3 hC3 hM3)
  · skip
    refine r_aload_n K dL_law_385 5 rfl rfl ?_
    refine r_iconst (v := nI 0) K dL_law_386 (by decide) ?_
    refine r_lald (j := 0) (v := o1.1) K rfl rfl rfl (by decide) (by decide) rfl dL_law_387 ?_
    refine r_iload K dL_law_388 0 rfl ?_
    refine r_i2l (v := ((x1).toInt64)) K dL_law_390 rfl ?_
    refine r_lcmpE K (by rw [hv1 c_382, hx1 c_382]) dL_law_391 ?_
    refine r_if_eq K dL_law_392 397 (0 = 0) (n0_eq (by omega)) (by decide) (fun c_392 => ?_) (fun c_392 => ?_)
    · skip
      refine r_goto K dL_law_397 2423 (by decide) ?_
      have hG : IR (if (cAC σ (xs (i + 1)) (xs (i + 2))) = 0 then fCell σ (xs (i + 1)) (xs (i + 2)) else σ) := by by_cases h0 : (cAC σ (xs (i + 1)) (xs (i + 2))) = 0; (rw [if_pos h0]; exact ir_cell Q h0); (rw [if_neg h0]; exact Q)
      obtain ⟨ρ, hW, hQ3, hC3, hM3⟩ := mg_all (z := z) (ad := ad1) (o := o1) hG hA1 hA2 hC1 hM2
      refine r_mu hW ?_
      refine r_lv (lv' := [(0, .ref b), (1, .ref (ad1 0 0)), (2, .ref (ad1 20 0)), (3, .ref (ad1 19 0)), (4, .ref (ad1 19 1)), (5, .int (nI i))]) [2, 3, 4, 5, 6, 7] rfl ?_
      exact r_wide (by omega) (by omega) (kk ad1 ρ o1 hQ3 hC3 hM3)
    · skip
      exfalso; omega
set_option maxRecDepth 100000 in
set_option maxHeartbeats 4000000 in
/-- basinCount -/
theorem case_2 {z : Zx} {g : Gx} {tb : List ExceptionTableEntry} {mc ms n k b L i : Nat} {xs : Nat → Int32} {ad0 ad : Nm} {μ0 : Ce} {ok : OkT} {ex : String → Prop} {σ : Sg} {o : Int64 × UInt64} (K : Kn g z cL_law 9 yL_law (some .boolean) tb 12 mc ms ad0 μ0 ok ex) (hl : (gl g).stackTraces = false) (X : Scr z g b L xs) (hL : L ≤ 4000) (hi : i + 6 ≤ L) (Q : IR σ) (C : ICo σ) (M : IMo σ) (hn : n + 20 ≤ mc) (hk : k + 400 ≤ ms) (kk : ∀ ad' ρ o', IR ρ → ICo ρ → IMo ρ → WW g z 9 (n + 20) (k + 400) ad' (Wz z ad' ρ ρ o') 2423 [(0, .ref b), (1, .ref (ad' 0 0)), (2, .ref (ad' 20 0)), (3, .ref (ad' 19 0)), (4, .ref (ad' 19 1)), (5, .int (nI i))] []) : WW g z 9 n k ad (Wz z ad σ σ o) 400 [(0, .ref b), (1, .ref (ad 0 0)), (2, .ref (ad 20 0)), (3, .ref (ad 19 0)), (4, .ref (ad 19 1)), (5, .int (nI i))] [] := by
  show WW g z 9 n k ad (Wz z ad σ σ o) 400 [(0, .ref b), (1, .ref (ad 0 0)), (2, .ref (ad 20 0)), (3, .ref (ad 19 0)), (4, .ref (ad 19 1)), (5, .int (nI i))] []
  refine r_aload_n K dL_law_400 1 rfl rfl ?_
  refine r_callV (st := []) K (k_X5_basinCount (σ := σ) (τ := σ) (o := o) hl Q C) cw_L_142 wd_202 wd_203 (by decide) (by decide) rfl rfl rfl rfl (Nat.le_of_ble_eq_true rfl) (by omega) (by omega) dL_law_401 ?_
  rintro _ ad1 _ ⟨-, rfl, hK1, σ1, rfl, hA1, hC1⟩
  refine r_eq (lv' := [(0, .ref b), (1, .ref (ad1 0 0)), (2, .ref (ad1 20 0)), (3, .ref (ad1 19 0)), (4, .ref (ad1 19 1)), (5, .int (nI i))]) rfl rfl (by rw [hK1.1, hK1.2.1, hK1.2.2.1, hK1.2.2.2]) rfl ?_
  show WW g z 9 n k ad1 (Wz z ad1 σ1 σ o) 404 [(0, .ref b), (1, .ref (ad1 0 0)), (2, .ref (ad1 20 0)), (3, .ref (ad1 19 0)), (4, .ref (ad1 19 1)), (5, .int (nI i))] [.int (nI (σ 0 0 0))]
  refine r_aload_n K dL_law_404 2 rfl rfl ?_
  refine r_callV (st := [.int (nI (σ 0 0 0))]) K (k_X6_basinCount (σ := σ1) (τ := σ) (o := o) hl Q M) cw_L_145 wd_1445 wd_1446 (by decide) (by decide) rfl rfl rfl rfl (Nat.le_of_ble_eq_true rfl) (by omega) (by omega) dL_law_405 ?_
  rintro _ _ _ ⟨x1, rfl, hx1, rfl, τ2, rfl, hA2, hM2, h72⟩
  show WW g z 9 n k ad1 (Wz z ad1 σ1 τ2 o) 408 [(0, .ref b), (1, .ref (ad1 0 0)), (2, .ref (ad1 20 0)), (3, .ref (ad1 19 0)), (4, .ref (ad1 19 1)), (5, .int (nI i))] [.int (x1), .int (nI (σ 0 0 0))]
  refine r_icmp_eq K dL_law_408 2423 True (iff_of_true (hx1 rfl).symm trivial) (by decide) (fun _ => ?_) (fun c => absurd trivial c)
  have hG : IR σ := Q
  obtain ⟨ρ, hW, hQ3, hC3, hM3⟩ := mg_all (z := z) (ad := ad1) (o := o) hG hA1 hA2 hC1 hM2
  refine r_mu hW ?_
  refine r_lv (lv' := [(0, .ref b), (1, .ref (ad1 0 0)), (2, .ref (ad1 20 0)), (3, .ref (ad1 19 0)), (4, .ref (ad1 19 1)), (5, .int (nI i))]) [0, 1, 2, 3, 4, 5] rfl ?_
  exact r_wide (by omega) (by omega) (kk ad1 ρ o hQ3 hC3 hM3)
set_option maxRecDepth 100000 in
set_option maxHeartbeats 4000000 in
/-- cellCount -/
theorem case_3 {z : Zx} {g : Gx} {tb : List ExceptionTableEntry} {mc ms n k b L i : Nat} {xs : Nat → Int32} {ad0 ad : Nm} {μ0 : Ce} {ok : OkT} {ex : String → Prop} {σ : Sg} {o : Int64 × UInt64} (K : Kn g z cL_law 9 yL_law (some .boolean) tb 12 mc ms ad0 μ0 ok ex) (hl : (gl g).stackTraces = false) (X : Scr z g b L xs) (hL : L ≤ 4000) (hi : i + 6 ≤ L) (Q : IR σ) (C : ICo σ) (M : IMo σ) (hn : n + 20 ≤ mc) (hk : k + 400 ≤ ms) (kk : ∀ ad' ρ o', IR ρ → ICo ρ → IMo ρ → WW g z 9 (n + 20) (k + 400) ad' (Wz z ad' ρ ρ o') 2423 [(0, .ref b), (1, .ref (ad' 0 0)), (2, .ref (ad' 20 0)), (3, .ref (ad' 19 0)), (4, .ref (ad' 19 1)), (5, .int (nI i))] []) : WW g z 9 n k ad (Wz z ad σ σ o) 413 [(0, .ref b), (1, .ref (ad 0 0)), (2, .ref (ad 20 0)), (3, .ref (ad 19 0)), (4, .ref (ad 19 1)), (5, .int (nI i))] [] := by
  show WW g z 9 n k ad (Wz z ad σ σ o) 413 [(0, .ref b), (1, .ref (ad 0 0)), (2, .ref (ad 20 0)), (3, .ref (ad 19 0)), (4, .ref (ad 19 1)), (5, .int (nI i))] []
  refine r_aload_n K dL_law_413 1 rfl rfl ?_
  refine r_aload_n K dL_law_414 0 rfl rfl ?_
  refine r_iload K dL_law_415 5 rfl ?_
  refine r_iconst (v := nI 1) K dL_law_417 (by decide) ?_
  refine r_iadd (v := nI (i + 1)) K dL_law_418 (nI_add _ _) ?_
  refine r_sld (j := i + 1) K X rfl (by omega) (by omega) dL_law_419 ?_
  refine r_aload_n K dL_law_420 3 rfl rfl ?_
  refine r_callSH (st := []) K (k_L_cellCount (σ := σ) (τ := σ) (o := o) hl Q C) wd_624 wd_47 wd_626 wd_625 ⟨by decide, by decide, (by decide +kernel : (parseMethodDescriptor yL_cellCount.desc).map (fun d => d.parameters.length) = some 3)⟩ (by decide) (by decide) rfl (Nat.le_of_ble_eq_true rfl) (by omega) (by omega) dL_law_421 ?_
  rintro _ ad1 _ ⟨rfl, hK1, σ1, o1, rfl, hA1, hC1, hv1⟩
  rw [ite_sg] at hA1
  refine r_eq (lv' := [(0, .ref b), (1, .ref (ad1 0 0)), (2, .ref (ad1 20 0)), (3, .ref (ad1 19 0)), (4, .ref (ad1 19 1)), (5, .int (nI i))]) rfl rfl (by rw [hK1.1, hK1.2.1, hK1.2.2.1, hK1.2.2.2]) rfl ?_
  show WW g z 9 (n + 1) (k + 6) ad1 (Wz z ad1 σ1 σ o1) 424 [(0, .ref b), (1, .ref (ad1 0 0)), (2, .ref (ad1 20 0)), (3, .ref (ad1 19 0)), (4, .ref (ad1 19 1)), (5, .int (nI i))] [.int (nI (cB σ (xs (i + 1))))]
  refine r_istore (lv' := [(6, .int (nI (cB σ (xs (i + 1))))), (0, .ref b), (1, .ref (ad1 0 0)), (2, .ref (ad1 20 0)), (3, .ref (ad1 19 0)), (4, .ref (ad1 19 1)), (5, .int (nI i))]) K dL_law_424 (by decide) rfl ?_
  refine r_aload_n K dL_law_426 3 rfl rfl ?_
  refine r_aload_n K dL_law_427 1 rfl rfl ?_
  refine r_iload K dL_law_428 6 rfl ?_
  refine r_iconst (v := nI 1) K dL_law_430 (by decide) ?_
  refine r_iadd (v := nI (i + 1)) K dL_law_431 (nI_add _ _) ?_
  refine r_sld (j := i + 1) K X rfl (by omega) (by omega) dL_law_432 ?_
  refine r_callV (st := []) K (k_X6_cellCount (σ := σ1) (τ := σ) (o := o1) hl Q M) cw_L_149 wd_1453 wd_1454 (by decide) (by decide) rfl rfl rfl rfl (Nat.le_of_ble_eq_true rfl) (by omega) (by omega) dL_law_433 ?_
  rintro _ _ _ ⟨x1, rfl, hx1, rfl, τ2, rfl, hA2, hM2, h72⟩
  show WW g z 9 (n + 1) (k + 6) ad1 (Wz z ad1 σ1 τ2 o1) 436 [(6, .int (nI (cB σ (xs (i + 1))))), (0, .ref b), (1, .ref (ad1 0 0)), (2, .ref (ad1 20 0)), (3, .ref (ad1 19 0)), (4, .ref (ad1 19 1)), (5, .int (nI i))] [.int (x1)]
  refine r_istore (lv' := [(7, .int (x1)), (6, .int (nI (cB σ (xs (i + 1))))), (0, .ref b), (1, .ref (ad1 0 0)), (2, .ref (ad1 20 0)), (3, .ref (ad1 19 0)), (4, .ref (ad1 19 1)), (5, .int (nI i))]) K dL_law_436 (by decide) rfl ?_
  refine r_aload_n K dL_law_438 4 rfl rfl ?_
  refine r_callV (st := []) K (k_X6_thrown (σ := σ1) (τ := τ2) (o := o1) hl) cw_L_134 wd_1422 wd_1423 (by decide) (by decide) rfl rfl rfl rfl (Nat.le_of_ble_eq_true rfl) (by omega) (by omega) dL_law_439 ?_
  rintro _ _ _ ⟨rfl, rfl, rfl⟩
  refine r_eq (st' := [.int (nI (cB σ (xs (i + 1))))]) rfl rfl rfl (by rw [h72]; rfl) ?_
  show WW g z 9 (n + 1) (k + 6) ad1 (Wz z ad1 σ1 τ2 o1) 442 [(7, .int (x1)), (6, .int (nI (cB σ (xs (i + 1))))), (0, .ref b), (1, .ref (ad1 0 0)), (2, .ref (ad1 20 0)), (3, .ref (ad1 19 0)), (4, .ref (ad1 19 1)), (5, .int (nI i))] [.int (nI (cB σ (xs (i + 1))))]
  refine r_iload K dL_law_442 1 rfl ?_
  refine r_icmp_eq K dL_law_444 449 True (iff_of_true rfl trivial) (by decide) (fun _ => ?_) (fun c => absurd trivial c)
  refine r_iload K dL_law_449 1 rfl ?_
  have hcd : (cB σ (xs (i + 1))) < 2 ^ 31 := by unfold cB; (repeat' split) <;> decide
  refine r_if_ne K dL_law_451 466 ((cB σ (xs (i + 1))) = 0) (n0_eq hcd) (by decide) (fun c_451 => ?_) (fun c_451 => ?_)
  · skip
    refine r_goto K dL_law_466 2423 (by decide) ?_
    have hG : IR σ := Q
    obtain ⟨ρ, hW, hQ3, hC3, hM3⟩ := mg_all (z := z) (ad := ad1) (o := o1) hG hA1 hA2 hC1 hM2
    refine r_mu hW ?_
    refine r_lv (lv' := [(0, .ref b), (1, .ref (ad1 0 0)), (2, .ref (ad1 20 0)), (3, .ref (ad1 19 0)), (4, .ref (ad1 19 1)), (5, .int (nI i))]) [2, 3, 4, 5, 6, 7] rfl ?_
    exact r_wide (by omega) (by omega) (kk ad1 ρ o1 hQ3 hC3 hM3)
  · skip
    refine r_aload_n K dL_law_454 5 rfl rfl ?_
    refine r_iconst (v := nI 0) K dL_law_455 (by decide) ?_
    refine r_lald (j := 0) (v := o1.1) K rfl rfl rfl (by decide) (by decide) rfl dL_law_456 ?_
    refine r_iload K dL_law_457 0 rfl ?_
    refine r_i2l (v := ((x1).toInt64)) K dL_law_459 rfl ?_
    refine r_lcmpE K (by rw [hv1 c_451, hx1 c_451]) dL_law_460 ?_
    refine r_if_eq K dL_law_461 466 (0 = 0) (n0_eq (by omega)) (by decide) (fun c_461 => ?_) (fun c_461 => ?_)
    · skip
      refine r_goto K dL_law_466 2423 (by decide) ?_
      have hG : IR σ := Q
      obtain ⟨ρ, hW, hQ3, hC3, hM3⟩ := mg_all (z := z) (ad := ad1) (o := o1) hG hA1 hA2 hC1 hM2
      refine r_mu hW ?_
      refine r_lv (lv' := [(0, .ref b), (1, .ref (ad1 0 0)), (2, .ref (ad1 20 0)), (3, .ref (ad1 19 0)), (4, .ref (ad1 19 1)), (5, .int (nI i))]) [2, 3, 4, 5, 6, 7] rfl ?_
      exact r_wide (by omega) (by omega) (kk ad1 ρ o1 hQ3 hC3 hM3)
    · skip
      exfalso; omega
set_option maxRecDepth 100000 in
set_option maxHeartbeats 4000000 in
/-- capacityOf -/
theorem case_4 {z : Zx} {g : Gx} {tb : List ExceptionTableEntry} {mc ms n k b L i : Nat} {xs : Nat → Int32} {ad0 ad : Nm} {μ0 : Ce} {ok : OkT} {ex : String → Prop} {σ : Sg} {o : Int64 × UInt64} (K : Kn g z cL_law 9 yL_law (some .boolean) tb 12 mc ms ad0 μ0 ok ex) (hl : (gl g).stackTraces = false) (X : Scr z g b L xs) (hL : L ≤ 4000) (hi : i + 6 ≤ L) (Q : IR σ) (C : ICo σ) (M : IMo σ) (hn : n + 20 ≤ mc) (hk : k + 400 ≤ ms) (kk : ∀ ad' ρ o', IR ρ → ICo ρ → IMo ρ → WW g z 9 (n + 20) (k + 400) ad' (Wz z ad' ρ ρ o') 2423 [(0, .ref b), (1, .ref (ad' 0 0)), (2, .ref (ad' 20 0)), (3, .ref (ad' 19 0)), (4, .ref (ad' 19 1)), (5, .int (nI i))] []) : WW g z 9 n k ad (Wz z ad σ σ o) 469 [(0, .ref b), (1, .ref (ad 0 0)), (2, .ref (ad 20 0)), (3, .ref (ad 19 0)), (4, .ref (ad 19 1)), (5, .int (nI i))] [] := by
  show WW g z 9 n k ad (Wz z ad σ σ o) 469 [(0, .ref b), (1, .ref (ad 0 0)), (2, .ref (ad 20 0)), (3, .ref (ad 19 0)), (4, .ref (ad 19 1)), (5, .int (nI i))] []
  refine r_aload_n K dL_law_469 1 rfl rfl ?_
  refine r_aload_n K dL_law_470 0 rfl rfl ?_
  refine r_iload K dL_law_471 5 rfl ?_
  refine r_iconst (v := nI 1) K dL_law_473 (by decide) ?_
  refine r_iadd (v := nI (i + 1)) K dL_law_474 (nI_add _ _) ?_
  refine r_sld (j := i + 1) K X rfl (by omega) (by omega) dL_law_475 ?_
  refine r_aload_n K dL_law_476 3 rfl rfl ?_
  refine r_callSH (st := []) K (k_L_capacityOf (σ := σ) (τ := σ) (o := o) hl Q C) wd_631 wd_47 wd_633 wd_632 ⟨by decide, by decide, (by decide +kernel : (parseMethodDescriptor yL_capacityOf.desc).map (fun d => d.parameters.length) = some 3)⟩ (by decide) (by decide) rfl (Nat.le_of_ble_eq_true rfl) (by omega) (by omega) dL_law_477 ?_
  rintro _ ad1 _ ⟨rfl, hK1, σ1, o1, rfl, hA1, hC1, hv1⟩
  rw [ite_sg] at hA1
  refine r_eq (lv' := [(0, .ref b), (1, .ref (ad1 0 0)), (2, .ref (ad1 20 0)), (3, .ref (ad1 19 0)), (4, .ref (ad1 19 1)), (5, .int (nI i))]) rfl rfl (by rw [hK1.1, hK1.2.1, hK1.2.2.1, hK1.2.2.2]) rfl ?_
  show WW g z 9 (n + 1) (k + 6) ad1 (Wz z ad1 σ1 σ o1) 480 [(0, .ref b), (1, .ref (ad1 0 0)), (2, .ref (ad1 20 0)), (3, .ref (ad1 19 0)), (4, .ref (ad1 19 1)), (5, .int (nI i))] [.int (nI (cB σ (xs (i + 1))))]
  refine r_istore (lv' := [(6, .int (nI (cB σ (xs (i + 1))))), (0, .ref b), (1, .ref (ad1 0 0)), (2, .ref (ad1 20 0)), (3, .ref (ad1 19 0)), (4, .ref (ad1 19 1)), (5, .int (nI i))]) K dL_law_480 (by decide) rfl ?_
  refine r_aload_n K dL_law_482 3 rfl rfl ?_
  refine r_aload_n K dL_law_483 1 rfl rfl ?_
  refine r_iload K dL_law_484 6 rfl ?_
  refine r_iconst (v := nI 1) K dL_law_486 (by decide) ?_
  refine r_iadd (v := nI (i + 1)) K dL_law_487 (nI_add _ _) ?_
  refine r_sld (j := i + 1) K X rfl (by omega) (by omega) dL_law_488 ?_
  refine r_callV (st := []) K (k_X6_capacityOf (σ := σ1) (τ := σ) (o := o1) hl Q M) cw_L_152 wd_1457 wd_1458 (by decide) (by decide) rfl rfl rfl rfl (Nat.le_of_ble_eq_true rfl) (by omega) (by omega) dL_law_489 ?_
  rintro _ _ _ ⟨x1, rfl, hx1, rfl, τ2, rfl, hA2, hM2, h72⟩
  show WW g z 9 (n + 1) (k + 6) ad1 (Wz z ad1 σ1 τ2 o1) 492 [(6, .int (nI (cB σ (xs (i + 1))))), (0, .ref b), (1, .ref (ad1 0 0)), (2, .ref (ad1 20 0)), (3, .ref (ad1 19 0)), (4, .ref (ad1 19 1)), (5, .int (nI i))] [.int (x1)]
  refine r_istore (lv' := [(7, .int (x1)), (6, .int (nI (cB σ (xs (i + 1))))), (0, .ref b), (1, .ref (ad1 0 0)), (2, .ref (ad1 20 0)), (3, .ref (ad1 19 0)), (4, .ref (ad1 19 1)), (5, .int (nI i))]) K dL_law_492 (by decide) rfl ?_
  refine r_aload_n K dL_law_494 4 rfl rfl ?_
  refine r_callV (st := []) K (k_X6_thrown (σ := σ1) (τ := τ2) (o := o1) hl) cw_L_134 wd_1422 wd_1423 (by decide) (by decide) rfl rfl rfl rfl (Nat.le_of_ble_eq_true rfl) (by omega) (by omega) dL_law_495 ?_
  rintro _ _ _ ⟨rfl, rfl, rfl⟩
  refine r_eq (st' := [.int (nI (cB σ (xs (i + 1))))]) rfl rfl rfl (by rw [h72]; rfl) ?_
  show WW g z 9 (n + 1) (k + 6) ad1 (Wz z ad1 σ1 τ2 o1) 498 [(7, .int (x1)), (6, .int (nI (cB σ (xs (i + 1))))), (0, .ref b), (1, .ref (ad1 0 0)), (2, .ref (ad1 20 0)), (3, .ref (ad1 19 0)), (4, .ref (ad1 19 1)), (5, .int (nI i))] [.int (nI (cB σ (xs (i + 1))))]
  refine r_iload K dL_law_498 1 rfl ?_
  refine r_icmp_eq K dL_law_500 505 True (iff_of_true rfl trivial) (by decide) (fun _ => ?_) (fun c => absurd trivial c)
  refine r_iload K dL_law_505 1 rfl ?_
  have hcd : (cB σ (xs (i + 1))) < 2 ^ 31 := by unfold cB; (repeat' split) <;> decide
  refine r_if_ne K dL_law_507 522 ((cB σ (xs (i + 1))) = 0) (n0_eq hcd) (by decide) (fun c_507 => ?_) (fun c_507 => ?_)
  · skip
    refine r_goto K dL_law_522 2423 (by decide) ?_
    have hG : IR σ := Q
    obtain ⟨ρ, hW, hQ3, hC3, hM3⟩ := mg_all (z := z) (ad := ad1) (o := o1) hG hA1 hA2 hC1 hM2
    refine r_mu hW ?_
    refine r_lv (lv' := [(0, .ref b), (1, .ref (ad1 0 0)), (2, .ref (ad1 20 0)), (3, .ref (ad1 19 0)), (4, .ref (ad1 19 1)), (5, .int (nI i))]) [2, 3, 4, 5, 6, 7] rfl ?_
    exact r_wide (by omega) (by omega) (kk ad1 ρ o1 hQ3 hC3 hM3)
  · skip
    refine r_aload_n K dL_law_510 5 rfl rfl ?_
    refine r_iconst (v := nI 0) K dL_law_511 (by decide) ?_
    refine r_lald (j := 0) (v := o1.1) K rfl rfl rfl (by decide) (by decide) rfl dL_law_512 ?_
    refine r_iload K dL_law_513 0 rfl ?_
    refine r_i2l (v := ((x1).toInt64)) K dL_law_515 rfl ?_
    refine r_lcmpE K (by rw [hv1 c_507, hx1 c_507]) dL_law_516 ?_
    refine r_if_eq K dL_law_517 522 (0 = 0) (n0_eq (by omega)) (by decide) (fun c_517 => ?_) (fun c_517 => ?_)
    · skip
      refine r_goto K dL_law_522 2423 (by decide) ?_
      have hG : IR σ := Q
      obtain ⟨ρ, hW, hQ3, hC3, hM3⟩ := mg_all (z := z) (ad := ad1) (o := o1) hG hA1 hA2 hC1 hM2
      refine r_mu hW ?_
      refine r_lv (lv' := [(0, .ref b), (1, .ref (ad1 0 0)), (2, .ref (ad1 20 0)), (3, .ref (ad1 19 0)), (4, .ref (ad1 19 1)), (5, .int (nI i))]) [2, 3, 4, 5, 6, 7] rfl ?_
      exact r_wide (by omega) (by omega) (kk ad1 ρ o1 hQ3 hC3 hM3)
    · skip
      exfalso; omega
set_option maxRecDepth 100000 in
set_option maxHeartbeats 4000000 in
/-- setHand -/
theorem case_5 {z : Zx} {g : Gx} {tb : List ExceptionTableEntry} {mc ms n k b L i : Nat} {xs : Nat → Int32} {ad0 ad : Nm} {μ0 : Ce} {ok : OkT} {ex : String → Prop} {σ : Sg} {o : Int64 × UInt64} (K : Kn g z cL_law 9 yL_law (some .boolean) tb 12 mc ms ad0 μ0 ok ex) (hl : (gl g).stackTraces = false) (X : Scr z g b L xs) (hL : L ≤ 4000) (hi : i + 6 ≤ L) (Q : IR σ) (C : ICo σ) (M : IMo σ) (hn : n + 20 ≤ mc) (hk : k + 400 ≤ ms) (kk : ∀ ad' ρ o', IR ρ → ICo ρ → IMo ρ → WW g z 9 (n + 20) (k + 400) ad' (Wz z ad' ρ ρ o') 2423 [(0, .ref b), (1, .ref (ad' 0 0)), (2, .ref (ad' 20 0)), (3, .ref (ad' 19 0)), (4, .ref (ad' 19 1)), (5, .int (nI i))] []) : WW g z 9 n k ad (Wz z ad σ σ o) 525 [(0, .ref b), (1, .ref (ad 0 0)), (2, .ref (ad 20 0)), (3, .ref (ad 19 0)), (4, .ref (ad 19 1)), (5, .int (nI i))] [] := by
  show WW g z 9 n k ad (Wz z ad σ σ o) 525 [(0, .ref b), (1, .ref (ad 0 0)), (2, .ref (ad 20 0)), (3, .ref (ad 19 0)), (4, .ref (ad 19 1)), (5, .int (nI i))] []
  refine r_aload_n K dL_law_525 1 rfl rfl ?_
  refine r_aload_n K dL_law_526 0 rfl rfl ?_
  refine r_iload K dL_law_527 5 rfl ?_
  refine r_iconst (v := nI 1) K dL_law_529 (by decide) ?_
  refine r_iadd (v := nI (i + 1)) K dL_law_530 (nI_add _ _) ?_
  refine r_sld (j := i + 1) K X rfl (by omega) (by omega) dL_law_531 ?_
  refine r_aload_n K dL_law_532 0 rfl rfl ?_
  refine r_iload K dL_law_533 5 rfl ?_
  refine r_iconst (v := nI 2) K dL_law_535 (by decide) ?_
  refine r_iadd (v := nI (i + 2)) K dL_law_536 (nI_add _ _) ?_
  refine r_sld (j := i + 2) K X rfl (by omega) (by omega) dL_law_537 ?_
  refine r_aload_n K dL_law_538 3 rfl rfl ?_
  refine r_callSH (st := []) K (k_L_setHand (σ := σ) (τ := σ) (o := o) hl Q C) wd_638 wd_47 wd_640 wd_639 ⟨by decide, by decide, (by decide +kernel : (parseMethodDescriptor yL_setHand.desc).map (fun d => d.parameters.length) = some 4)⟩ (by decide) (by decide) rfl (Nat.le_of_ble_eq_true rfl) (by omega) (by omega) dL_law_539 ?_
  rintro _ ad1 _ ⟨rfl, hK1, σ1, o1, rfl, hA1, hC1, hv1⟩
  refine r_eq (lv' := [(0, .ref b), (1, .ref (ad1 0 0)), (2, .ref (ad1 20 0)), (3, .ref (ad1 19 0)), (4, .ref (ad1 19 1)), (5, .int (nI i))]) rfl rfl (by rw [hK1.1, hK1.2.1, hK1.2.2.1, hK1.2.2.2]) rfl ?_
  show WW g z 9 (n + 2) (k + 12) ad1 (Wz z ad1 σ1 σ o1) 542 [(0, .ref b), (1, .ref (ad1 0 0)), (2, .ref (ad1 20 0)), (3, .ref (ad1 19 0)), (4, .ref (ad1 19 1)), (5, .int (nI i))] [.int (nI (cBx σ 10 (xs (i + 1)) (xs (i + 2))))]
  refine r_istore (lv' := [(6, .int (nI (cBx σ 10 (xs (i + 1)) (xs (i + 2))))), (0, .ref b), (1, .ref (ad1 0 0)), (2, .ref (ad1 20 0)), (3, .ref (ad1 19 0)), (4, .ref (ad1 19 1)), (5, .int (nI i))]) K dL_law_542 (by decide) rfl ?_
  refine r_aload_n K dL_law_544 3 rfl rfl ?_
  refine r_aload_n K dL_law_545 1 rfl rfl ?_
  refine r_iload K dL_law_546 6 rfl ?_
  refine r_iconst (v := nI 1) K dL_law_548 (by decide) ?_
  refine r_iadd (v := nI (i + 1)) K dL_law_549 (nI_add _ _) ?_
  refine r_sld (j := i + 1) K X rfl (by omega) (by omega) dL_law_550 ?_
  refine r_aload_n K dL_law_551 1 rfl rfl ?_
  refine r_iload K dL_law_552 6 rfl ?_
  refine r_iconst (v := nI 2) K dL_law_554 (by decide) ?_
  refine r_iadd (v := nI (i + 2)) K dL_law_555 (nI_add _ _) ?_
  refine r_sld (j := i + 2) K X rfl (by omega) (by omega) dL_law_556 ?_
  refine r_callV (st := []) K (k_X6_setHand (σ := σ1) (τ := σ) (o := o1) hl Q M) cw_L_155 wd_1465 wd_1466 (by decide) (by decide) rfl rfl rfl rfl (Nat.le_of_ble_eq_true rfl) (by omega) (by omega) dL_law_557 ?_
  rintro _ _ _ ⟨x1, rfl, hx1, rfl, τ2, rfl, hA2, hM2, h72⟩
  show WW g z 9 (n + 2) (k + 12) ad1 (Wz z ad1 σ1 τ2 o1) 560 [(6, .int (nI (cBx σ 10 (xs (i + 1)) (xs (i + 2))))), (0, .ref b), (1, .ref (ad1 0 0)), (2, .ref (ad1 20 0)), (3, .ref (ad1 19 0)), (4, .ref (ad1 19 1)), (5, .int (nI i))] [.int (x1)]
  refine r_istore (lv' := [(7, .int (x1)), (6, .int (nI (cBx σ 10 (xs (i + 1)) (xs (i + 2))))), (0, .ref b), (1, .ref (ad1 0 0)), (2, .ref (ad1 20 0)), (3, .ref (ad1 19 0)), (4, .ref (ad1 19 1)), (5, .int (nI i))]) K dL_law_560 (by decide) rfl ?_
  refine r_aload_n K dL_law_562 4 rfl rfl ?_
  refine r_callV (st := []) K (k_X6_thrown (σ := σ1) (τ := τ2) (o := o1) hl) cw_L_134 wd_1422 wd_1423 (by decide) (by decide) rfl rfl rfl rfl (Nat.le_of_ble_eq_true rfl) (by omega) (by omega) dL_law_563 ?_
  rintro _ _ _ ⟨rfl, rfl, rfl⟩
  refine r_eq (st' := [.int (nI (cBx σ 10 (xs (i + 1)) (xs (i + 2))))]) rfl rfl rfl (by rw [h72]; rfl) ?_
  show WW g z 9 (n + 2) (k + 12) ad1 (Wz z ad1 σ1 τ2 o1) 566 [(7, .int (x1)), (6, .int (nI (cBx σ 10 (xs (i + 1)) (xs (i + 2))))), (0, .ref b), (1, .ref (ad1 0 0)), (2, .ref (ad1 20 0)), (3, .ref (ad1 19 0)), (4, .ref (ad1 19 1)), (5, .int (nI i))] [.int (nI (cBx σ 10 (xs (i + 1)) (xs (i + 2))))]
  refine r_iload K dL_law_566 1 rfl ?_
  refine r_icmp_eq K dL_law_568 573 True (iff_of_true rfl trivial) (by decide) (fun _ => ?_) (fun c => absurd trivial c)
  refine r_iload K dL_law_573 1 rfl ?_
  have hcd : (cBx σ 10 (xs (i + 1)) (xs (i + 2))) < 2 ^ 31 := by unfold cBx; (repeat' split) <;> decide
  refine r_if_ne K dL_law_575 590 ((cBx σ 10 (xs (i + 1)) (xs (i + 2))) = 0) (n0_eq hcd) (by decide) (fun c_575 => ?_) (fun c_575 => ?_)
  · skip
    refine r_goto K dL_law_590 2423 (by decide) ?_
    have hG : IR (if (cBx σ 10 (xs (i + 1)) (xs (i + 2))) = 0 then fHand σ (xs (i + 1)) (xs (i + 2)) else σ) := by by_cases h0 : (cBx σ 10 (xs (i + 1)) (xs (i + 2))) = 0; (rw [if_pos h0]; exact ir_hand Q h0); (rw [if_neg h0]; exact Q)
    obtain ⟨ρ, hW, hQ3, hC3, hM3⟩ := mg_all (z := z) (ad := ad1) (o := o1) hG hA1 hA2 hC1 hM2
    refine r_mu hW ?_
    refine r_lv (lv' := [(0, .ref b), (1, .ref (ad1 0 0)), (2, .ref (ad1 20 0)), (3, .ref (ad1 19 0)), (4, .ref (ad1 19 1)), (5, .int (nI i))]) [2, 3, 4, 5, 6, 7] rfl ?_
    exact r_wide (by omega) (by omega) (kk ad1 ρ o1 hQ3 hC3 hM3)
  · skip
    refine r_aload_n K dL_law_578 5 rfl rfl ?_
    refine r_iconst (v := nI 0) K dL_law_579 (by decide) ?_
    refine r_lald (j := 0) (v := o1.1) K rfl rfl rfl (by decide) (by decide) rfl dL_law_580 ?_
    refine r_iload K dL_law_581 0 rfl ?_
    refine r_i2l (v := ((x1).toInt64)) K dL_law_583 rfl ?_
    refine r_lcmpE K (by rw [hv1 c_575, hx1 c_575]) dL_law_584 ?_
    refine r_if_eq K dL_law_585 590 (0 = 0) (n0_eq (by omega)) (by decide) (fun c_585 => ?_) (fun c_585 => ?_)
    · skip
      refine r_goto K dL_law_590 2423 (by decide) ?_
      have hG : IR (if (cBx σ 10 (xs (i + 1)) (xs (i + 2))) = 0 then fHand σ (xs (i + 1)) (xs (i + 2)) else σ) := by by_cases h0 : (cBx σ 10 (xs (i + 1)) (xs (i + 2))) = 0; (rw [if_pos h0]; exact ir_hand Q h0); (rw [if_neg h0]; exact Q)
      obtain ⟨ρ, hW, hQ3, hC3, hM3⟩ := mg_all (z := z) (ad := ad1) (o := o1) hG hA1 hA2 hC1 hM2
      refine r_mu hW ?_
      refine r_lv (lv' := [(0, .ref b), (1, .ref (ad1 0 0)), (2, .ref (ad1 20 0)), (3, .ref (ad1 19 0)), (4, .ref (ad1 19 1)), (5, .int (nI i))]) [2, 3, 4, 5, 6, 7] rfl ?_
      exact r_wide (by omega) (by omega) (kk ad1 ρ o1 hQ3 hC3 hM3)
    · skip
      exfalso; omega
set_option maxRecDepth 100000 in
set_option maxHeartbeats 4000000 in
/-- addRule -/
theorem case_6 {z : Zx} {g : Gx} {tb : List ExceptionTableEntry} {mc ms n k b L i : Nat} {xs : Nat → Int32} {ad0 ad : Nm} {μ0 : Ce} {ok : OkT} {ex : String → Prop} {σ : Sg} {o : Int64 × UInt64} (K : Kn g z cL_law 9 yL_law (some .boolean) tb 12 mc ms ad0 μ0 ok ex) (hl : (gl g).stackTraces = false) (X : Scr z g b L xs) (hL : L ≤ 4000) (hi : i + 6 ≤ L) (Q : IR σ) (C : ICo σ) (M : IMo σ) (hn : n + 20 ≤ mc) (hk : k + 400 ≤ ms) (kk : ∀ ad' ρ o', IR ρ → ICo ρ → IMo ρ → WW g z 9 (n + 20) (k + 400) ad' (Wz z ad' ρ ρ o') 2423 [(0, .ref b), (1, .ref (ad' 0 0)), (2, .ref (ad' 20 0)), (3, .ref (ad' 19 0)), (4, .ref (ad' 19 1)), (5, .int (nI i))] []) : WW g z 9 n k ad (Wz z ad σ σ o) 593 [(0, .ref b), (1, .ref (ad 0 0)), (2, .ref (ad 20 0)), (3, .ref (ad 19 0)), (4, .ref (ad 19 1)), (5, .int (nI i))] [] := by
  show WW g z 9 n k ad (Wz z ad σ σ o) 593 [(0, .ref b), (1, .ref (ad 0 0)), (2, .ref (ad 20 0)), (3, .ref (ad 19 0)), (4, .ref (ad 19 1)), (5, .int (nI i))] []
  refine r_aload_n K dL_law_593 1 rfl rfl ?_
  refine r_aload_n K dL_law_594 0 rfl rfl ?_
  refine r_iload K dL_law_595 5 rfl ?_
  refine r_iconst (v := nI 1) K dL_law_597 (by decide) ?_
  refine r_iadd (v := nI (i + 1)) K dL_law_598 (nI_add _ _) ?_
  refine r_sld (j := i + 1) K X rfl (by omega) (by omega) dL_law_599 ?_
  refine r_aload_n K dL_law_600 0 rfl rfl ?_
  refine r_iload K dL_law_601 5 rfl ?_
  refine r_iconst (v := nI 2) K dL_law_603 (by decide) ?_
  refine r_iadd (v := nI (i + 2)) K dL_law_604 (nI_add _ _) ?_
  refine r_sld (j := i + 2) K X rfl (by omega) (by omega) dL_law_605 ?_
  refine r_aload_n K dL_law_606 0 rfl rfl ?_
  refine r_iload K dL_law_607 5 rfl ?_
  refine r_iconst (v := nI 3) K dL_law_609 (by decide) ?_
  refine r_iadd (v := nI (i + 3)) K dL_law_610 (nI_add _ _) ?_
  refine r_sld (j := i + 3) K X rfl (by omega) (by omega) dL_law_611 ?_
  refine r_if_eq K dL_law_612 619 (xs (i + 3) = 0) Iff.rfl (by decide) (fun c_612 => ?_) (fun c_612 => ?_)
  · skip
    refine r_iconst (v := nI 0) K dL_law_619 (by decide) ?_
    refine r_aload_n K dL_law_620 0 rfl rfl ?_
    refine r_iload K dL_law_621 5 rfl ?_
    refine r_iconst (v := nI 4) K dL_law_623 (by decide) ?_
    refine r_iadd (v := nI (i + 4)) K dL_law_624 (nI_add _ _) ?_
    refine r_sld (j := i + 4) K X rfl (by omega) (by omega) dL_law_625 ?_
    refine r_aload_n K dL_law_626 0 rfl rfl ?_
    refine r_iload K dL_law_627 5 rfl ?_
    refine r_iconst (v := nI 5) K dL_law_629 (by decide) ?_
    refine r_iadd (v := nI (i + 5)) K dL_law_630 (nI_add _ _) ?_
    refine r_sld (j := i + 5) K X rfl (by omega) (by omega) dL_law_631 ?_
    refine r_aload_n K dL_law_632 3 rfl rfl ?_
    refine r_callSH (st := []) K (k_L_addRule (fr := 0) (σ := σ) (τ := σ) (o := o) hl Q C (by decide)) wd_649 wd_47 wd_651 wd_650 ⟨by decide, by decide, (by decide +kernel : (parseMethodDescriptor yL_addRule.desc).map (fun d => d.parameters.length) = some 7)⟩ (by decide) (by decide) rfl (Nat.le_of_ble_eq_true rfl) (by omega) (by omega) dL_law_633 ?_
    rintro _ ad1 _ ⟨rfl, hK1, σ1, o1, rfl, hA1, hC1, hv1⟩
    refine r_eq (lv' := [(0, .ref b), (1, .ref (ad1 0 0)), (2, .ref (ad1 20 0)), (3, .ref (ad1 19 0)), (4, .ref (ad1 19 1)), (5, .int (nI i))]) rfl rfl (by rw [hK1.1, hK1.2.1, hK1.2.2.1, hK1.2.2.2]) rfl ?_
    show WW g z 9 (n + 5) (k + 53) ad1 (Wz z ad1 σ1 σ o1) 636 [(0, .ref b), (1, .ref (ad1 0 0)), (2, .ref (ad1 20 0)), (3, .ref (ad1 19 0)), (4, .ref (ad1 19 1)), (5, .int (nI i))] [.int (nI (cAR σ (xs (i + 1)) (xs (i + 2)) (xs (i + 4)) (xs (i + 5))))]
    refine r_istore (lv' := [(6, .int (nI (cAR σ (xs (i + 1)) (xs (i + 2)) (xs (i + 4)) (xs (i + 5))))), (0, .ref b), (1, .ref (ad1 0 0)), (2, .ref (ad1 20 0)), (3, .ref (ad1 19 0)), (4, .ref (ad1 19 1)), (5, .int (nI i))]) K dL_law_636 (by decide) rfl ?_
    refine r_aload_n K dL_law_638 3 rfl rfl ?_
    refine r_aload_n K dL_law_639 1 rfl rfl ?_
    refine r_iload K dL_law_640 6 rfl ?_
    refine r_iconst (v := nI 1) K dL_law_642 (by decide) ?_
    refine r_iadd (v := nI (i + 1)) K dL_law_643 (nI_add _ _) ?_
    refine r_sld (j := i + 1) K X rfl (by omega) (by omega) dL_law_644 ?_
    refine r_aload_n K dL_law_645 1 rfl rfl ?_
    refine r_iload K dL_law_646 6 rfl ?_
    refine r_iconst (v := nI 2) K dL_law_648 (by decide) ?_
    refine r_iadd (v := nI (i + 2)) K dL_law_649 (nI_add _ _) ?_
    refine r_sld (j := i + 2) K X rfl (by omega) (by omega) dL_law_650 ?_
    refine r_aload_n K dL_law_651 1 rfl rfl ?_
    refine r_iload K dL_law_652 6 rfl ?_
    refine r_iconst (v := nI 3) K dL_law_654 (by decide) ?_
    refine r_iadd (v := nI (i + 3)) K dL_law_655 (nI_add _ _) ?_
    refine r_sld (j := i + 3) K X rfl (by omega) (by omega) dL_law_656 ?_
    refine r_if_eq K dL_law_657 664 (xs (i + 3) = 0) Iff.rfl (by decide) (fun c_657 => ?_) (fun c_657 => ?_)
    · skip
      refine r_iconst (v := nI 0) K dL_law_664 (by decide) ?_
      refine r_aload_n K dL_law_665 1 rfl rfl ?_
      refine r_iload K dL_law_666 6 rfl ?_
      refine r_iconst (v := nI 4) K dL_law_668 (by decide) ?_
      refine r_iadd (v := nI (i + 4)) K dL_law_669 (nI_add _ _) ?_
      refine r_sld (j := i + 4) K X rfl (by omega) (by omega) dL_law_670 ?_
      refine r_aload_n K dL_law_671 1 rfl rfl ?_
      refine r_iload K dL_law_672 6 rfl ?_
      refine r_iconst (v := nI 5) K dL_law_674 (by decide) ?_
      refine r_iadd (v := nI (i + 5)) K dL_law_675 (nI_add _ _) ?_
      refine r_sld (j := i + 5) K X rfl (by omega) (by omega) dL_law_676 ?_
      refine r_callV (st := []) K (k_X6_addRule (σ := σ1) (τ := σ) (o := o1) hl Q M (by decide)) cw_L_159 wd_1469 wd_1470 (by decide) (by decide) rfl rfl rfl rfl (Nat.le_of_ble_eq_true rfl) (by omega) (by omega) dL_law_677 ?_
      rintro _ _ _ ⟨x1, rfl, hx1, rfl, τ2, rfl, hA2, hM2, h72⟩
      show WW g z 9 (n + 5) (k + 53) ad1 (Wz z ad1 σ1 τ2 o1) 680 [(6, .int (nI (cAR σ (xs (i + 1)) (xs (i + 2)) (xs (i + 4)) (xs (i + 5))))), (0, .ref b), (1, .ref (ad1 0 0)), (2, .ref (ad1 20 0)), (3, .ref (ad1 19 0)), (4, .ref (ad1 19 1)), (5, .int (nI i))] [.int (x1)]
      refine r_istore (lv' := [(7, .int (x1)), (6, .int (nI (cAR σ (xs (i + 1)) (xs (i + 2)) (xs (i + 4)) (xs (i + 5))))), (0, .ref b), (1, .ref (ad1 0 0)), (2, .ref (ad1 20 0)), (3, .ref (ad1 19 0)), (4, .ref (ad1 19 1)), (5, .int (nI i))]) K dL_law_680 (by decide) rfl ?_
      refine r_aload_n K dL_law_682 4 rfl rfl ?_
      refine r_callV (st := []) K (k_X6_thrown (σ := σ1) (τ := τ2) (o := o1) hl) cw_L_134 wd_1422 wd_1423 (by decide) (by decide) rfl rfl rfl rfl (Nat.le_of_ble_eq_true rfl) (by omega) (by omega) dL_law_683 ?_
      rintro _ _ _ ⟨rfl, rfl, rfl⟩
      refine r_eq (st' := [.int (nI (cAR σ (xs (i + 1)) (xs (i + 2)) (xs (i + 4)) (xs (i + 5))))]) rfl rfl rfl (by rw [h72]; rfl) ?_
      show WW g z 9 (n + 5) (k + 53) ad1 (Wz z ad1 σ1 τ2 o1) 686 [(7, .int (x1)), (6, .int (nI (cAR σ (xs (i + 1)) (xs (i + 2)) (xs (i + 4)) (xs (i + 5))))), (0, .ref b), (1, .ref (ad1 0 0)), (2, .ref (ad1 20 0)), (3, .ref (ad1 19 0)), (4, .ref (ad1 19 1)), (5, .int (nI i))] [.int (nI (cAR σ (xs (i + 1)) (xs (i + 2)) (xs (i + 4)) (xs (i + 5))))]
      refine r_iload K dL_law_686 1 rfl ?_
      refine r_icmp_eq K dL_law_688 693 True (iff_of_true rfl trivial) (by decide) (fun _ => ?_) (fun c => absurd trivial c)
      refine r_iload K dL_law_693 1 rfl ?_
      have hcd : (cAR σ (xs (i + 1)) (xs (i + 2)) (xs (i + 4)) (xs (i + 5))) < 2 ^ 31 := by unfold cAR; (repeat' split) <;> decide
      refine r_if_ne K dL_law_695 710 ((cAR σ (xs (i + 1)) (xs (i + 2)) (xs (i + 4)) (xs (i + 5))) = 0) (n0_eq hcd) (by decide) (fun c_695 => ?_) (fun c_695 => ?_)
      · skip
        refine r_goto K dL_law_710 2423 (by decide) ?_
        have hG : IR (if (cAR σ (xs (i + 1)) (xs (i + 2)) (xs (i + 4)) (xs (i + 5))) = 0 then fRule σ (xs (i + 1)) (xs (i + 2)) 0 (xs (i + 4)) (xs (i + 5)) else σ) := by by_cases h0 : (cAR σ (xs (i + 1)) (xs (i + 2)) (xs (i + 4)) (xs (i + 5))) = 0; (rw [if_pos h0]; exact ir_rule Q (by decide) h0); (rw [if_neg h0]; exact Q)
        obtain ⟨ρ, hW, hQ3, hC3, hM3⟩ := mg_all (z := z) (ad := ad1) (o := o1) hG hA1 hA2 hC1 hM2
        refine r_mu hW ?_
        refine r_lv (lv' := [(0, .ref b), (1, .ref (ad1 0 0)), (2, .ref (ad1 20 0)), (3, .ref (ad1 19 0)), (4, .ref (ad1 19 1)), (5, .int (nI i))]) [2, 3, 4, 5, 6, 7] rfl ?_
        exact r_wide (by omega) (by omega) (kk ad1 ρ o1 hQ3 hC3 hM3)
      · skip
        refine r_aload_n K dL_law_698 5 rfl rfl ?_
        refine r_iconst (v := nI 0) K dL_law_699 (by decide) ?_
        refine r_lald (j := 0) (v := o1.1) K rfl rfl rfl (by decide) (by decide) rfl dL_law_700 ?_
        refine r_iload K dL_law_701 0 rfl ?_
        refine r_i2l (v := ((x1).toInt64)) K dL_law_703 rfl ?_
        refine r_lcmpE K (by rw [hv1 c_695, hx1 c_695]) dL_law_704 ?_
        refine r_if_eq K dL_law_705 710 (0 = 0) (n0_eq (by omega)) (by decide) (fun c_705 => ?_) (fun c_705 => ?_)
        · skip
          refine r_goto K dL_law_710 2423 (by decide) ?_
          have hG : IR (if (cAR σ (xs (i + 1)) (xs (i + 2)) (xs (i + 4)) (xs (i + 5))) = 0 then fRule σ (xs (i + 1)) (xs (i + 2)) 0 (xs (i + 4)) (xs (i + 5)) else σ) := by by_cases h0 : (cAR σ (xs (i + 1)) (xs (i + 2)) (xs (i + 4)) (xs (i + 5))) = 0; (rw [if_pos h0]; exact ir_rule Q (by decide) h0); (rw [if_neg h0]; exact Q)
          obtain ⟨ρ, hW, hQ3, hC3, hM3⟩ := mg_all (z := z) (ad := ad1) (o := o1) hG hA1 hA2 hC1 hM2
          refine r_mu hW ?_
          refine r_lv (lv' := [(0, .ref b), (1, .ref (ad1 0 0)), (2, .ref (ad1 20 0)), (3, .ref (ad1 19 0)), (4, .ref (ad1 19 1)), (5, .int (nI i))]) [2, 3, 4, 5, 6, 7] rfl ?_
          exact r_wide (by omega) (by omega) (kk ad1 ρ o1 hQ3 hC3 hM3)
        · skip
          exfalso; omega
    · skip
      exfalso; exact absurd c_612 c_657
  · skip
    refine r_iconst (v := nI 1) K dL_law_615 (by decide) ?_
    refine r_goto K dL_law_616 620 (by decide) ?_
    refine r_aload_n K dL_law_620 0 rfl rfl ?_
    refine r_iload K dL_law_621 5 rfl ?_
    refine r_iconst (v := nI 4) K dL_law_623 (by decide) ?_
    refine r_iadd (v := nI (i + 4)) K dL_law_624 (nI_add _ _) ?_
    refine r_sld (j := i + 4) K X rfl (by omega) (by omega) dL_law_625 ?_
    refine r_aload_n K dL_law_626 0 rfl rfl ?_
    refine r_iload K dL_law_627 5 rfl ?_
    refine r_iconst (v := nI 5) K dL_law_629 (by decide) ?_
    refine r_iadd (v := nI (i + 5)) K dL_law_630 (nI_add _ _) ?_
    refine r_sld (j := i + 5) K X rfl (by omega) (by omega) dL_law_631 ?_
    refine r_aload_n K dL_law_632 3 rfl rfl ?_
    refine r_callSH (st := []) K (k_L_addRule (fr := 1) (σ := σ) (τ := σ) (o := o) hl Q C (by decide)) wd_649 wd_47 wd_651 wd_650 ⟨by decide, by decide, (by decide +kernel : (parseMethodDescriptor yL_addRule.desc).map (fun d => d.parameters.length) = some 7)⟩ (by decide) (by decide) rfl (Nat.le_of_ble_eq_true rfl) (by omega) (by omega) dL_law_633 ?_
    rintro _ ad1 _ ⟨rfl, hK1, σ1, o1, rfl, hA1, hC1, hv1⟩
    refine r_eq (lv' := [(0, .ref b), (1, .ref (ad1 0 0)), (2, .ref (ad1 20 0)), (3, .ref (ad1 19 0)), (4, .ref (ad1 19 1)), (5, .int (nI i))]) rfl rfl (by rw [hK1.1, hK1.2.1, hK1.2.2.1, hK1.2.2.2]) rfl ?_
    show WW g z 9 (n + 5) (k + 53) ad1 (Wz z ad1 σ1 σ o1) 636 [(0, .ref b), (1, .ref (ad1 0 0)), (2, .ref (ad1 20 0)), (3, .ref (ad1 19 0)), (4, .ref (ad1 19 1)), (5, .int (nI i))] [.int (nI (cAR σ (xs (i + 1)) (xs (i + 2)) (xs (i + 4)) (xs (i + 5))))]
    refine r_istore (lv' := [(6, .int (nI (cAR σ (xs (i + 1)) (xs (i + 2)) (xs (i + 4)) (xs (i + 5))))), (0, .ref b), (1, .ref (ad1 0 0)), (2, .ref (ad1 20 0)), (3, .ref (ad1 19 0)), (4, .ref (ad1 19 1)), (5, .int (nI i))]) K dL_law_636 (by decide) rfl ?_
    refine r_aload_n K dL_law_638 3 rfl rfl ?_
    refine r_aload_n K dL_law_639 1 rfl rfl ?_
    refine r_iload K dL_law_640 6 rfl ?_
    refine r_iconst (v := nI 1) K dL_law_642 (by decide) ?_
    refine r_iadd (v := nI (i + 1)) K dL_law_643 (nI_add _ _) ?_
    refine r_sld (j := i + 1) K X rfl (by omega) (by omega) dL_law_644 ?_
    refine r_aload_n K dL_law_645 1 rfl rfl ?_
    refine r_iload K dL_law_646 6 rfl ?_
    refine r_iconst (v := nI 2) K dL_law_648 (by decide) ?_
    refine r_iadd (v := nI (i + 2)) K dL_law_649 (nI_add _ _) ?_
    refine r_sld (j := i + 2) K X rfl (by omega) (by omega) dL_law_650 ?_
    refine r_aload_n K dL_law_651 1 rfl rfl ?_
    refine r_iload K dL_law_652 6 rfl ?_
    refine r_iconst (v := nI 3) K dL_law_654 (by decide) ?_
    refine r_iadd (v := nI (i + 3)) K dL_law_655 (nI_add _ _) ?_
    refine r_sld (j := i + 3) K X rfl (by omega) (by omega) dL_law_656 ?_
    refine r_if_eq K dL_law_657 664 (xs (i + 3) = 0) Iff.rfl (by decide) (fun c_657 => ?_) (fun c_657 => ?_)
    · skip
      exfalso; exact absurd c_657 c_612
    · skip
      refine r_iconst (v := nI 1) K dL_law_660 (by decide) ?_
      refine r_goto K dL_law_661 665 (by decide) ?_
      refine r_aload_n K dL_law_665 1 rfl rfl ?_
      refine r_iload K dL_law_666 6 rfl ?_
      refine r_iconst (v := nI 4) K dL_law_668 (by decide) ?_
      refine r_iadd (v := nI (i + 4)) K dL_law_669 (nI_add _ _) ?_
      refine r_sld (j := i + 4) K X rfl (by omega) (by omega) dL_law_670 ?_
      refine r_aload_n K dL_law_671 1 rfl rfl ?_
      refine r_iload K dL_law_672 6 rfl ?_
      refine r_iconst (v := nI 5) K dL_law_674 (by decide) ?_
      refine r_iadd (v := nI (i + 5)) K dL_law_675 (nI_add _ _) ?_
      refine r_sld (j := i + 5) K X rfl (by omega) (by omega) dL_law_676 ?_
      refine r_callV (st := []) K (k_X6_addRule (σ := σ1) (τ := σ) (o := o1) hl Q M (by decide)) cw_L_159 wd_1469 wd_1470 (by decide) (by decide) rfl rfl rfl rfl (Nat.le_of_ble_eq_true rfl) (by omega) (by omega) dL_law_677 ?_
      rintro _ _ _ ⟨x1, rfl, hx1, rfl, τ2, rfl, hA2, hM2, h72⟩
      show WW g z 9 (n + 5) (k + 53) ad1 (Wz z ad1 σ1 τ2 o1) 680 [(6, .int (nI (cAR σ (xs (i + 1)) (xs (i + 2)) (xs (i + 4)) (xs (i + 5))))), (0, .ref b), (1, .ref (ad1 0 0)), (2, .ref (ad1 20 0)), (3, .ref (ad1 19 0)), (4, .ref (ad1 19 1)), (5, .int (nI i))] [.int (x1)]
      refine r_istore (lv' := [(7, .int (x1)), (6, .int (nI (cAR σ (xs (i + 1)) (xs (i + 2)) (xs (i + 4)) (xs (i + 5))))), (0, .ref b), (1, .ref (ad1 0 0)), (2, .ref (ad1 20 0)), (3, .ref (ad1 19 0)), (4, .ref (ad1 19 1)), (5, .int (nI i))]) K dL_law_680 (by decide) rfl ?_
      refine r_aload_n K dL_law_682 4 rfl rfl ?_
      refine r_callV (st := []) K (k_X6_thrown (σ := σ1) (τ := τ2) (o := o1) hl) cw_L_134 wd_1422 wd_1423 (by decide) (by decide) rfl rfl rfl rfl (Nat.le_of_ble_eq_true rfl) (by omega) (by omega) dL_law_683 ?_
      rintro _ _ _ ⟨rfl, rfl, rfl⟩
      refine r_eq (st' := [.int (nI (cAR σ (xs (i + 1)) (xs (i + 2)) (xs (i + 4)) (xs (i + 5))))]) rfl rfl rfl (by rw [h72]; rfl) ?_
      show WW g z 9 (n + 5) (k + 53) ad1 (Wz z ad1 σ1 τ2 o1) 686 [(7, .int (x1)), (6, .int (nI (cAR σ (xs (i + 1)) (xs (i + 2)) (xs (i + 4)) (xs (i + 5))))), (0, .ref b), (1, .ref (ad1 0 0)), (2, .ref (ad1 20 0)), (3, .ref (ad1 19 0)), (4, .ref (ad1 19 1)), (5, .int (nI i))] [.int (nI (cAR σ (xs (i + 1)) (xs (i + 2)) (xs (i + 4)) (xs (i + 5))))]
      refine r_iload K dL_law_686 1 rfl ?_
      refine r_icmp_eq K dL_law_688 693 True (iff_of_true rfl trivial) (by decide) (fun _ => ?_) (fun c => absurd trivial c)
      refine r_iload K dL_law_693 1 rfl ?_
      have hcd : (cAR σ (xs (i + 1)) (xs (i + 2)) (xs (i + 4)) (xs (i + 5))) < 2 ^ 31 := by unfold cAR; (repeat' split) <;> decide
      refine r_if_ne K dL_law_695 710 ((cAR σ (xs (i + 1)) (xs (i + 2)) (xs (i + 4)) (xs (i + 5))) = 0) (n0_eq hcd) (by decide) (fun c_695 => ?_) (fun c_695 => ?_)
      · skip
        refine r_goto K dL_law_710 2423 (by decide) ?_
        have hG : IR (if (cAR σ (xs (i + 1)) (xs (i + 2)) (xs (i + 4)) (xs (i + 5))) = 0 then fRule σ (xs (i + 1)) (xs (i + 2)) 1 (xs (i + 4)) (xs (i + 5)) else σ) := by by_cases h0 : (cAR σ (xs (i + 1)) (xs (i + 2)) (xs (i + 4)) (xs (i + 5))) = 0; (rw [if_pos h0]; exact ir_rule Q (by decide) h0); (rw [if_neg h0]; exact Q)
        obtain ⟨ρ, hW, hQ3, hC3, hM3⟩ := mg_all (z := z) (ad := ad1) (o := o1) hG hA1 hA2 hC1 hM2
        refine r_mu hW ?_
        refine r_lv (lv' := [(0, .ref b), (1, .ref (ad1 0 0)), (2, .ref (ad1 20 0)), (3, .ref (ad1 19 0)), (4, .ref (ad1 19 1)), (5, .int (nI i))]) [2, 3, 4, 5, 6, 7] rfl ?_
        exact r_wide (by omega) (by omega) (kk ad1 ρ o1 hQ3 hC3 hM3)
      · skip
        refine r_aload_n K dL_law_698 5 rfl rfl ?_
        refine r_iconst (v := nI 0) K dL_law_699 (by decide) ?_
        refine r_lald (j := 0) (v := o1.1) K rfl rfl rfl (by decide) (by decide) rfl dL_law_700 ?_
        refine r_iload K dL_law_701 0 rfl ?_
        refine r_i2l (v := ((x1).toInt64)) K dL_law_703 rfl ?_
        refine r_lcmpE K (by rw [hv1 c_695, hx1 c_695]) dL_law_704 ?_
        refine r_if_eq K dL_law_705 710 (0 = 0) (n0_eq (by omega)) (by decide) (fun c_705 => ?_) (fun c_705 => ?_)
        · skip
          refine r_goto K dL_law_710 2423 (by decide) ?_
          have hG : IR (if (cAR σ (xs (i + 1)) (xs (i + 2)) (xs (i + 4)) (xs (i + 5))) = 0 then fRule σ (xs (i + 1)) (xs (i + 2)) 1 (xs (i + 4)) (xs (i + 5)) else σ) := by by_cases h0 : (cAR σ (xs (i + 1)) (xs (i + 2)) (xs (i + 4)) (xs (i + 5))) = 0; (rw [if_pos h0]; exact ir_rule Q (by decide) h0); (rw [if_neg h0]; exact Q)
          obtain ⟨ρ, hW, hQ3, hC3, hM3⟩ := mg_all (z := z) (ad := ad1) (o := o1) hG hA1 hA2 hC1 hM2
          refine r_mu hW ?_
          refine r_lv (lv' := [(0, .ref b), (1, .ref (ad1 0 0)), (2, .ref (ad1 20 0)), (3, .ref (ad1 19 0)), (4, .ref (ad1 19 1)), (5, .int (nI i))]) [2, 3, 4, 5, 6, 7] rfl ?_
          exact r_wide (by omega) (by omega) (kk ad1 ρ o1 hQ3 hC3 hM3)
        · skip
          exfalso; omega
set_option maxRecDepth 100000 in
set_option maxHeartbeats 4000000 in
/-- removeRule -/
theorem case_7 {z : Zx} {g : Gx} {tb : List ExceptionTableEntry} {mc ms n k b L i : Nat} {xs : Nat → Int32} {ad0 ad : Nm} {μ0 : Ce} {ok : OkT} {ex : String → Prop} {σ : Sg} {o : Int64 × UInt64} (K : Kn g z cL_law 9 yL_law (some .boolean) tb 12 mc ms ad0 μ0 ok ex) (hl : (gl g).stackTraces = false) (X : Scr z g b L xs) (hL : L ≤ 4000) (hi : i + 6 ≤ L) (Q : IR σ) (C : ICo σ) (M : IMo σ) (hn : n + 20 ≤ mc) (hk : k + 400 ≤ ms) (kk : ∀ ad' ρ o', IR ρ → ICo ρ → IMo ρ → WW g z 9 (n + 20) (k + 400) ad' (Wz z ad' ρ ρ o') 2423 [(0, .ref b), (1, .ref (ad' 0 0)), (2, .ref (ad' 20 0)), (3, .ref (ad' 19 0)), (4, .ref (ad' 19 1)), (5, .int (nI i))] []) : WW g z 9 n k ad (Wz z ad σ σ o) 713 [(0, .ref b), (1, .ref (ad 0 0)), (2, .ref (ad 20 0)), (3, .ref (ad 19 0)), (4, .ref (ad 19 1)), (5, .int (nI i))] [] := by
  show WW g z 9 n k ad (Wz z ad σ σ o) 713 [(0, .ref b), (1, .ref (ad 0 0)), (2, .ref (ad 20 0)), (3, .ref (ad 19 0)), (4, .ref (ad 19 1)), (5, .int (nI i))] []
  refine r_aload_n K dL_law_713 1 rfl rfl ?_
  refine r_aload_n K dL_law_714 0 rfl rfl ?_
  refine r_iload K dL_law_715 5 rfl ?_
  refine r_iconst (v := nI 1) K dL_law_717 (by decide) ?_
  refine r_iadd (v := nI (i + 1)) K dL_law_718 (nI_add _ _) ?_
  refine r_sld (j := i + 1) K X rfl (by omega) (by omega) dL_law_719 ?_
  refine r_aload_n K dL_law_720 3 rfl rfl ?_
  refine r_callSH (st := []) K (k_L_removeRule (σ := σ) (τ := σ) (o := o) hl Q C) wd_684 wd_47 wd_686 wd_685 ⟨by decide, by decide, (by decide +kernel : (parseMethodDescriptor yL_removeRule.desc).map (fun d => d.parameters.length) = some 3)⟩ (by decide) (by decide) rfl (Nat.le_of_ble_eq_true rfl) (by omega) (by omega) dL_law_721 ?_
  rintro _ ad1 _ ⟨rfl, hK1, σ1, o1, rfl, hA1, hC1, hv1⟩
  refine r_eq (lv' := [(0, .ref b), (1, .ref (ad1 0 0)), (2, .ref (ad1 20 0)), (3, .ref (ad1 19 0)), (4, .ref (ad1 19 1)), (5, .int (nI i))]) rfl rfl (by rw [hK1.1, hK1.2.1, hK1.2.2.1, hK1.2.2.2]) rfl ?_
  show WW g z 9 (n + 1) (k + 6) ad1 (Wz z ad1 σ1 σ o1) 724 [(0, .ref b), (1, .ref (ad1 0 0)), (2, .ref (ad1 20 0)), (3, .ref (ad1 19 0)), (4, .ref (ad1 19 1)), (5, .int (nI i))] [.int (nI (cR σ (xs (i + 1))))]
  refine r_istore (lv' := [(6, .int (nI (cR σ (xs (i + 1))))), (0, .ref b), (1, .ref (ad1 0 0)), (2, .ref (ad1 20 0)), (3, .ref (ad1 19 0)), (4, .ref (ad1 19 1)), (5, .int (nI i))]) K dL_law_724 (by decide) rfl ?_
  refine r_aload_n K dL_law_726 3 rfl rfl ?_
  refine r_aload_n K dL_law_727 1 rfl rfl ?_
  refine r_iload K dL_law_728 6 rfl ?_
  refine r_iconst (v := nI 1) K dL_law_730 (by decide) ?_
  refine r_iadd (v := nI (i + 1)) K dL_law_731 (nI_add _ _) ?_
  refine r_sld (j := i + 1) K X rfl (by omega) (by omega) dL_law_732 ?_
  refine r_callV (st := []) K (k_X6_removeRule (σ := σ1) (τ := σ) (o := o1) hl Q M) cw_L_162 wd_1473 wd_1474 (by decide) (by decide) rfl rfl rfl rfl (Nat.le_of_ble_eq_true rfl) (by omega) (by omega) dL_law_733 ?_
  rintro _ _ _ ⟨x1, rfl, hx1, rfl, τ2, rfl, hA2, hM2, h72⟩
  show WW g z 9 (n + 1) (k + 6) ad1 (Wz z ad1 σ1 τ2 o1) 736 [(6, .int (nI (cR σ (xs (i + 1))))), (0, .ref b), (1, .ref (ad1 0 0)), (2, .ref (ad1 20 0)), (3, .ref (ad1 19 0)), (4, .ref (ad1 19 1)), (5, .int (nI i))] [.int (x1)]
  refine r_istore (lv' := [(7, .int (x1)), (6, .int (nI (cR σ (xs (i + 1))))), (0, .ref b), (1, .ref (ad1 0 0)), (2, .ref (ad1 20 0)), (3, .ref (ad1 19 0)), (4, .ref (ad1 19 1)), (5, .int (nI i))]) K dL_law_736 (by decide) rfl ?_
  refine r_aload_n K dL_law_738 4 rfl rfl ?_
  refine r_callV (st := []) K (k_X6_thrown (σ := σ1) (τ := τ2) (o := o1) hl) cw_L_134 wd_1422 wd_1423 (by decide) (by decide) rfl rfl rfl rfl (Nat.le_of_ble_eq_true rfl) (by omega) (by omega) dL_law_739 ?_
  rintro _ _ _ ⟨rfl, rfl, rfl⟩
  refine r_eq (st' := [.int (nI (cR σ (xs (i + 1))))]) rfl rfl rfl (by rw [h72]; rfl) ?_
  show WW g z 9 (n + 1) (k + 6) ad1 (Wz z ad1 σ1 τ2 o1) 742 [(7, .int (x1)), (6, .int (nI (cR σ (xs (i + 1))))), (0, .ref b), (1, .ref (ad1 0 0)), (2, .ref (ad1 20 0)), (3, .ref (ad1 19 0)), (4, .ref (ad1 19 1)), (5, .int (nI i))] [.int (nI (cR σ (xs (i + 1))))]
  refine r_iload K dL_law_742 1 rfl ?_
  refine r_icmp_eq K dL_law_744 749 True (iff_of_true rfl trivial) (by decide) (fun _ => ?_) (fun c => absurd trivial c)
  refine r_iload K dL_law_749 1 rfl ?_
  have hcd : (cR σ (xs (i + 1))) < 2 ^ 31 := by unfold cR; (repeat' split) <;> decide
  refine r_if_ne K dL_law_751 766 ((cR σ (xs (i + 1))) = 0) (n0_eq hcd) (by decide) (fun c_751 => ?_) (fun c_751 => ?_)
  · skip
    refine r_goto K dL_law_766 2423 (by decide) ?_
    have hG : IR (if (cR σ (xs (i + 1))) = 0 then fRem σ (xs (i + 1)) else σ) := by by_cases h0 : (cR σ (xs (i + 1))) = 0; (rw [if_pos h0]; exact ir_rem Q h0); (rw [if_neg h0]; exact Q)
    obtain ⟨ρ, hW, hQ3, hC3, hM3⟩ := mg_all (z := z) (ad := ad1) (o := o1) hG hA1 hA2 hC1 hM2
    refine r_mu hW ?_
    refine r_lv (lv' := [(0, .ref b), (1, .ref (ad1 0 0)), (2, .ref (ad1 20 0)), (3, .ref (ad1 19 0)), (4, .ref (ad1 19 1)), (5, .int (nI i))]) [2, 3, 4, 5, 6, 7] rfl ?_
    exact r_wide (by omega) (by omega) (kk ad1 ρ o1 hQ3 hC3 hM3)
  · skip
    refine r_aload_n K dL_law_754 5 rfl rfl ?_
    refine r_iconst (v := nI 0) K dL_law_755 (by decide) ?_
    refine r_lald (j := 0) (v := o1.1) K rfl rfl rfl (by decide) (by decide) rfl dL_law_756 ?_
    refine r_iload K dL_law_757 0 rfl ?_
    refine r_i2l (v := ((x1).toInt64)) K dL_law_759 rfl ?_
    refine r_lcmpE K (by rw [hv1 c_751, hx1 c_751]) dL_law_760 ?_
    refine r_if_eq K dL_law_761 766 (0 = 0) (n0_eq (by omega)) (by decide) (fun c_761 => ?_) (fun c_761 => ?_)
    · skip
      refine r_goto K dL_law_766 2423 (by decide) ?_
      have hG : IR (if (cR σ (xs (i + 1))) = 0 then fRem σ (xs (i + 1)) else σ) := by by_cases h0 : (cR σ (xs (i + 1))) = 0; (rw [if_pos h0]; exact ir_rem Q h0); (rw [if_neg h0]; exact Q)
      obtain ⟨ρ, hW, hQ3, hC3, hM3⟩ := mg_all (z := z) (ad := ad1) (o := o1) hG hA1 hA2 hC1 hM2
      refine r_mu hW ?_
      refine r_lv (lv' := [(0, .ref b), (1, .ref (ad1 0 0)), (2, .ref (ad1 20 0)), (3, .ref (ad1 19 0)), (4, .ref (ad1 19 1)), (5, .int (nI i))]) [2, 3, 4, 5, 6, 7] rfl ?_
      exact r_wide (by omega) (by omega) (kk ad1 ρ o1 hQ3 hC3 hM3)
    · skip
      exfalso; omega
set_option maxRecDepth 100000 in
set_option maxHeartbeats 4000000 in
/-- ruleCount -/
theorem case_8 {z : Zx} {g : Gx} {tb : List ExceptionTableEntry} {mc ms n k b L i : Nat} {xs : Nat → Int32} {ad0 ad : Nm} {μ0 : Ce} {ok : OkT} {ex : String → Prop} {σ : Sg} {o : Int64 × UInt64} (K : Kn g z cL_law 9 yL_law (some .boolean) tb 12 mc ms ad0 μ0 ok ex) (hl : (gl g).stackTraces = false) (X : Scr z g b L xs) (hL : L ≤ 4000) (hi : i + 6 ≤ L) (Q : IR σ) (C : ICo σ) (M : IMo σ) (hn : n + 20 ≤ mc) (hk : k + 400 ≤ ms) (kk : ∀ ad' ρ o', IR ρ → ICo ρ → IMo ρ → WW g z 9 (n + 20) (k + 400) ad' (Wz z ad' ρ ρ o') 2423 [(0, .ref b), (1, .ref (ad' 0 0)), (2, .ref (ad' 20 0)), (3, .ref (ad' 19 0)), (4, .ref (ad' 19 1)), (5, .int (nI i))] []) : WW g z 9 n k ad (Wz z ad σ σ o) 769 [(0, .ref b), (1, .ref (ad 0 0)), (2, .ref (ad 20 0)), (3, .ref (ad 19 0)), (4, .ref (ad 19 1)), (5, .int (nI i))] [] := by
  show WW g z 9 n k ad (Wz z ad σ σ o) 769 [(0, .ref b), (1, .ref (ad 0 0)), (2, .ref (ad 20 0)), (3, .ref (ad 19 0)), (4, .ref (ad 19 1)), (5, .int (nI i))] []
  refine r_aload_n K dL_law_769 1 rfl rfl ?_
  refine r_callV (st := []) K (k_X5_ruleCount (σ := σ) (τ := σ) (o := o) hl Q C) cw_L_163 wd_210 wd_211 (by decide) (by decide) rfl rfl rfl rfl (Nat.le_of_ble_eq_true rfl) (by omega) (by omega) dL_law_770 ?_
  rintro _ ad1 _ ⟨-, rfl, hK1, σ1, rfl, hA1, hC1⟩
  refine r_eq (lv' := [(0, .ref b), (1, .ref (ad1 0 0)), (2, .ref (ad1 20 0)), (3, .ref (ad1 19 0)), (4, .ref (ad1 19 1)), (5, .int (nI i))]) rfl rfl (by rw [hK1.1, hK1.2.1, hK1.2.2.1, hK1.2.2.2]) rfl ?_
  show WW g z 9 n k ad1 (Wz z ad1 σ1 σ o) 773 [(0, .ref b), (1, .ref (ad1 0 0)), (2, .ref (ad1 20 0)), (3, .ref (ad1 19 0)), (4, .ref (ad1 19 1)), (5, .int (nI i))] [.int (nI (σ 0 1 0))]
  refine r_aload_n K dL_law_773 2 rfl rfl ?_
  refine r_callV (st := [.int (nI (σ 0 1 0))]) K (k_X6_ruleCount (σ := σ1) (τ := σ) (o := o) hl Q M) cw_L_166 wd_1481 wd_1482 (by decide) (by decide) rfl rfl rfl rfl (Nat.le_of_ble_eq_true rfl) (by omega) (by omega) dL_law_774 ?_
  rintro _ _ _ ⟨x1, rfl, hx1, rfl, τ2, rfl, hA2, hM2, h72⟩
  show WW g z 9 n k ad1 (Wz z ad1 σ1 τ2 o) 777 [(0, .ref b), (1, .ref (ad1 0 0)), (2, .ref (ad1 20 0)), (3, .ref (ad1 19 0)), (4, .ref (ad1 19 1)), (5, .int (nI i))] [.int (x1), .int (nI (σ 0 1 0))]
  refine r_icmp_eq K dL_law_777 2423 True (iff_of_true (hx1 rfl).symm trivial) (by decide) (fun _ => ?_) (fun c => absurd trivial c)
  have hG : IR σ := Q
  obtain ⟨ρ, hW, hQ3, hC3, hM3⟩ := mg_all (z := z) (ad := ad1) (o := o) hG hA1 hA2 hC1 hM2
  refine r_mu hW ?_
  refine r_lv (lv' := [(0, .ref b), (1, .ref (ad1 0 0)), (2, .ref (ad1 20 0)), (3, .ref (ad1 19 0)), (4, .ref (ad1 19 1)), (5, .int (nI i))]) [0, 1, 2, 3, 4, 5] rfl ?_
  exact r_wide (by omega) (by omega) (kk ad1 ρ o hQ3 hC3 hM3)
set_option maxRecDepth 100000 in
set_option maxHeartbeats 4000000 in
/-- doesHold -/
theorem case_9 {z : Zx} {g : Gx} {tb : List ExceptionTableEntry} {mc ms n k b L i : Nat} {xs : Nat → Int32} {ad0 ad : Nm} {μ0 : Ce} {ok : OkT} {ex : String → Prop} {σ : Sg} {o : Int64 × UInt64} (K : Kn g z cL_law 9 yL_law (some .boolean) tb 12 mc ms ad0 μ0 ok ex) (hl : (gl g).stackTraces = false) (X : Scr z g b L xs) (hL : L ≤ 4000) (hi : i + 6 ≤ L) (Q : IR σ) (C : ICo σ) (M : IMo σ) (hn : n + 20 ≤ mc) (hk : k + 400 ≤ ms) (kk : ∀ ad' ρ o', IR ρ → ICo ρ → IMo ρ → WW g z 9 (n + 20) (k + 400) ad' (Wz z ad' ρ ρ o') 2423 [(0, .ref b), (1, .ref (ad' 0 0)), (2, .ref (ad' 20 0)), (3, .ref (ad' 19 0)), (4, .ref (ad' 19 1)), (5, .int (nI i))] []) : WW g z 9 n k ad (Wz z ad σ σ o) 782 [(0, .ref b), (1, .ref (ad 0 0)), (2, .ref (ad 20 0)), (3, .ref (ad 19 0)), (4, .ref (ad 19 1)), (5, .int (nI i))] [] := by
  show WW g z 9 n k ad (Wz z ad σ σ o) 782 [(0, .ref b), (1, .ref (ad 0 0)), (2, .ref (ad 20 0)), (3, .ref (ad 19 0)), (4, .ref (ad 19 1)), (5, .int (nI i))] []
  refine r_aload_n K dL_law_782 1 rfl rfl ?_
  refine r_aload_n K dL_law_783 0 rfl rfl ?_
  refine r_iload K dL_law_784 5 rfl ?_
  refine r_iconst (v := nI 1) K dL_law_786 (by decide) ?_
  refine r_iadd (v := nI (i + 1)) K dL_law_787 (nI_add _ _) ?_
  refine r_sld (j := i + 1) K X rfl (by omega) (by omega) dL_law_788 ?_
  refine r_aload_n K dL_law_789 3 rfl rfl ?_
  refine r_callSH (st := []) K (k_L_doesHold (σ := σ) (τ := σ) (o := o) hl Q C) wd_705 wd_47 wd_707 wd_706 ⟨by decide, by decide, (by decide +kernel : (parseMethodDescriptor yL_doesHold.desc).map (fun d => d.parameters.length) = some 3)⟩ (by decide) (by decide) rfl (Nat.le_of_ble_eq_true rfl) (by omega) (by omega) dL_law_790 ?_
  rintro _ ad1 _ ⟨rfl, hK1, σ1, o1, rfl, hA1, hC1, hv1⟩
  rw [ite_sg] at hA1
  refine r_eq (lv' := [(0, .ref b), (1, .ref (ad1 0 0)), (2, .ref (ad1 20 0)), (3, .ref (ad1 19 0)), (4, .ref (ad1 19 1)), (5, .int (nI i))]) rfl rfl (by rw [hK1.1, hK1.2.1, hK1.2.2.1, hK1.2.2.2]) rfl ?_
  show WW g z 9 (n + 1) (k + 6) ad1 (Wz z ad1 σ1 σ o1) 793 [(0, .ref b), (1, .ref (ad1 0 0)), (2, .ref (ad1 20 0)), (3, .ref (ad1 19 0)), (4, .ref (ad1 19 1)), (5, .int (nI i))] [.int (nI (cR σ (xs (i + 1))))]
  refine r_istore (lv' := [(6, .int (nI (cR σ (xs (i + 1))))), (0, .ref b), (1, .ref (ad1 0 0)), (2, .ref (ad1 20 0)), (3, .ref (ad1 19 0)), (4, .ref (ad1 19 1)), (5, .int (nI i))]) K dL_law_793 (by decide) rfl ?_
  refine r_aload_n K dL_law_795 3 rfl rfl ?_
  refine r_aload_n K dL_law_796 1 rfl rfl ?_
  refine r_iload K dL_law_797 6 rfl ?_
  refine r_iconst (v := nI 1) K dL_law_799 (by decide) ?_
  refine r_iadd (v := nI (i + 1)) K dL_law_800 (nI_add _ _) ?_
  refine r_sld (j := i + 1) K X rfl (by omega) (by omega) dL_law_801 ?_
  refine r_callV (st := []) K (k_X6_doesHold (σ := σ1) (τ := σ) (o := o1) hl Q M) cw_L_169 wd_1485 wd_1486 (by decide) (by decide) rfl rfl rfl rfl (Nat.le_of_ble_eq_true rfl) (by omega) (by omega) dL_law_802 ?_
  rintro _ _ _ ⟨x1, rfl, hx1, rfl, τ2, rfl, hA2, hM2, h72⟩
  have hb1 : (cR σ (xs (i + 1))) = 0 → ¬ x1 = 0 → x1 = 1 := fun h q => by rw [hx1 h] at q ⊢; rcases (show hldN (σ 8) (σ 1) (fun i => σ 3 i 0) (jN (xs (i + 1))) = 0 ∨ hldN (σ 8) (σ 1) (fun i => σ 3 i 0) (jN (xs (i + 1))) = 1 by have := hldN_le (σ 8) (σ 1) (fun i => σ 3 i 0) (jN (xs (i + 1))); omega) with e | e <;> rw [e] at q ⊢ <;> first | rfl | exact absurd rfl q
  show WW g z 9 (n + 1) (k + 6) ad1 (Wz z ad1 σ1 τ2 o1) 805 [(6, .int (nI (cR σ (xs (i + 1))))), (0, .ref b), (1, .ref (ad1 0 0)), (2, .ref (ad1 20 0)), (3, .ref (ad1 19 0)), (4, .ref (ad1 19 1)), (5, .int (nI i))] [.int (x1)]
  refine r_istore (lv' := [(7, .int (x1)), (6, .int (nI (cR σ (xs (i + 1))))), (0, .ref b), (1, .ref (ad1 0 0)), (2, .ref (ad1 20 0)), (3, .ref (ad1 19 0)), (4, .ref (ad1 19 1)), (5, .int (nI i))]) K dL_law_805 (by decide) rfl ?_
  refine r_aload_n K dL_law_807 4 rfl rfl ?_
  refine r_callV (st := []) K (k_X6_thrown (σ := σ1) (τ := τ2) (o := o1) hl) cw_L_134 wd_1422 wd_1423 (by decide) (by decide) rfl rfl rfl rfl (Nat.le_of_ble_eq_true rfl) (by omega) (by omega) dL_law_808 ?_
  rintro _ _ _ ⟨rfl, rfl, rfl⟩
  refine r_eq (st' := [.int (nI (cR σ (xs (i + 1))))]) rfl rfl rfl (by rw [h72]; rfl) ?_
  show WW g z 9 (n + 1) (k + 6) ad1 (Wz z ad1 σ1 τ2 o1) 811 [(7, .int (x1)), (6, .int (nI (cR σ (xs (i + 1))))), (0, .ref b), (1, .ref (ad1 0 0)), (2, .ref (ad1 20 0)), (3, .ref (ad1 19 0)), (4, .ref (ad1 19 1)), (5, .int (nI i))] [.int (nI (cR σ (xs (i + 1))))]
  refine r_iload K dL_law_811 1 rfl ?_
  refine r_icmp_eq K dL_law_813 818 True (iff_of_true rfl trivial) (by decide) (fun _ => ?_) (fun c => absurd trivial c)
  refine r_iload K dL_law_818 1 rfl ?_
  have hcd : (cR σ (xs (i + 1))) < 2 ^ 31 := by unfold cR; (repeat' split) <;> decide
  refine r_if_ne K dL_law_820 842 ((cR σ (xs (i + 1))) = 0) (n0_eq hcd) (by decide) (fun c_820 => ?_) (fun c_820 => ?_)
  · skip
    refine r_goto K dL_law_842 2423 (by decide) ?_
    have hG : IR σ := Q
    obtain ⟨ρ, hW, hQ3, hC3, hM3⟩ := mg_all (z := z) (ad := ad1) (o := o1) hG hA1 hA2 hC1 hM2
    refine r_mu hW ?_
    refine r_lv (lv' := [(0, .ref b), (1, .ref (ad1 0 0)), (2, .ref (ad1 20 0)), (3, .ref (ad1 19 0)), (4, .ref (ad1 19 1)), (5, .int (nI i))]) [2, 3, 4, 5, 6, 7] rfl ?_
    exact r_wide (by omega) (by omega) (kk ad1 ρ o1 hQ3 hC3 hM3)
  · skip
    refine r_aload_n K dL_law_823 5 rfl rfl ?_
    refine r_iconst (v := nI 0) K dL_law_824 (by decide) ?_
    refine r_lald (j := 0) (v := o1.1) K rfl rfl rfl (by decide) (by decide) rfl dL_law_825 ?_
    refine r_iload K dL_law_826 0 rfl ?_
    refine r_if_eq K dL_law_828 835 (x1 = 0) Iff.rfl (by decide) (fun c_828 => ?_) (fun c_828 => ?_)
    · skip
      refine r_lconst (v := nJ (0)) K dL_law_835 rfl ?_
      refine r_lcmpE K (by rw [hv1 c_820, ← hx1 c_820, c_828]; rfl) dL_law_836 ?_
      refine r_if_eq K dL_law_837 842 (0 = 0) (n0_eq (by omega)) (by decide) (fun c_837 => ?_) (fun c_837 => ?_)
      · skip
        refine r_goto K dL_law_842 2423 (by decide) ?_
        have hG : IR σ := Q
        obtain ⟨ρ, hW, hQ3, hC3, hM3⟩ := mg_all (z := z) (ad := ad1) (o := o1) hG hA1 hA2 hC1 hM2
        refine r_mu hW ?_
        refine r_lv (lv' := [(0, .ref b), (1, .ref (ad1 0 0)), (2, .ref (ad1 20 0)), (3, .ref (ad1 19 0)), (4, .ref (ad1 19 1)), (5, .int (nI i))]) [2, 3, 4, 5, 6, 7] rfl ?_
        exact r_wide (by omega) (by omega) (kk ad1 ρ o1 hQ3 hC3 hM3)
      · skip
        exfalso; omega
    · skip
      refine r_lconst (v := nJ (1)) K dL_law_831 rfl ?_
      refine r_goto K dL_law_832 836 (by decide) ?_
      refine r_lcmpE K (by rw [hv1 c_820, ← hx1 c_820, hb1 c_820 c_828]; rfl) dL_law_836 ?_
      refine r_if_eq K dL_law_837 842 (0 = 0) (n0_eq (by omega)) (by decide) (fun c_837 => ?_) (fun c_837 => ?_)
      · skip
        refine r_goto K dL_law_842 2423 (by decide) ?_
        have hG : IR σ := Q
        obtain ⟨ρ, hW, hQ3, hC3, hM3⟩ := mg_all (z := z) (ad := ad1) (o := o1) hG hA1 hA2 hC1 hM2
        refine r_mu hW ?_
        refine r_lv (lv' := [(0, .ref b), (1, .ref (ad1 0 0)), (2, .ref (ad1 20 0)), (3, .ref (ad1 19 0)), (4, .ref (ad1 19 1)), (5, .int (nI i))]) [2, 3, 4, 5, 6, 7] rfl ?_
        exact r_wide (by omega) (by omega) (kk ad1 ρ o1 hQ3 hC3 hM3)
      · skip
        exfalso; omega
set_option maxRecDepth 100000 in
set_option maxHeartbeats 4000000 in
/-- openingNow -/
theorem case_10 {z : Zx} {g : Gx} {tb : List ExceptionTableEntry} {mc ms n k b L i : Nat} {xs : Nat → Int32} {ad0 ad : Nm} {μ0 : Ce} {ok : OkT} {ex : String → Prop} {σ : Sg} {o : Int64 × UInt64} (K : Kn g z cL_law 9 yL_law (some .boolean) tb 12 mc ms ad0 μ0 ok ex) (hl : (gl g).stackTraces = false) (X : Scr z g b L xs) (hL : L ≤ 4000) (hi : i + 6 ≤ L) (Q : IR σ) (C : ICo σ) (M : IMo σ) (hn : n + 20 ≤ mc) (hk : k + 400 ≤ ms) (kk : ∀ ad' ρ o', IR ρ → ICo ρ → IMo ρ → WW g z 9 (n + 20) (k + 400) ad' (Wz z ad' ρ ρ o') 2423 [(0, .ref b), (1, .ref (ad' 0 0)), (2, .ref (ad' 20 0)), (3, .ref (ad' 19 0)), (4, .ref (ad' 19 1)), (5, .int (nI i))] []) : WW g z 9 n k ad (Wz z ad σ σ o) 845 [(0, .ref b), (1, .ref (ad 0 0)), (2, .ref (ad 20 0)), (3, .ref (ad 19 0)), (4, .ref (ad 19 1)), (5, .int (nI i))] [] := by
  show WW g z 9 n k ad (Wz z ad σ σ o) 845 [(0, .ref b), (1, .ref (ad 0 0)), (2, .ref (ad 20 0)), (3, .ref (ad 19 0)), (4, .ref (ad 19 1)), (5, .int (nI i))] []
  refine r_aload_n K dL_law_845 1 rfl rfl ?_
  refine r_aload_n K dL_law_846 0 rfl rfl ?_
  refine r_iload K dL_law_847 5 rfl ?_
  refine r_iconst (v := nI 1) K dL_law_849 (by decide) ?_
  refine r_iadd (v := nI (i + 1)) K dL_law_850 (nI_add _ _) ?_
  refine r_sld (j := i + 1) K X rfl (by omega) (by omega) dL_law_851 ?_
  refine r_aload_n K dL_law_852 3 rfl rfl ?_
  refine r_callSH (st := []) K (k_L_openingNow (σ := σ) (τ := σ) (o := o) hl Q C) wd_712 wd_47 wd_714 wd_713 ⟨by decide, by decide, (by decide +kernel : (parseMethodDescriptor yL_openingNow.desc).map (fun d => d.parameters.length) = some 3)⟩ (by decide) (by decide) rfl (Nat.le_of_ble_eq_true rfl) (by omega) (by omega) dL_law_853 ?_
  rintro _ ad1 _ ⟨rfl, hK1, σ1, o1, rfl, hA1, hC1, hv1⟩
  rw [ite_sg] at hA1
  refine r_eq (lv' := [(0, .ref b), (1, .ref (ad1 0 0)), (2, .ref (ad1 20 0)), (3, .ref (ad1 19 0)), (4, .ref (ad1 19 1)), (5, .int (nI i))]) rfl rfl (by rw [hK1.1, hK1.2.1, hK1.2.2.1, hK1.2.2.2]) rfl ?_
  show WW g z 9 (n + 1) (k + 6) ad1 (Wz z ad1 σ1 σ o1) 856 [(0, .ref b), (1, .ref (ad1 0 0)), (2, .ref (ad1 20 0)), (3, .ref (ad1 19 0)), (4, .ref (ad1 19 1)), (5, .int (nI i))] [.int (nI (cB σ (xs (i + 1))))]
  refine r_istore (lv' := [(6, .int (nI (cB σ (xs (i + 1))))), (0, .ref b), (1, .ref (ad1 0 0)), (2, .ref (ad1 20 0)), (3, .ref (ad1 19 0)), (4, .ref (ad1 19 1)), (5, .int (nI i))]) K dL_law_856 (by decide) rfl ?_
  refine r_aload_n K dL_law_858 3 rfl rfl ?_
  refine r_aload_n K dL_law_859 1 rfl rfl ?_
  refine r_iload K dL_law_860 6 rfl ?_
  refine r_iconst (v := nI 1) K dL_law_862 (by decide) ?_
  refine r_iadd (v := nI (i + 1)) K dL_law_863 (nI_add _ _) ?_
  refine r_sld (j := i + 1) K X rfl (by omega) (by omega) dL_law_864 ?_
  refine r_callV (st := []) K (k_X6_openingNow (σ := σ1) (τ := σ) (o := o1) hl Q M) cw_L_172 wd_1493 wd_1494 (by decide) (by decide) rfl rfl rfl rfl (Nat.le_of_ble_eq_true rfl) (by omega) (by omega) dL_law_865 ?_
  rintro _ _ _ ⟨x1, rfl, hx1, rfl, τ2, rfl, hA2, hM2, h72⟩
  show WW g z 9 (n + 1) (k + 6) ad1 (Wz z ad1 σ1 τ2 o1) 868 [(6, .int (nI (cB σ (xs (i + 1))))), (0, .ref b), (1, .ref (ad1 0 0)), (2, .ref (ad1 20 0)), (3, .ref (ad1 19 0)), (4, .ref (ad1 19 1)), (5, .int (nI i))] [.int (x1)]
  refine r_istore (lv' := [(7, .int (x1)), (6, .int (nI (cB σ (xs (i + 1))))), (0, .ref b), (1, .ref (ad1 0 0)), (2, .ref (ad1 20 0)), (3, .ref (ad1 19 0)), (4, .ref (ad1 19 1)), (5, .int (nI i))]) K dL_law_868 (by decide) rfl ?_
  refine r_aload_n K dL_law_870 4 rfl rfl ?_
  refine r_callV (st := []) K (k_X6_thrown (σ := σ1) (τ := τ2) (o := o1) hl) cw_L_134 wd_1422 wd_1423 (by decide) (by decide) rfl rfl rfl rfl (Nat.le_of_ble_eq_true rfl) (by omega) (by omega) dL_law_871 ?_
  rintro _ _ _ ⟨rfl, rfl, rfl⟩
  refine r_eq (st' := [.int (nI (cB σ (xs (i + 1))))]) rfl rfl rfl (by rw [h72]; rfl) ?_
  show WW g z 9 (n + 1) (k + 6) ad1 (Wz z ad1 σ1 τ2 o1) 874 [(7, .int (x1)), (6, .int (nI (cB σ (xs (i + 1))))), (0, .ref b), (1, .ref (ad1 0 0)), (2, .ref (ad1 20 0)), (3, .ref (ad1 19 0)), (4, .ref (ad1 19 1)), (5, .int (nI i))] [.int (nI (cB σ (xs (i + 1))))]
  refine r_iload K dL_law_874 1 rfl ?_
  refine r_icmp_eq K dL_law_876 881 True (iff_of_true rfl trivial) (by decide) (fun _ => ?_) (fun c => absurd trivial c)
  refine r_iload K dL_law_881 1 rfl ?_
  have hcd : (cB σ (xs (i + 1))) < 2 ^ 31 := by unfold cB; (repeat' split) <;> decide
  refine r_if_ne K dL_law_883 898 ((cB σ (xs (i + 1))) = 0) (n0_eq hcd) (by decide) (fun c_883 => ?_) (fun c_883 => ?_)
  · skip
    refine r_goto K dL_law_898 2423 (by decide) ?_
    have hG : IR σ := Q
    obtain ⟨ρ, hW, hQ3, hC3, hM3⟩ := mg_all (z := z) (ad := ad1) (o := o1) hG hA1 hA2 hC1 hM2
    refine r_mu hW ?_
    refine r_lv (lv' := [(0, .ref b), (1, .ref (ad1 0 0)), (2, .ref (ad1 20 0)), (3, .ref (ad1 19 0)), (4, .ref (ad1 19 1)), (5, .int (nI i))]) [2, 3, 4, 5, 6, 7] rfl ?_
    exact r_wide (by omega) (by omega) (kk ad1 ρ o1 hQ3 hC3 hM3)
  · skip
    refine r_aload_n K dL_law_886 5 rfl rfl ?_
    refine r_iconst (v := nI 0) K dL_law_887 (by decide) ?_
    refine r_lald (j := 0) (v := o1.1) K rfl rfl rfl (by decide) (by decide) rfl dL_law_888 ?_
    refine r_iload K dL_law_889 0 rfl ?_
    refine r_i2l (v := ((x1).toInt64)) K dL_law_891 rfl ?_
    refine r_lcmpE K (by rw [hv1 c_883, hx1 c_883]) dL_law_892 ?_
    refine r_if_eq K dL_law_893 898 (0 = 0) (n0_eq (by omega)) (by decide) (fun c_893 => ?_) (fun c_893 => ?_)
    · skip
      refine r_goto K dL_law_898 2423 (by decide) ?_
      have hG : IR σ := Q
      obtain ⟨ρ, hW, hQ3, hC3, hM3⟩ := mg_all (z := z) (ad := ad1) (o := o1) hG hA1 hA2 hC1 hM2
      refine r_mu hW ?_
      refine r_lv (lv' := [(0, .ref b), (1, .ref (ad1 0 0)), (2, .ref (ad1 20 0)), (3, .ref (ad1 19 0)), (4, .ref (ad1 19 1)), (5, .int (nI i))]) [2, 3, 4, 5, 6, 7] rfl ?_
      exact r_wide (by omega) (by omega) (kk ad1 ρ o1 hQ3 hC3 hM3)
    · skip
      exfalso; omega
set_option maxRecDepth 100000 in
set_option maxHeartbeats 4000000 in
/-- setRain -/
theorem case_11 {z : Zx} {g : Gx} {tb : List ExceptionTableEntry} {mc ms n k b L i : Nat} {xs : Nat → Int32} {ad0 ad : Nm} {μ0 : Ce} {ok : OkT} {ex : String → Prop} {σ : Sg} {o : Int64 × UInt64} (K : Kn g z cL_law 9 yL_law (some .boolean) tb 12 mc ms ad0 μ0 ok ex) (hl : (gl g).stackTraces = false) (X : Scr z g b L xs) (hL : L ≤ 4000) (hi : i + 6 ≤ L) (Q : IR σ) (C : ICo σ) (M : IMo σ) (hn : n + 20 ≤ mc) (hk : k + 400 ≤ ms) (kk : ∀ ad' ρ o', IR ρ → ICo ρ → IMo ρ → WW g z 9 (n + 20) (k + 400) ad' (Wz z ad' ρ ρ o') 2423 [(0, .ref b), (1, .ref (ad' 0 0)), (2, .ref (ad' 20 0)), (3, .ref (ad' 19 0)), (4, .ref (ad' 19 1)), (5, .int (nI i))] []) : WW g z 9 n k ad (Wz z ad σ σ o) 901 [(0, .ref b), (1, .ref (ad 0 0)), (2, .ref (ad 20 0)), (3, .ref (ad 19 0)), (4, .ref (ad 19 1)), (5, .int (nI i))] [] := by
  show WW g z 9 n k ad (Wz z ad σ σ o) 901 [(0, .ref b), (1, .ref (ad 0 0)), (2, .ref (ad 20 0)), (3, .ref (ad 19 0)), (4, .ref (ad 19 1)), (5, .int (nI i))] []
  refine r_aload_n K dL_law_901 1 rfl rfl ?_
  refine r_aload_n K dL_law_902 0 rfl rfl ?_
  refine r_iload K dL_law_903 5 rfl ?_
  refine r_iconst (v := nI 1) K dL_law_905 (by decide) ?_
  refine r_iadd (v := nI (i + 1)) K dL_law_906 (nI_add _ _) ?_
  refine r_sld (j := i + 1) K X rfl (by omega) (by omega) dL_law_907 ?_
  refine r_aload_n K dL_law_908 0 rfl rfl ?_
  refine r_iload K dL_law_909 5 rfl ?_
  refine r_iconst (v := nI 2) K dL_law_911 (by decide) ?_
  refine r_iadd (v := nI (i + 2)) K dL_law_912 (nI_add _ _) ?_
  refine r_sld (j := i + 2) K X rfl (by omega) (by omega) dL_law_913 ?_
  refine r_aload_n K dL_law_914 3 rfl rfl ?_
  refine r_callSH (st := []) K (k_L_setRain (σ := σ) (τ := σ) (o := o) hl Q C) wd_719 wd_47 wd_721 wd_720 ⟨by decide, by decide, (by decide +kernel : (parseMethodDescriptor yL_setRain.desc).map (fun d => d.parameters.length) = some 4)⟩ (by decide) (by decide) rfl (Nat.le_of_ble_eq_true rfl) (by omega) (by omega) dL_law_915 ?_
  rintro _ ad1 _ ⟨rfl, hK1, σ1, o1, rfl, hA1, hC1, hv1⟩
  refine r_eq (lv' := [(0, .ref b), (1, .ref (ad1 0 0)), (2, .ref (ad1 20 0)), (3, .ref (ad1 19 0)), (4, .ref (ad1 19 1)), (5, .int (nI i))]) rfl rfl (by rw [hK1.1, hK1.2.1, hK1.2.2.1, hK1.2.2.2]) rfl ?_
  show WW g z 9 (n + 2) (k + 12) ad1 (Wz z ad1 σ1 σ o1) 918 [(0, .ref b), (1, .ref (ad1 0 0)), (2, .ref (ad1 20 0)), (3, .ref (ad1 19 0)), (4, .ref (ad1 19 1)), (5, .int (nI i))] [.int (nI (cBx σ 500 (xs (i + 1)) (xs (i + 2))))]
  refine r_istore (lv' := [(6, .int (nI (cBx σ 500 (xs (i + 1)) (xs (i + 2))))), (0, .ref b), (1, .ref (ad1 0 0)), (2, .ref (ad1 20 0)), (3, .ref (ad1 19 0)), (4, .ref (ad1 19 1)), (5, .int (nI i))]) K dL_law_918 (by decide) rfl ?_
  refine r_aload_n K dL_law_920 3 rfl rfl ?_
  refine r_aload_n K dL_law_921 1 rfl rfl ?_
  refine r_iload K dL_law_922 6 rfl ?_
  refine r_iconst (v := nI 1) K dL_law_924 (by decide) ?_
  refine r_iadd (v := nI (i + 1)) K dL_law_925 (nI_add _ _) ?_
  refine r_sld (j := i + 1) K X rfl (by omega) (by omega) dL_law_926 ?_
  refine r_aload_n K dL_law_927 1 rfl rfl ?_
  refine r_iload K dL_law_928 6 rfl ?_
  refine r_iconst (v := nI 2) K dL_law_930 (by decide) ?_
  refine r_iadd (v := nI (i + 2)) K dL_law_931 (nI_add _ _) ?_
  refine r_sld (j := i + 2) K X rfl (by omega) (by omega) dL_law_932 ?_
  refine r_callV (st := []) K (k_X6_setRain (σ := σ1) (τ := σ) (o := o1) hl Q M) cw_L_175 wd_1501 wd_1502 (by decide) (by decide) rfl rfl rfl rfl (Nat.le_of_ble_eq_true rfl) (by omega) (by omega) dL_law_933 ?_
  rintro _ _ _ ⟨x1, rfl, hx1, rfl, τ2, rfl, hA2, hM2, h72⟩
  show WW g z 9 (n + 2) (k + 12) ad1 (Wz z ad1 σ1 τ2 o1) 936 [(6, .int (nI (cBx σ 500 (xs (i + 1)) (xs (i + 2))))), (0, .ref b), (1, .ref (ad1 0 0)), (2, .ref (ad1 20 0)), (3, .ref (ad1 19 0)), (4, .ref (ad1 19 1)), (5, .int (nI i))] [.int (x1)]
  refine r_istore (lv' := [(7, .int (x1)), (6, .int (nI (cBx σ 500 (xs (i + 1)) (xs (i + 2))))), (0, .ref b), (1, .ref (ad1 0 0)), (2, .ref (ad1 20 0)), (3, .ref (ad1 19 0)), (4, .ref (ad1 19 1)), (5, .int (nI i))]) K dL_law_936 (by decide) rfl ?_
  refine r_aload_n K dL_law_938 4 rfl rfl ?_
  refine r_callV (st := []) K (k_X6_thrown (σ := σ1) (τ := τ2) (o := o1) hl) cw_L_134 wd_1422 wd_1423 (by decide) (by decide) rfl rfl rfl rfl (Nat.le_of_ble_eq_true rfl) (by omega) (by omega) dL_law_939 ?_
  rintro _ _ _ ⟨rfl, rfl, rfl⟩
  refine r_eq (st' := [.int (nI (cBx σ 500 (xs (i + 1)) (xs (i + 2))))]) rfl rfl rfl (by rw [h72]; rfl) ?_
  show WW g z 9 (n + 2) (k + 12) ad1 (Wz z ad1 σ1 τ2 o1) 942 [(7, .int (x1)), (6, .int (nI (cBx σ 500 (xs (i + 1)) (xs (i + 2))))), (0, .ref b), (1, .ref (ad1 0 0)), (2, .ref (ad1 20 0)), (3, .ref (ad1 19 0)), (4, .ref (ad1 19 1)), (5, .int (nI i))] [.int (nI (cBx σ 500 (xs (i + 1)) (xs (i + 2))))]
  refine r_iload K dL_law_942 1 rfl ?_
  refine r_icmp_eq K dL_law_944 949 True (iff_of_true rfl trivial) (by decide) (fun _ => ?_) (fun c => absurd trivial c)
  refine r_iload K dL_law_949 1 rfl ?_
  have hcd : (cBx σ 500 (xs (i + 1)) (xs (i + 2))) < 2 ^ 31 := by unfold cBx; (repeat' split) <;> decide
  refine r_if_ne K dL_law_951 966 ((cBx σ 500 (xs (i + 1)) (xs (i + 2))) = 0) (n0_eq hcd) (by decide) (fun c_951 => ?_) (fun c_951 => ?_)
  · skip
    refine r_goto K dL_law_966 2423 (by decide) ?_
    have hG : IR (if (cBx σ 500 (xs (i + 1)) (xs (i + 2))) = 0 then fRain σ (xs (i + 1)) (xs (i + 2)) else σ) := by by_cases h0 : (cBx σ 500 (xs (i + 1)) (xs (i + 2))) = 0; (rw [if_pos h0]; exact ir_rain Q h0); (rw [if_neg h0]; exact Q)
    obtain ⟨ρ, hW, hQ3, hC3, hM3⟩ := mg_all (z := z) (ad := ad1) (o := o1) hG hA1 hA2 hC1 hM2
    refine r_mu hW ?_
    refine r_lv (lv' := [(0, .ref b), (1, .ref (ad1 0 0)), (2, .ref (ad1 20 0)), (3, .ref (ad1 19 0)), (4, .ref (ad1 19 1)), (5, .int (nI i))]) [2, 3, 4, 5, 6, 7] rfl ?_
    exact r_wide (by omega) (by omega) (kk ad1 ρ o1 hQ3 hC3 hM3)
  · skip
    refine r_aload_n K dL_law_954 5 rfl rfl ?_
    refine r_iconst (v := nI 0) K dL_law_955 (by decide) ?_
    refine r_lald (j := 0) (v := o1.1) K rfl rfl rfl (by decide) (by decide) rfl dL_law_956 ?_
    refine r_iload K dL_law_957 0 rfl ?_
    refine r_i2l (v := ((x1).toInt64)) K dL_law_959 rfl ?_
    refine r_lcmpE K (by rw [hv1 c_951, hx1 c_951]) dL_law_960 ?_
    refine r_if_eq K dL_law_961 966 (0 = 0) (n0_eq (by omega)) (by decide) (fun c_961 => ?_) (fun c_961 => ?_)
    · skip
      refine r_goto K dL_law_966 2423 (by decide) ?_
      have hG : IR (if (cBx σ 500 (xs (i + 1)) (xs (i + 2))) = 0 then fRain σ (xs (i + 1)) (xs (i + 2)) else σ) := by by_cases h0 : (cBx σ 500 (xs (i + 1)) (xs (i + 2))) = 0; (rw [if_pos h0]; exact ir_rain Q h0); (rw [if_neg h0]; exact Q)
      obtain ⟨ρ, hW, hQ3, hC3, hM3⟩ := mg_all (z := z) (ad := ad1) (o := o1) hG hA1 hA2 hC1 hM2
      refine r_mu hW ?_
      refine r_lv (lv' := [(0, .ref b), (1, .ref (ad1 0 0)), (2, .ref (ad1 20 0)), (3, .ref (ad1 19 0)), (4, .ref (ad1 19 1)), (5, .int (nI i))]) [2, 3, 4, 5, 6, 7] rfl ?_
      exact r_wide (by omega) (by omega) (kk ad1 ρ o1 hQ3 hC3 hM3)
    · skip
      exfalso; omega
set_option maxRecDepth 100000 in
set_option maxHeartbeats 4000000 in
/-- pass -/
theorem case_12 {z : Zx} {g : Gx} {tb : List ExceptionTableEntry} {mc ms n k b L i : Nat} {xs : Nat → Int32} {ad0 ad : Nm} {μ0 : Ce} {ok : OkT} {ex : String → Prop} {σ : Sg} {o : Int64 × UInt64} (K : Kn g z cL_law 9 yL_law (some .boolean) tb 12 mc ms ad0 μ0 ok ex) (hl : (gl g).stackTraces = false) (X : Scr z g b L xs) (hL : L ≤ 4000) (hi : i + 6 ≤ L) (Q : IR σ) (C : ICo σ) (M : IMo σ) (hn : n + 20 ≤ mc) (hk : k + 400 ≤ ms) (kk : ∀ ad' ρ o', IR ρ → ICo ρ → IMo ρ → WW g z 9 (n + 20) (k + 400) ad' (Wz z ad' ρ ρ o') 2423 [(0, .ref b), (1, .ref (ad' 0 0)), (2, .ref (ad' 20 0)), (3, .ref (ad' 19 0)), (4, .ref (ad' 19 1)), (5, .int (nI i))] []) : WW g z 9 n k ad (Wz z ad σ σ o) 969 [(0, .ref b), (1, .ref (ad 0 0)), (2, .ref (ad 20 0)), (3, .ref (ad 19 0)), (4, .ref (ad 19 1)), (5, .int (nI i))] [] := by
  show WW g z 9 n k ad (Wz z ad σ σ o) 969 [(0, .ref b), (1, .ref (ad 0 0)), (2, .ref (ad 20 0)), (3, .ref (ad 19 0)), (4, .ref (ad 19 1)), (5, .int (nI i))] []
  refine r_aload_n K dL_law_969 1 rfl rfl ?_
  refine r_aload_n K dL_law_970 0 rfl rfl ?_
  refine r_iload K dL_law_971 5 rfl ?_
  refine r_iconst (v := nI 1) K dL_law_973 (by decide) ?_
  refine r_iadd (v := nI (i + 1)) K dL_law_974 (nI_add _ _) ?_
  refine r_sld (j := i + 1) K X rfl (by omega) (by omega) dL_law_975 ?_
  refine r_aload_n K dL_law_976 3 rfl rfl ?_
  refine r_callSH (st := []) K (k_L_pass (σ := σ) (τ := σ) (o := o) hl Q C) wd_727 wd_47 wd_729 wd_728 ⟨by decide, by decide, (by decide +kernel : (parseMethodDescriptor yL_pass.desc).map (fun d => d.parameters.length) = some 3)⟩ (by decide) (by decide) rfl (Nat.le_of_ble_eq_true rfl) (by omega) (by omega) dL_law_977 ?_
  rintro _ ad1 _ ⟨rfl, hK1, σ1, o1, rfl, hA1, hC1, hv1⟩
  refine r_eq (lv' := [(0, .ref b), (1, .ref (ad1 0 0)), (2, .ref (ad1 20 0)), (3, .ref (ad1 19 0)), (4, .ref (ad1 19 1)), (5, .int (nI i))]) rfl rfl (by rw [hK1.1, hK1.2.1, hK1.2.2.1, hK1.2.2.2]) rfl ?_
  show WW g z 9 (n + 1) (k + 6) ad1 (Wz z ad1 σ1 σ o1) 980 [(0, .ref b), (1, .ref (ad1 0 0)), (2, .ref (ad1 20 0)), (3, .ref (ad1 19 0)), (4, .ref (ad1 19 1)), (5, .int (nI i))] [.int (nI (cP σ (xs (i + 1))))]
  refine r_istore (lv' := [(6, .int (nI (cP σ (xs (i + 1))))), (0, .ref b), (1, .ref (ad1 0 0)), (2, .ref (ad1 20 0)), (3, .ref (ad1 19 0)), (4, .ref (ad1 19 1)), (5, .int (nI i))]) K dL_law_980 (by decide) rfl ?_
  refine r_aload_n K dL_law_982 3 rfl rfl ?_
  refine r_aload_n K dL_law_983 1 rfl rfl ?_
  refine r_iload K dL_law_984 6 rfl ?_
  refine r_iconst (v := nI 1) K dL_law_986 (by decide) ?_
  refine r_iadd (v := nI (i + 1)) K dL_law_987 (nI_add _ _) ?_
  refine r_sld (j := i + 1) K X rfl (by omega) (by omega) dL_law_988 ?_
  refine r_callV (st := []) K (k_X6_pass (σ := σ1) (τ := σ) (o := o1) hl Q M) cw_L_178 wd_1505 wd_1506 (by decide) (by decide) rfl rfl rfl rfl (Nat.le_of_ble_eq_true rfl) (by omega) (by omega) dL_law_989 ?_
  rintro _ _ _ ⟨x1, rfl, hx1, rfl, τ2, rfl, hA2, hM2, h72⟩
  show WW g z 9 (n + 1) (k + 6) ad1 (Wz z ad1 σ1 τ2 o1) 992 [(6, .int (nI (cP σ (xs (i + 1))))), (0, .ref b), (1, .ref (ad1 0 0)), (2, .ref (ad1 20 0)), (3, .ref (ad1 19 0)), (4, .ref (ad1 19 1)), (5, .int (nI i))] [.int (x1)]
  refine r_istore (lv' := [(7, .int (x1)), (6, .int (nI (cP σ (xs (i + 1))))), (0, .ref b), (1, .ref (ad1 0 0)), (2, .ref (ad1 20 0)), (3, .ref (ad1 19 0)), (4, .ref (ad1 19 1)), (5, .int (nI i))]) K dL_law_992 (by decide) rfl ?_
  refine r_aload_n K dL_law_994 4 rfl rfl ?_
  refine r_callV (st := []) K (k_X6_thrown (σ := σ1) (τ := τ2) (o := o1) hl) cw_L_134 wd_1422 wd_1423 (by decide) (by decide) rfl rfl rfl rfl (Nat.le_of_ble_eq_true rfl) (by omega) (by omega) dL_law_995 ?_
  rintro _ _ _ ⟨rfl, rfl, rfl⟩
  refine r_eq (st' := [.int (nI (cP σ (xs (i + 1))))]) rfl rfl rfl (by rw [h72]; rfl) ?_
  show WW g z 9 (n + 1) (k + 6) ad1 (Wz z ad1 σ1 τ2 o1) 998 [(7, .int (x1)), (6, .int (nI (cP σ (xs (i + 1))))), (0, .ref b), (1, .ref (ad1 0 0)), (2, .ref (ad1 20 0)), (3, .ref (ad1 19 0)), (4, .ref (ad1 19 1)), (5, .int (nI i))] [.int (nI (cP σ (xs (i + 1))))]
  refine r_iload K dL_law_998 1 rfl ?_
  refine r_icmp_eq K dL_law_1000 1005 True (iff_of_true rfl trivial) (by decide) (fun _ => ?_) (fun c => absurd trivial c)
  refine r_iload K dL_law_1005 1 rfl ?_
  have hcd : (cP σ (xs (i + 1))) < 2 ^ 31 := by unfold cP; (repeat' split) <;> decide
  refine r_if_ne K dL_law_1007 1022 ((cP σ (xs (i + 1))) = 0) (n0_eq hcd) (by decide) (fun c_1007 => ?_) (fun c_1007 => ?_)
  · skip
    refine r_goto K dL_law_1022 2423 (by decide) ?_
    have hG : IR (if (cP σ (xs (i + 1))) = 0 then hrs σ (jN (xs (i + 1))) else σ) := by by_cases h0 : (cP σ (xs (i + 1))) = 0; (rw [if_pos h0]; exact ir_pass Q h0); (rw [if_neg h0]; exact Q)
    obtain ⟨ρ, hW, hQ3, hC3, hM3⟩ := mg_all (z := z) (ad := ad1) (o := o1) hG hA1 hA2 hC1 hM2
    refine r_mu hW ?_
    refine r_lv (lv' := [(0, .ref b), (1, .ref (ad1 0 0)), (2, .ref (ad1 20 0)), (3, .ref (ad1 19 0)), (4, .ref (ad1 19 1)), (5, .int (nI i))]) [2, 3, 4, 5, 6, 7] rfl ?_
    exact r_wide (by omega) (by omega) (kk ad1 ρ o1 hQ3 hC3 hM3)
  · skip
    refine r_aload_n K dL_law_1010 5 rfl rfl ?_
    refine r_iconst (v := nI 0) K dL_law_1011 (by decide) ?_
    refine r_lald (j := 0) (v := o1.1) K rfl rfl rfl (by decide) (by decide) rfl dL_law_1012 ?_
    refine r_iload K dL_law_1013 0 rfl ?_
    refine r_i2l (v := ((x1).toInt64)) K dL_law_1015 rfl ?_
    refine r_lcmpE K (by rw [hv1 c_1007, hx1 c_1007]) dL_law_1016 ?_
    refine r_if_eq K dL_law_1017 1022 (0 = 0) (n0_eq (by omega)) (by decide) (fun c_1017 => ?_) (fun c_1017 => ?_)
    · skip
      refine r_goto K dL_law_1022 2423 (by decide) ?_
      have hG : IR (if (cP σ (xs (i + 1))) = 0 then hrs σ (jN (xs (i + 1))) else σ) := by by_cases h0 : (cP σ (xs (i + 1))) = 0; (rw [if_pos h0]; exact ir_pass Q h0); (rw [if_neg h0]; exact Q)
      obtain ⟨ρ, hW, hQ3, hC3, hM3⟩ := mg_all (z := z) (ad := ad1) (o := o1) hG hA1 hA2 hC1 hM2
      refine r_mu hW ?_
      refine r_lv (lv' := [(0, .ref b), (1, .ref (ad1 0 0)), (2, .ref (ad1 20 0)), (3, .ref (ad1 19 0)), (4, .ref (ad1 19 1)), (5, .int (nI i))]) [2, 3, 4, 5, 6, 7] rfl ?_
      exact r_wide (by omega) (by omega) (kk ad1 ρ o1 hQ3 hC3 hM3)
    · skip
      exfalso; omega
set_option maxRecDepth 100000 in
set_option maxHeartbeats 4000000 in
/-- clock -/
theorem case_13 {z : Zx} {g : Gx} {tb : List ExceptionTableEntry} {mc ms n k b L i : Nat} {xs : Nat → Int32} {ad0 ad : Nm} {μ0 : Ce} {ok : OkT} {ex : String → Prop} {σ : Sg} {o : Int64 × UInt64} (K : Kn g z cL_law 9 yL_law (some .boolean) tb 12 mc ms ad0 μ0 ok ex) (hl : (gl g).stackTraces = false) (X : Scr z g b L xs) (hL : L ≤ 4000) (hi : i + 6 ≤ L) (Q : IR σ) (C : ICo σ) (M : IMo σ) (hn : n + 20 ≤ mc) (hk : k + 400 ≤ ms) (kk : ∀ ad' ρ o', IR ρ → ICo ρ → IMo ρ → WW g z 9 (n + 20) (k + 400) ad' (Wz z ad' ρ ρ o') 2423 [(0, .ref b), (1, .ref (ad' 0 0)), (2, .ref (ad' 20 0)), (3, .ref (ad' 19 0)), (4, .ref (ad' 19 1)), (5, .int (nI i))] []) : WW g z 9 n k ad (Wz z ad σ σ o) 1025 [(0, .ref b), (1, .ref (ad 0 0)), (2, .ref (ad 20 0)), (3, .ref (ad 19 0)), (4, .ref (ad 19 1)), (5, .int (nI i))] [] := by
  show WW g z 9 n k ad (Wz z ad σ σ o) 1025 [(0, .ref b), (1, .ref (ad 0 0)), (2, .ref (ad 20 0)), (3, .ref (ad 19 0)), (4, .ref (ad 19 1)), (5, .int (nI i))] []
  refine r_aload_n K dL_law_1025 1 rfl rfl ?_
  refine r_callV (st := []) K (k_X5_clock (σ := σ) (τ := σ) (o := o) hl Q C) cw_L_179 wd_214 wd_215 (by decide) (by decide) rfl rfl rfl rfl (Nat.le_of_ble_eq_true rfl) (by omega) (by omega) dL_law_1026 ?_
  rintro _ ad1 _ ⟨-, rfl, hK1, σ1, rfl, hA1, hC1⟩
  refine r_eq (lv' := [(0, .ref b), (1, .ref (ad1 0 0)), (2, .ref (ad1 20 0)), (3, .ref (ad1 19 0)), (4, .ref (ad1 19 1)), (5, .int (nI i))]) rfl rfl (by rw [hK1.1, hK1.2.1, hK1.2.2.1, hK1.2.2.2]) rfl ?_
  show WW g z 9 n k ad1 (Wz z ad1 σ1 σ o) 1029 [(0, .ref b), (1, .ref (ad1 0 0)), (2, .ref (ad1 20 0)), (3, .ref (ad1 19 0)), (4, .ref (ad1 19 1)), (5, .int (nI i))] [.int (nI (σ 12 0 0))]
  refine r_aload_n K dL_law_1029 2 rfl rfl ?_
  refine r_callV (st := [.int (nI (σ 12 0 0))]) K (k_X6_clock (σ := σ1) (τ := σ) (o := o) hl Q M) cw_L_182 wd_1516 wd_1517 (by decide) (by decide) rfl rfl rfl rfl (Nat.le_of_ble_eq_true rfl) (by omega) (by omega) dL_law_1030 ?_
  rintro _ _ _ ⟨x1, rfl, hx1, rfl, τ2, rfl, hA2, hM2, h72⟩
  show WW g z 9 n k ad1 (Wz z ad1 σ1 τ2 o) 1033 [(0, .ref b), (1, .ref (ad1 0 0)), (2, .ref (ad1 20 0)), (3, .ref (ad1 19 0)), (4, .ref (ad1 19 1)), (5, .int (nI i))] [.int (x1), .int (nI (σ 12 0 0))]
  refine r_icmp_eq K dL_law_1033 2423 True (iff_of_true (hx1 rfl).symm trivial) (by decide) (fun _ => ?_) (fun c => absurd trivial c)
  have hG : IR σ := Q
  obtain ⟨ρ, hW, hQ3, hC3, hM3⟩ := mg_all (z := z) (ad := ad1) (o := o) hG hA1 hA2 hC1 hM2
  refine r_mu hW ?_
  refine r_lv (lv' := [(0, .ref b), (1, .ref (ad1 0 0)), (2, .ref (ad1 20 0)), (3, .ref (ad1 19 0)), (4, .ref (ad1 19 1)), (5, .int (nI i))]) [0, 1, 2, 3, 4, 5] rfl ?_
  exact r_wide (by omega) (by omega) (kk ad1 ρ o hQ3 hC3 hM3)
