/-! the law: cases -/
set_option maxHeartbeats 4000000 in
set_option maxRecDepth 100000 in
theorem lc_addLot {p : Program} {l : Launch} {e : Env} {s : State} {m : MethodId} {args : Array Value} {below : List Frame} {meth : Method} {c : Code} {b L : Nat} {xs : Nat → Int32} {Q : State → Prop} {D : va_G} {cI cO cb cZ cC cJ : ClassId} {eA mi : Nat} {st ad : Nat → Nat} {dO dT : Nat} {vF : Value} {h oa : Nat} (hst : l.stackTraces = false) (C0 : LC p s m args c b L xs D cI cO cb cZ cC cJ eA mi st ad dO dT vF oa) {n : Nat} (hn : 6 * n + 6 ≤ L) (hL : L ≤ 3072) {M : MS} {ws : va_W} {th : Nat} {x : Int64} {H : Heap} {locs : List Loc} (hI : LI D cI cO eA st cZ cC cJ s ad h oa n M ws th x H locs) {cells slots : Nat} (hc1 : cells + 241 ≤ 601024) (hc2 : slots + 12126 ≤ 7293033) (kk : ∀ M ws th x H locs, LI D cI cO eA st cZ cC cJ s ad h oa (n + 1) M ws th x H locs → ∀ ls, lv_has ls 7 [(0, .ref b), (1, .ref h), (2, .ref (ad 0)), (3, .ref oa), (4, .int (nI (6 * n)))] → W p l e room_1 s m args below meth c H locs (cells + 241) (slots + 12126) Q (F0 m 2054 ls [])) : ∀ ls, lv_has ls 7 [(0, .ref b), (1, .ref h), (2, .ref (ad 0)), (3, .ref oa), (4, .int (nI (6 * n)))] → W p l e room_1 s m args below meth c H locs cells slots Q (F0 m 260 ls []) := by
  obtain ⟨hx, hb, hml, hown, hts, hX, hbl, hK, hKm, hKJ, hG, hGT, hN, hsI, hdis, hmn, hon, hnm⟩ := C0
  obtain ⟨hc, hM, hLB, h15, hP, hPm, ho, hS⟩ := hI
  have hbA : ¬ (fun q : Nat => s.heap.size ≤ q) b := Nat.not_le.mpr hbl
  have hno : ¬ lA s.heap.size ad oa oa := fun q => q.2.2 rfl
  have hI2 := LB_addLot (M := M) (xs (6 * n + 1)) (xs (6 * n + 2))
  intro ls hl
  refine lv_aload_n hx hb dL_law_260 rfl (lv_at hl 1 rfl) ?_
  refine lv_aload_n hx hb dL_law_261 rfl (lv_at hl 0 rfl) ?_
  refine lv_iload hx hb dL_law_262 (lv_at hl 4 rfl) ?_
  refine lv_iconst (v := nI 1) hx hb dL_law_264 (by decide) ?_
  refine n_iadd hx hb dL_law_265 (z := 6 * n + 1) rfl ?_
  refine va_sld hx hb hX hbl hbA hS (vp_in_nI (by omega) (by omega)) dL_law_266 ?_
  rw [nI_clamp (show 6 * n + 1 < 2 ^ 31 by omega)]
  refine lv_aload_n hx hb dL_law_267 rfl (lv_at hl 0 rfl) ?_
  refine lv_iload hx hb dL_law_268 (lv_at hl 4 rfl) ?_
  refine lv_iconst (v := nI 2) hx hb dL_law_270 (by decide) ?_
  refine n_iadd hx hb dL_law_271 (z := 6 * n + 2) rfl ?_
  refine va_sld hx hb hX hbl hbA hS (vp_in_nI (by omega) (by omega)) dL_law_272 ?_
  rw [nI_clamp (show 6 * n + 2 < 2 ^ 31 by omega)]
  refine lv_aload_n hx hb dL_law_273 rfl (lv_at hl 3 rfl) ?_
  refine va_calli (vx_runSW (As := [.ref h, .int (xs (6 * n + 1)), .int (xs (6 * n + 2)), .ref oa]) (rest := []) ⟨hx, hb, hml, hown, hts⟩ (cL9_addLot l hst D cI cO cb eA mi st dO dT vF ws hc hM hsI cJ oa x hno (xs (6 * n + 1)) (xs (6 * n + 2))) (vx_cwSW 4 hts gL_law_L_addLot rfl rfl rfl kd_L_addLot ⟨Nat.le_of_ble_eq_true rfl, Nat.le_of_ble_eq_true rfl⟩) ⟨lB_blind, lB_pre hK hKJ hG hGT hN (fun q h => h.1) hS (fresh_lA hPm ho hS) hP ho _⟩ rfl rfl hl.1 rfl (lv_room (Nat.le_of_ble_eq_true rfl)) dL_law_274 ⟨by show cells + 6 ≤ 601024; omega, by show slots + 126 ≤ 7293033; omega⟩) hS (fun q _ h => h.elim (fun h => h.1) (fun h => by rw [h]; exact hon)) (fun q h => h.elim (fun h => h.1) (fun h => by rw [h]; exact hon)) (fun r u U8 H1 locs1 ht hvm hu hB hz1 hk1 hS1 => ?_)
  obtain ⟨hri, hk3, hout, hc3⟩ := hu
  subst hri
  rw [ht] at hB
  obtain ⟨hB1, ho1⟩ := hB
  have hPm1 := mP_keep hPm hk1 hnm
  clear hS hP hPm ho
  have hS := hS1
  refine lv_istore (lv' := [(5, .int (nI (k_addLot M (xs (6 * n + 1)) (xs (6 * n + 2))))), (0, .ref b), (1, .ref h), (2, .ref (ad 0)), (3, .ref oa), (4, .int (nI (6 * n)))]) hx hb dL_law_277 hl (by decide) rfl (fun ls hl => ?_)
  refine lv_aload_n hx hb dL_law_279 rfl (lv_at hl 3 rfl) ?_
  refine lv_aload_n hx hb dL_law_280 rfl (lv_at hl 1 rfl) ?_
  refine lv_iload hx hb dL_law_281 (lv_at hl 5 rfl) ?_
  refine lv_iconst (v := nI 1) hx hb dL_law_283 (by decide) ?_
  refine n_iadd hx hb dL_law_284 (z := 6 * n + 1) rfl ?_
  refine va_sld hx hb hX hbl hbA hS (vp_in_nI (by omega) (by omega)) dL_law_285 ?_
  rw [nI_clamp (show 6 * n + 1 < 2 ^ 31 by omega)]
  refine lv_aload_n hx hb dL_law_286 rfl (lv_at hl 1 rfl) ?_
  refine lv_iload hx hb dL_law_287 (lv_at hl 5 rfl) ?_
  refine lv_iconst (v := nI 2) hx hb dL_law_289 (by decide) ?_
  refine n_iadd hx hb dL_law_290 (z := 6 * n + 2) rfl ?_
  refine va_sld hx hb hX hbl hbA hS (vp_in_nI (by omega) (by omega)) dL_law_291 ?_
  rw [nI_clamp (show 6 * n + 2 < 2 ^ 31 by omega)]
  refine va_calli (va_runV (As := [.int (xs (6 * n + 1)), .int (xs (6 * n + 2))]) (rest := []) ⟨hx, hb, hml, hown, hts⟩ (c9_addLot l D ad cI cZ cC th M hM hdis (xs (6 * n + 1)) (xs (6 * n + 2))) (cwV 2 hts gL_law_X9_addLot rfl rfl rfl kd_X9_addLot ⟨Nat.le_of_ble_eq_true rfl, Nat.le_of_ble_eq_true rfl⟩) ⟨mB_blind, m_recv hKm hPm1, m_pre hKm hPm1 _⟩ rfl rfl hl.1 rfl (lv_room (Nat.le_of_ble_eq_true rfl)) dL_law_292 ⟨by show cells + 6 + 0 ≤ 601024; omega, by show slots + 126 + 0 ≤ 7293033; omega⟩) hS (fun q _ h => hmn q h) (fun q h => hmn q h) (fun r2 u2 U9 H2 locs2 ht2 hvm2 hu2 hB2 hz2 hk2 hS2 => ?_)
  subst hu2
  replace hB2 : va_P D vwCl (mws ad cI cZ cC (k_addLot M (xs (6 * n + 1)) (xs (6 * n + 2))) (g_addLot M (xs (6 * n + 1)) (xs (6 * n + 2)))) U9.heap := hB2
  rw [ht2] at hB2
  have hP2 := cP_keep hB1 hc3.dis hk2
  have ho2 := ho1.kept (hk2 oa ho1.lt hnm)
  refine lv_istore (lv' := [(6, .int (if k_addLot M (xs (6 * n + 1)) (xs (6 * n + 2)) = 0 then nI (M 8 (xs (6 * n + 1)).toNatClampNeg) else nI 0)), (5, .int (nI (k_addLot M (xs (6 * n + 1)) (xs (6 * n + 2))))), (0, .ref b), (1, .ref h), (2, .ref (ad 0)), (3, .ref oa), (4, .int (nI (6 * n)))]) hx hb dL_law_295 hl (by decide) rfl (fun ls hl => ?_)
  have hM2 := (MI_addLot hM (xs (6 * n + 1)) (xs (6 * n + 2)))
  refine lv_aload_n hx hb dL_law_297 rfl (lv_at hl 4 rfl) ?_
  refine vp_callSi (W.runV (As := []) (rest := []) ⟨hx, hb, hml, hown, hts⟩ (c9_thrown l D ad cI cZ cC (k_addLot M (xs (6 * n + 1)) (xs (6 * n + 2))) (g_addLot M (xs (6 * n + 1)) (xs (6 * n + 2))) hM2) (cwV 0 hts gL_law_X9_thrown rfl rfl rfl kd_X9_thrown ⟨Nat.le_of_ble_eq_true rfl, Nat.le_of_ble_eq_true rfl⟩) ⟨mB_blind, m_recv hKm hB2, m_pre hKm hB2 _⟩ rfl rfl hl.1 rfl (lv_room (Nat.le_of_ble_eq_true rfl)) dL_law_298 ⟨by show cells + 6 + 0 + 0 ≤ 601024; omega, by show slots + 126 + 0 + 0 ≤ 7293033; omega⟩) (fun r3 hr3 => ?_)
  subst hr3
  refine lv_iload hx hb dL_law_301 (lv_at hl 1 rfl) ?_
  refine lv_icmp_eq (tgt := 308) hx hb dL_law_303 (by decide) (fun c9 => ?_) (fun c9 => absurd rfl c9)
  have hfin : ∀ ls, lv_has ls 7 [(6, .int (if k_addLot M (xs (6 * n + 1)) (xs (6 * n + 2)) = 0 then nI (M 8 (xs (6 * n + 1)).toNatClampNeg) else nI 0)), (5, .int (nI (k_addLot M (xs (6 * n + 1)) (xs (6 * n + 2))))), (0, .ref b), (1, .ref h), (2, .ref (ad 0)), (3, .ref oa), (4, .int (nI (6 * n)))] → W p l e room_1 s m args below meth c H2 locs2 (cells + 6 + 0) (slots + 126 + 0) Q (F0 m 2054 ls []) := fun ls hl => by
    refine W.widen (k := cells + 241) (n := slots + 12126) (by omega) (by omega) ?_
    exact kk _ _ _ _ _ _ ⟨hc3, hM2, hI2.1 hLB, by have := hI2.2; omega, hP2, hB2, ho2, hS2⟩ ls (lv_sub hl [2, 3, 4, 5, 6] rfl)
  refine lv_iload hx hb dL_law_308 (lv_at hl 1 rfl) ?_
  refine n_if_ne (tgt := 325) hx hb dL_law_310 (by decide) (by omega) (fun c8 => ?_) (fun c8 => ?_)
  · refine lv_goto (tgt := 2054) hx hb dL_law_325 (by decide) (hfin ls hl)
  · have ho3 := hout c8
    rw [ho3] at ho2
    refine lv_aload_n hx hb dL_law_313 rfl (lv_at hl 5 rfl) ?_
    refine lv_iconst (v := nI 0) hx hb dL_law_314 (by decide) ?_
    refine va_lald hx hb hKJ (va_P_one ho2) 0 0 rfl rfl (vp_in_nI (by decide) (by decide)) dL_law_315 ?_
    refine lv_iload hx hb dL_law_316 (lv_at hl 0 rfl) ?_
    refine lv_i2l (v := Int32.toInt64 (if k_addLot M (xs (6 * n + 1)) (xs (6 * n + 2)) = 0 then nI (M 8 (xs (6 * n + 1)).toNatClampNeg) else nI 0)) hx hb dL_law_318 rfl ?_
    refine lw_lcmp hx hb dL_law_319 ?_
    refine n_if_eq (tgt := 325) hx hb dL_law_320 (by decide) (by decide) (fun _ => ?_) (fun c7 => absurd rfl c7)
    exact lv_goto (tgt := 2054) hx hb dL_law_325 (by decide) (hfin ls hl)
set_option maxHeartbeats 4000000 in
set_option maxRecDepth 100000 in
theorem lc_paper {p : Program} {l : Launch} {e : Env} {s : State} {m : MethodId} {args : Array Value} {below : List Frame} {meth : Method} {c : Code} {b L : Nat} {xs : Nat → Int32} {Q : State → Prop} {D : va_G} {cI cO cb cZ cC cJ : ClassId} {eA mi : Nat} {st ad : Nat → Nat} {dO dT : Nat} {vF : Value} {h oa : Nat} (hst : l.stackTraces = false) (C0 : LC p s m args c b L xs D cI cO cb cZ cC cJ eA mi st ad dO dT vF oa) {n : Nat} (hn : 6 * n + 6 ≤ L) (hL : L ≤ 3072) {M : MS} {ws : va_W} {th : Nat} {x : Int64} {H : Heap} {locs : List Loc} (hI : LI D cI cO eA st cZ cC cJ s ad h oa n M ws th x H locs) {cells slots : Nat} (hc1 : cells + 241 ≤ 601024) (hc2 : slots + 12126 ≤ 7293033) (kk : ∀ M ws th x H locs, LI D cI cO eA st cZ cC cJ s ad h oa (n + 1) M ws th x H locs → ∀ ls, lv_has ls 7 [(0, .ref b), (1, .ref h), (2, .ref (ad 0)), (3, .ref oa), (4, .int (nI (6 * n)))] → W p l e room_1 s m args below meth c H locs (cells + 241) (slots + 12126) Q (F0 m 2054 ls [])) : ∀ ls, lv_has ls 7 [(0, .ref b), (1, .ref h), (2, .ref (ad 0)), (3, .ref oa), (4, .int (nI (6 * n)))] → W p l e room_1 s m args below meth c H locs cells slots Q (F0 m 328 ls []) := by
  obtain ⟨hx, hb, hml, hown, hts, hX, hbl, hK, hKm, hKJ, hG, hGT, hN, hsI, hdis, hmn, hon, hnm⟩ := C0
  obtain ⟨hc, hM, hLB, h15, hP, hPm, ho, hS⟩ := hI
  have hbA : ¬ (fun q : Nat => s.heap.size ≤ q) b := Nat.not_le.mpr hbl
  have hno : ¬ lA s.heap.size ad oa oa := fun q => q.2.2 rfl
  have hI2 := LB_paper (M := M) (xs (6 * n + 1)) (xs (6 * n + 2)) (xs (6 * n + 3))
  intro ls hl
  refine lv_aload_n hx hb dL_law_328 rfl (lv_at hl 1 rfl) ?_
  refine lv_aload_n hx hb dL_law_329 rfl (lv_at hl 0 rfl) ?_
  refine lv_iload hx hb dL_law_330 (lv_at hl 4 rfl) ?_
  refine lv_iconst (v := nI 1) hx hb dL_law_332 (by decide) ?_
  refine n_iadd hx hb dL_law_333 (z := 6 * n + 1) rfl ?_
  refine va_sld hx hb hX hbl hbA hS (vp_in_nI (by omega) (by omega)) dL_law_334 ?_
  rw [nI_clamp (show 6 * n + 1 < 2 ^ 31 by omega)]
  refine lv_aload_n hx hb dL_law_335 rfl (lv_at hl 0 rfl) ?_
  refine lv_iload hx hb dL_law_336 (lv_at hl 4 rfl) ?_
  refine lv_iconst (v := nI 2) hx hb dL_law_338 (by decide) ?_
  refine n_iadd hx hb dL_law_339 (z := 6 * n + 2) rfl ?_
  refine va_sld hx hb hX hbl hbA hS (vp_in_nI (by omega) (by omega)) dL_law_340 ?_
  rw [nI_clamp (show 6 * n + 2 < 2 ^ 31 by omega)]
  refine lv_aload_n hx hb dL_law_341 rfl (lv_at hl 0 rfl) ?_
  refine lv_iload hx hb dL_law_342 (lv_at hl 4 rfl) ?_
  refine lv_iconst (v := nI 3) hx hb dL_law_344 (by decide) ?_
  refine n_iadd hx hb dL_law_345 (z := 6 * n + 3) rfl ?_
  refine va_sld hx hb hX hbl hbA hS (vp_in_nI (by omega) (by omega)) dL_law_346 ?_
  rw [nI_clamp (show 6 * n + 3 < 2 ^ 31 by omega)]
  refine lv_aload_n hx hb dL_law_347 rfl (lv_at hl 3 rfl) ?_
  refine va_calli (vx_runSW (As := [.ref h, .int (xs (6 * n + 1)), .int (xs (6 * n + 2)), .int (xs (6 * n + 3)), .ref oa]) (rest := []) ⟨hx, hb, hml, hown, hts⟩ (cL9_paper l hst D cI cO cb eA mi st dO dT vF ws hc hM hsI cJ oa x hno (xs (6 * n + 1)) (xs (6 * n + 2)) (xs (6 * n + 3))) (vx_cwSW 5 hts gL_law_L_paper rfl rfl rfl kd_L_paper ⟨Nat.le_of_ble_eq_true rfl, Nat.le_of_ble_eq_true rfl⟩) ⟨lB_blind, lB_pre hK hKJ hG hGT hN (fun q h => h.1) hS (fresh_lA hPm ho hS) hP ho _⟩ rfl rfl hl.1 rfl (lv_room (Nat.le_of_ble_eq_true rfl)) dL_law_348 ⟨by show cells + 1 ≤ 601024; omega, by show slots + 6 ≤ 7293033; omega⟩) hS (fun q _ h => h.elim (fun h => h.1) (fun h => by rw [h]; exact hon)) (fun q h => h.elim (fun h => h.1) (fun h => by rw [h]; exact hon)) (fun r u U8 H1 locs1 ht hvm hu hB hz1 hk1 hS1 => ?_)
  obtain ⟨hri, hk3, hout, hc3⟩ := hu
  subst hri
  rw [ht] at hB
  obtain ⟨hB1, ho1⟩ := hB
  have hPm1 := mP_keep hPm hk1 hnm
  clear hS hP hPm ho
  have hS := hS1
  refine lv_istore (lv' := [(5, .int (nI (k_paper (xs (6 * n + 1)) (xs (6 * n + 2)) (xs (6 * n + 3))))), (0, .ref b), (1, .ref h), (2, .ref (ad 0)), (3, .ref oa), (4, .int (nI (6 * n)))]) hx hb dL_law_351 hl (by decide) rfl (fun ls hl => ?_)
  refine lv_aload_n hx hb dL_law_353 rfl (lv_at hl 3 rfl) ?_
  refine lv_aload_n hx hb dL_law_354 rfl (lv_at hl 1 rfl) ?_
  refine lv_iload hx hb dL_law_355 (lv_at hl 5 rfl) ?_
  refine lv_iconst (v := nI 1) hx hb dL_law_357 (by decide) ?_
  refine n_iadd hx hb dL_law_358 (z := 6 * n + 1) rfl ?_
  refine va_sld hx hb hX hbl hbA hS (vp_in_nI (by omega) (by omega)) dL_law_359 ?_
  rw [nI_clamp (show 6 * n + 1 < 2 ^ 31 by omega)]
  refine lv_aload_n hx hb dL_law_360 rfl (lv_at hl 1 rfl) ?_
  refine lv_iload hx hb dL_law_361 (lv_at hl 5 rfl) ?_
  refine lv_iconst (v := nI 2) hx hb dL_law_363 (by decide) ?_
  refine n_iadd hx hb dL_law_364 (z := 6 * n + 2) rfl ?_
  refine va_sld hx hb hX hbl hbA hS (vp_in_nI (by omega) (by omega)) dL_law_365 ?_
  rw [nI_clamp (show 6 * n + 2 < 2 ^ 31 by omega)]
  refine lv_aload_n hx hb dL_law_366 rfl (lv_at hl 1 rfl) ?_
  refine lv_iload hx hb dL_law_367 (lv_at hl 5 rfl) ?_
  refine lv_iconst (v := nI 3) hx hb dL_law_369 (by decide) ?_
  refine n_iadd hx hb dL_law_370 (z := 6 * n + 3) rfl ?_
  refine va_sld hx hb hX hbl hbA hS (vp_in_nI (by omega) (by omega)) dL_law_371 ?_
  rw [nI_clamp (show 6 * n + 3 < 2 ^ 31 by omega)]
  refine va_calli (va_runV (As := [.int (xs (6 * n + 1)), .int (xs (6 * n + 2)), .int (xs (6 * n + 3))]) (rest := []) ⟨hx, hb, hml, hown, hts⟩ (c9_paper l D ad cI cZ cC th M hM hdis (xs (6 * n + 1)) (xs (6 * n + 2)) (xs (6 * n + 3))) (cwV 3 hts gL_law_X9_paper rfl rfl rfl kd_X9_paper ⟨Nat.le_of_ble_eq_true rfl, Nat.le_of_ble_eq_true rfl⟩) ⟨mB_blind, m_recv hKm hPm1, m_pre hKm hPm1 _⟩ rfl rfl hl.1 rfl (lv_room (Nat.le_of_ble_eq_true rfl)) dL_law_372 ⟨by show cells + 1 + 0 ≤ 601024; omega, by show slots + 6 + 0 ≤ 7293033; omega⟩) hS (fun q _ h => hmn q h) (fun q h => hmn q h) (fun r2 u2 U9 H2 locs2 ht2 hvm2 hu2 hB2 hz2 hk2 hS2 => ?_)
  subst hu2
  replace hB2 : va_P D vwCl (mws ad cI cZ cC (k_paper (xs (6 * n + 1)) (xs (6 * n + 2)) (xs (6 * n + 3))) (g_paper M (xs (6 * n + 1)) (xs (6 * n + 2)) (xs (6 * n + 3)))) U9.heap := hB2
  rw [ht2] at hB2
  have hP2 := cP_keep hB1 hc3.dis hk2
  have ho2 := ho1.kept (hk2 oa ho1.lt hnm)
  refine lv_istore (lv' := [(6, .int (r_paper M (xs (6 * n + 1)) (xs (6 * n + 2)) (xs (6 * n + 3)))), (5, .int (nI (k_paper (xs (6 * n + 1)) (xs (6 * n + 2)) (xs (6 * n + 3))))), (0, .ref b), (1, .ref h), (2, .ref (ad 0)), (3, .ref oa), (4, .int (nI (6 * n)))]) hx hb dL_law_375 hl (by decide) rfl (fun ls hl => ?_)
  have hM2 := (MI_paper hM (xs (6 * n + 1)) (xs (6 * n + 2)) (xs (6 * n + 3)))
  refine lv_aload_n hx hb dL_law_377 rfl (lv_at hl 4 rfl) ?_
  refine vp_callSi (W.runV (As := []) (rest := []) ⟨hx, hb, hml, hown, hts⟩ (c9_thrown l D ad cI cZ cC (k_paper (xs (6 * n + 1)) (xs (6 * n + 2)) (xs (6 * n + 3))) (g_paper M (xs (6 * n + 1)) (xs (6 * n + 2)) (xs (6 * n + 3))) hM2) (cwV 0 hts gL_law_X9_thrown rfl rfl rfl kd_X9_thrown ⟨Nat.le_of_ble_eq_true rfl, Nat.le_of_ble_eq_true rfl⟩) ⟨mB_blind, m_recv hKm hB2, m_pre hKm hB2 _⟩ rfl rfl hl.1 rfl (lv_room (Nat.le_of_ble_eq_true rfl)) dL_law_378 ⟨by show cells + 1 + 0 + 0 ≤ 601024; omega, by show slots + 6 + 0 + 0 ≤ 7293033; omega⟩) (fun r3 hr3 => ?_)
  subst hr3
  refine lv_iload hx hb dL_law_381 (lv_at hl 1 rfl) ?_
  refine lv_icmp_eq (tgt := 388) hx hb dL_law_383 (by decide) (fun c9 => ?_) (fun c9 => absurd rfl c9)
  have hfin : ∀ ls, lv_has ls 7 [(6, .int (r_paper M (xs (6 * n + 1)) (xs (6 * n + 2)) (xs (6 * n + 3)))), (5, .int (nI (k_paper (xs (6 * n + 1)) (xs (6 * n + 2)) (xs (6 * n + 3))))), (0, .ref b), (1, .ref h), (2, .ref (ad 0)), (3, .ref oa), (4, .int (nI (6 * n)))] → W p l e room_1 s m args below meth c H2 locs2 (cells + 1 + 0) (slots + 6 + 0) Q (F0 m 2054 ls []) := fun ls hl => by
    refine W.widen (k := cells + 241) (n := slots + 12126) (by omega) (by omega) ?_
    exact kk _ _ _ _ _ _ ⟨hc3, hM2, hI2.1 hLB, by have := hI2.2; omega, hP2, hB2, ho2, hS2⟩ ls (lv_sub hl [2, 3, 4, 5, 6] rfl)
  refine lv_iload hx hb dL_law_388 (lv_at hl 1 rfl) ?_
  refine n_if_ne (tgt := 405) hx hb dL_law_390 (by decide) (by omega) (fun c8 => ?_) (fun c8 => ?_)
  · refine lv_goto (tgt := 2054) hx hb dL_law_405 (by decide) (hfin ls hl)
  · have ho3 := hout c8
    rw [ho3] at ho2
    refine lv_aload_n hx hb dL_law_393 rfl (lv_at hl 5 rfl) ?_
    refine lv_iconst (v := nI 0) hx hb dL_law_394 (by decide) ?_
    refine va_lald hx hb hKJ (va_P_one ho2) 0 0 rfl rfl (vp_in_nI (by decide) (by decide)) dL_law_395 ?_
    refine lv_iload hx hb dL_law_396 (lv_at hl 0 rfl) ?_
    refine lv_i2l (v := Int32.toInt64 (r_paper M (xs (6 * n + 1)) (xs (6 * n + 2)) (xs (6 * n + 3)))) hx hb dL_law_398 rfl ?_
    refine lw_lcmp hx hb dL_law_399 ?_
    refine n_if_eq (tgt := 405) hx hb dL_law_400 (by decide) (by decide) (fun _ => ?_) (fun c7 => absurd rfl c7)
    exact lv_goto (tgt := 2054) hx hb dL_law_405 (by decide) (hfin ls hl)
set_option maxHeartbeats 4000000 in
set_option maxRecDepth 100000 in
theorem lc_bid {p : Program} {l : Launch} {e : Env} {s : State} {m : MethodId} {args : Array Value} {below : List Frame} {meth : Method} {c : Code} {b L : Nat} {xs : Nat → Int32} {Q : State → Prop} {D : va_G} {cI cO cb cZ cC cJ : ClassId} {eA mi : Nat} {st ad : Nat → Nat} {dO dT : Nat} {vF : Value} {h oa : Nat} (hst : l.stackTraces = false) (C0 : LC p s m args c b L xs D cI cO cb cZ cC cJ eA mi st ad dO dT vF oa) {n : Nat} (hn : 6 * n + 6 ≤ L) (hL : L ≤ 3072) {M : MS} {ws : va_W} {th : Nat} {x : Int64} {H : Heap} {locs : List Loc} (hI : LI D cI cO eA st cZ cC cJ s ad h oa n M ws th x H locs) {cells slots : Nat} (hc1 : cells + 241 ≤ 601024) (hc2 : slots + 12126 ≤ 7293033) (kk : ∀ M ws th x H locs, LI D cI cO eA st cZ cC cJ s ad h oa (n + 1) M ws th x H locs → ∀ ls, lv_has ls 7 [(0, .ref b), (1, .ref h), (2, .ref (ad 0)), (3, .ref oa), (4, .int (nI (6 * n)))] → W p l e room_1 s m args below meth c H locs (cells + 241) (slots + 12126) Q (F0 m 2054 ls [])) : ∀ ls, lv_has ls 7 [(0, .ref b), (1, .ref h), (2, .ref (ad 0)), (3, .ref oa), (4, .int (nI (6 * n)))] → W p l e room_1 s m args below meth c H locs cells slots Q (F0 m 408 ls []) := by
  obtain ⟨hx, hb, hml, hown, hts, hX, hbl, hK, hKm, hKJ, hG, hGT, hN, hsI, hdis, hmn, hon, hnm⟩ := C0
  obtain ⟨hc, hM, hLB, h15, hP, hPm, ho, hS⟩ := hI
  have hbA : ¬ (fun q : Nat => s.heap.size ≤ q) b := Nat.not_le.mpr hbl
  have hno : ¬ lA s.heap.size ad oa oa := fun q => q.2.2 rfl
  have hI2 := LB_bid (M := M) (xs (6 * n + 1)) (xs (6 * n + 2)) (xs (6 * n + 3)) (xs (6 * n + 4)) (xs (6 * n + 5))
  intro ls hl
  refine lv_aload_n hx hb dL_law_408 rfl (lv_at hl 1 rfl) ?_
  refine lv_aload_n hx hb dL_law_409 rfl (lv_at hl 0 rfl) ?_
  refine lv_iload hx hb dL_law_410 (lv_at hl 4 rfl) ?_
  refine lv_iconst (v := nI 1) hx hb dL_law_412 (by decide) ?_
  refine n_iadd hx hb dL_law_413 (z := 6 * n + 1) rfl ?_
  refine va_sld hx hb hX hbl hbA hS (vp_in_nI (by omega) (by omega)) dL_law_414 ?_
  rw [nI_clamp (show 6 * n + 1 < 2 ^ 31 by omega)]
  refine lv_aload_n hx hb dL_law_415 rfl (lv_at hl 0 rfl) ?_
  refine lv_iload hx hb dL_law_416 (lv_at hl 4 rfl) ?_
  refine lv_iconst (v := nI 2) hx hb dL_law_418 (by decide) ?_
  refine n_iadd hx hb dL_law_419 (z := 6 * n + 2) rfl ?_
  refine va_sld hx hb hX hbl hbA hS (vp_in_nI (by omega) (by omega)) dL_law_420 ?_
  rw [nI_clamp (show 6 * n + 2 < 2 ^ 31 by omega)]
  refine lv_aload_n hx hb dL_law_421 rfl (lv_at hl 0 rfl) ?_
  refine lv_iload hx hb dL_law_422 (lv_at hl 4 rfl) ?_
  refine lv_iconst (v := nI 3) hx hb dL_law_424 (by decide) ?_
  refine n_iadd hx hb dL_law_425 (z := 6 * n + 3) rfl ?_
  refine va_sld hx hb hX hbl hbA hS (vp_in_nI (by omega) (by omega)) dL_law_426 ?_
  rw [nI_clamp (show 6 * n + 3 < 2 ^ 31 by omega)]
  refine lv_aload_n hx hb dL_law_427 rfl (lv_at hl 0 rfl) ?_
  refine lv_iload hx hb dL_law_428 (lv_at hl 4 rfl) ?_
  refine lv_iconst (v := nI 4) hx hb dL_law_430 (by decide) ?_
  refine n_iadd hx hb dL_law_431 (z := 6 * n + 4) rfl ?_
  refine va_sld hx hb hX hbl hbA hS (vp_in_nI (by omega) (by omega)) dL_law_432 ?_
  rw [nI_clamp (show 6 * n + 4 < 2 ^ 31 by omega)]
  refine lv_aload_n hx hb dL_law_433 rfl (lv_at hl 0 rfl) ?_
  refine lv_iload hx hb dL_law_434 (lv_at hl 4 rfl) ?_
  refine lv_iconst (v := nI 5) hx hb dL_law_436 (by decide) ?_
  refine n_iadd hx hb dL_law_437 (z := 6 * n + 5) rfl ?_
  refine va_sld hx hb hX hbl hbA hS (vp_in_nI (by omega) (by omega)) dL_law_438 ?_
  rw [nI_clamp (show 6 * n + 5 < 2 ^ 31 by omega)]
  refine lv_aload_n hx hb dL_law_439 rfl (lv_at hl 3 rfl) ?_
  refine va_calli (vx_runSW (As := [.ref h, .int (xs (6 * n + 1)), .int (xs (6 * n + 2)), .int (xs (6 * n + 3)), .int (xs (6 * n + 4)), .int (xs (6 * n + 5)), .ref oa]) (rest := []) ⟨hx, hb, hml, hown, hts⟩ (cL9_bid l hst D cI cO cb eA mi st dO dT vF ws hc hM hsI cJ oa x hno (xs (6 * n + 1)) (xs (6 * n + 2)) (xs (6 * n + 3)) (xs (6 * n + 4)) (xs (6 * n + 5))) (vx_cwSW 7 hts gL_law_L_bid rfl rfl rfl kd_L_bid ⟨Nat.le_of_ble_eq_true rfl, Nat.le_of_ble_eq_true rfl⟩) ⟨lB_blind, lB_pre hK hKJ hG hGT hN (fun q h => h.1) hS (fresh_lA hPm ho hS) hP ho _⟩ rfl rfl hl.1 rfl (lv_room (Nat.le_of_ble_eq_true rfl)) dL_law_440 ⟨by show cells + 6 ≤ 601024; omega, by show slots + 132 ≤ 7293033; omega⟩) hS (fun q _ h => h.elim (fun h => h.1) (fun h => by rw [h]; exact hon)) (fun q h => h.elim (fun h => h.1) (fun h => by rw [h]; exact hon)) (fun r u U8 H1 locs1 ht hvm hu hB hz1 hk1 hS1 => ?_)
  obtain ⟨hri, hk3, hout, hc3⟩ := hu
  subst hri
  rw [ht] at hB
  obtain ⟨hB1, ho1⟩ := hB
  have hPm1 := mP_keep hPm hk1 hnm
  clear hS hP hPm ho
  have hS := hS1
  refine lv_istore (lv' := [(5, .int (nI (k_bid M (xs (6 * n + 1)) (xs (6 * n + 2)) (xs (6 * n + 3)) (xs (6 * n + 4)) (xs (6 * n + 5))))), (0, .ref b), (1, .ref h), (2, .ref (ad 0)), (3, .ref oa), (4, .int (nI (6 * n)))]) hx hb dL_law_443 hl (by decide) rfl (fun ls hl => ?_)
  refine lv_aload_n hx hb dL_law_445 rfl (lv_at hl 3 rfl) ?_
  refine lv_aload_n hx hb dL_law_446 rfl (lv_at hl 1 rfl) ?_
  refine lv_iload hx hb dL_law_447 (lv_at hl 5 rfl) ?_
  refine lv_iconst (v := nI 1) hx hb dL_law_449 (by decide) ?_
  refine n_iadd hx hb dL_law_450 (z := 6 * n + 1) rfl ?_
  refine va_sld hx hb hX hbl hbA hS (vp_in_nI (by omega) (by omega)) dL_law_451 ?_
  rw [nI_clamp (show 6 * n + 1 < 2 ^ 31 by omega)]
  refine lv_aload_n hx hb dL_law_452 rfl (lv_at hl 1 rfl) ?_
  refine lv_iload hx hb dL_law_453 (lv_at hl 5 rfl) ?_
  refine lv_iconst (v := nI 2) hx hb dL_law_455 (by decide) ?_
  refine n_iadd hx hb dL_law_456 (z := 6 * n + 2) rfl ?_
  refine va_sld hx hb hX hbl hbA hS (vp_in_nI (by omega) (by omega)) dL_law_457 ?_
  rw [nI_clamp (show 6 * n + 2 < 2 ^ 31 by omega)]
  refine lv_aload_n hx hb dL_law_458 rfl (lv_at hl 1 rfl) ?_
  refine lv_iload hx hb dL_law_459 (lv_at hl 5 rfl) ?_
  refine lv_iconst (v := nI 3) hx hb dL_law_461 (by decide) ?_
  refine n_iadd hx hb dL_law_462 (z := 6 * n + 3) rfl ?_
  refine va_sld hx hb hX hbl hbA hS (vp_in_nI (by omega) (by omega)) dL_law_463 ?_
  rw [nI_clamp (show 6 * n + 3 < 2 ^ 31 by omega)]
  refine lv_aload_n hx hb dL_law_464 rfl (lv_at hl 1 rfl) ?_
  refine lv_iload hx hb dL_law_465 (lv_at hl 5 rfl) ?_
  refine lv_iconst (v := nI 4) hx hb dL_law_467 (by decide) ?_
  refine n_iadd hx hb dL_law_468 (z := 6 * n + 4) rfl ?_
  refine va_sld hx hb hX hbl hbA hS (vp_in_nI (by omega) (by omega)) dL_law_469 ?_
  rw [nI_clamp (show 6 * n + 4 < 2 ^ 31 by omega)]
  refine lv_aload_n hx hb dL_law_470 rfl (lv_at hl 1 rfl) ?_
  refine lv_iload hx hb dL_law_471 (lv_at hl 5 rfl) ?_
  refine lv_iconst (v := nI 5) hx hb dL_law_473 (by decide) ?_
  refine n_iadd hx hb dL_law_474 (z := 6 * n + 5) rfl ?_
  refine va_sld hx hb hX hbl hbA hS (vp_in_nI (by omega) (by omega)) dL_law_475 ?_
  rw [nI_clamp (show 6 * n + 5 < 2 ^ 31 by omega)]
  refine va_calli (va_runV (As := [.int (xs (6 * n + 1)), .int (xs (6 * n + 2)), .int (xs (6 * n + 3)), .int (xs (6 * n + 4)), .int (xs (6 * n + 5))]) (rest := []) ⟨hx, hb, hml, hown, hts⟩ (c9_bid l D ad cI cZ cC th M hM hdis (xs (6 * n + 1)) (xs (6 * n + 2)) (xs (6 * n + 3)) (xs (6 * n + 4)) (xs (6 * n + 5)) (by omega)) (cwV 5 hts gL_law_X9_bid rfl rfl rfl kd_X9_bid ⟨Nat.le_of_ble_eq_true rfl, Nat.le_of_ble_eq_true rfl⟩) ⟨mB_blind, m_recv hKm hPm1, m_pre hKm hPm1 _⟩ rfl rfl hl.1 rfl (lv_room (Nat.le_of_ble_eq_true rfl)) dL_law_476 ⟨by show cells + 6 + 0 ≤ 601024; omega, by show slots + 132 + 0 ≤ 7293033; omega⟩) hS (fun q _ h => hmn q h) (fun q h => hmn q h) (fun r2 u2 U9 H2 locs2 ht2 hvm2 hu2 hB2 hz2 hk2 hS2 => ?_)
  subst hu2
  replace hB2 : va_P D vwCl (mws ad cI cZ cC (k_bid M (xs (6 * n + 1)) (xs (6 * n + 2)) (xs (6 * n + 3)) (xs (6 * n + 4)) (xs (6 * n + 5))) (g_bid M (xs (6 * n + 1)) (xs (6 * n + 2)) (xs (6 * n + 3)) (xs (6 * n + 4)) (xs (6 * n + 5)))) U9.heap := hB2
  rw [ht2] at hB2
  have hP2 := cP_keep hB1 hc3.dis hk2
  have ho2 := ho1.kept (hk2 oa ho1.lt hnm)
  refine lv_istore (lv' := [(6, .int (r_bid M (xs (6 * n + 1)) (xs (6 * n + 2)) (xs (6 * n + 3)) (xs (6 * n + 4)) (xs (6 * n + 5)))), (5, .int (nI (k_bid M (xs (6 * n + 1)) (xs (6 * n + 2)) (xs (6 * n + 3)) (xs (6 * n + 4)) (xs (6 * n + 5))))), (0, .ref b), (1, .ref h), (2, .ref (ad 0)), (3, .ref oa), (4, .int (nI (6 * n)))]) hx hb dL_law_479 hl (by decide) rfl (fun ls hl => ?_)
  have hM2 := (MI_bid hM (by omega) (xs (6 * n + 1)) (xs (6 * n + 2)) (xs (6 * n + 3)) (xs (6 * n + 4)) (xs (6 * n + 5)))
  refine lv_aload_n hx hb dL_law_481 rfl (lv_at hl 4 rfl) ?_
  refine vp_callSi (W.runV (As := []) (rest := []) ⟨hx, hb, hml, hown, hts⟩ (c9_thrown l D ad cI cZ cC (k_bid M (xs (6 * n + 1)) (xs (6 * n + 2)) (xs (6 * n + 3)) (xs (6 * n + 4)) (xs (6 * n + 5))) (g_bid M (xs (6 * n + 1)) (xs (6 * n + 2)) (xs (6 * n + 3)) (xs (6 * n + 4)) (xs (6 * n + 5))) hM2) (cwV 0 hts gL_law_X9_thrown rfl rfl rfl kd_X9_thrown ⟨Nat.le_of_ble_eq_true rfl, Nat.le_of_ble_eq_true rfl⟩) ⟨mB_blind, m_recv hKm hB2, m_pre hKm hB2 _⟩ rfl rfl hl.1 rfl (lv_room (Nat.le_of_ble_eq_true rfl)) dL_law_482 ⟨by show cells + 6 + 0 + 0 ≤ 601024; omega, by show slots + 132 + 0 + 0 ≤ 7293033; omega⟩) (fun r3 hr3 => ?_)
  subst hr3
  refine lv_iload hx hb dL_law_485 (lv_at hl 1 rfl) ?_
  refine lv_icmp_eq (tgt := 492) hx hb dL_law_487 (by decide) (fun c9 => ?_) (fun c9 => absurd rfl c9)
  have hfin : ∀ ls, lv_has ls 7 [(6, .int (r_bid M (xs (6 * n + 1)) (xs (6 * n + 2)) (xs (6 * n + 3)) (xs (6 * n + 4)) (xs (6 * n + 5)))), (5, .int (nI (k_bid M (xs (6 * n + 1)) (xs (6 * n + 2)) (xs (6 * n + 3)) (xs (6 * n + 4)) (xs (6 * n + 5))))), (0, .ref b), (1, .ref h), (2, .ref (ad 0)), (3, .ref oa), (4, .int (nI (6 * n)))] → W p l e room_1 s m args below meth c H2 locs2 (cells + 6 + 0) (slots + 132 + 0) Q (F0 m 2054 ls []) := fun ls hl => by
    refine W.widen (k := cells + 241) (n := slots + 12126) (by omega) (by omega) ?_
    exact kk _ _ _ _ _ _ ⟨hc3, hM2, hI2.1 hLB, by have := hI2.2; omega, hP2, hB2, ho2, hS2⟩ ls (lv_sub hl [2, 3, 4, 5, 6] rfl)
  refine lv_iload hx hb dL_law_492 (lv_at hl 1 rfl) ?_
  refine n_if_ne (tgt := 509) hx hb dL_law_494 (by decide) (by omega) (fun c8 => ?_) (fun c8 => ?_)
  · refine lv_goto (tgt := 2054) hx hb dL_law_509 (by decide) (hfin ls hl)
  · have ho3 := hout c8
    rw [ho3] at ho2
    refine lv_aload_n hx hb dL_law_497 rfl (lv_at hl 5 rfl) ?_
    refine lv_iconst (v := nI 0) hx hb dL_law_498 (by decide) ?_
    refine va_lald hx hb hKJ (va_P_one ho2) 0 0 rfl rfl (vp_in_nI (by decide) (by decide)) dL_law_499 ?_
    refine lv_iload hx hb dL_law_500 (lv_at hl 0 rfl) ?_
    refine lv_i2l (v := Int32.toInt64 (r_bid M (xs (6 * n + 1)) (xs (6 * n + 2)) (xs (6 * n + 3)) (xs (6 * n + 4)) (xs (6 * n + 5)))) hx hb dL_law_502 rfl ?_
    refine lw_lcmp hx hb dL_law_503 ?_
    refine n_if_eq (tgt := 509) hx hb dL_law_504 (by decide) (by decide) (fun _ => ?_) (fun c7 => absurd rfl c7)
    exact lv_goto (tgt := 2054) hx hb dL_law_509 (by decide) (hfin ls hl)
set_option maxHeartbeats 4000000 in
set_option maxRecDepth 100000 in
theorem lc_withdraw {p : Program} {l : Launch} {e : Env} {s : State} {m : MethodId} {args : Array Value} {below : List Frame} {meth : Method} {c : Code} {b L : Nat} {xs : Nat → Int32} {Q : State → Prop} {D : va_G} {cI cO cb cZ cC cJ : ClassId} {eA mi : Nat} {st ad : Nat → Nat} {dO dT : Nat} {vF : Value} {h oa : Nat} (hst : l.stackTraces = false) (C0 : LC p s m args c b L xs D cI cO cb cZ cC cJ eA mi st ad dO dT vF oa) {n : Nat} (hn : 6 * n + 6 ≤ L) (hL : L ≤ 3072) {M : MS} {ws : va_W} {th : Nat} {x : Int64} {H : Heap} {locs : List Loc} (hI : LI D cI cO eA st cZ cC cJ s ad h oa n M ws th x H locs) {cells slots : Nat} (hc1 : cells + 241 ≤ 601024) (hc2 : slots + 12126 ≤ 7293033) (kk : ∀ M ws th x H locs, LI D cI cO eA st cZ cC cJ s ad h oa (n + 1) M ws th x H locs → ∀ ls, lv_has ls 7 [(0, .ref b), (1, .ref h), (2, .ref (ad 0)), (3, .ref oa), (4, .int (nI (6 * n)))] → W p l e room_1 s m args below meth c H locs (cells + 241) (slots + 12126) Q (F0 m 2054 ls [])) : ∀ ls, lv_has ls 7 [(0, .ref b), (1, .ref h), (2, .ref (ad 0)), (3, .ref oa), (4, .int (nI (6 * n)))] → W p l e room_1 s m args below meth c H locs cells slots Q (F0 m 512 ls []) := by
  obtain ⟨hx, hb, hml, hown, hts, hX, hbl, hK, hKm, hKJ, hG, hGT, hN, hsI, hdis, hmn, hon, hnm⟩ := C0
  obtain ⟨hc, hM, hLB, h15, hP, hPm, ho, hS⟩ := hI
  have hbA : ¬ (fun q : Nat => s.heap.size ≤ q) b := Nat.not_le.mpr hbl
  have hno : ¬ lA s.heap.size ad oa oa := fun q => q.2.2 rfl
  have hI2 := LB_withdraw (M := M) (xs (6 * n + 1)) (xs (6 * n + 2)) (xs (6 * n + 3))
  intro ls hl
  refine lv_aload_n hx hb dL_law_512 rfl (lv_at hl 1 rfl) ?_
  refine lv_aload_n hx hb dL_law_513 rfl (lv_at hl 0 rfl) ?_
  refine lv_iload hx hb dL_law_514 (lv_at hl 4 rfl) ?_
  refine lv_iconst (v := nI 1) hx hb dL_law_516 (by decide) ?_
  refine n_iadd hx hb dL_law_517 (z := 6 * n + 1) rfl ?_
  refine va_sld hx hb hX hbl hbA hS (vp_in_nI (by omega) (by omega)) dL_law_518 ?_
  rw [nI_clamp (show 6 * n + 1 < 2 ^ 31 by omega)]
  refine lv_aload_n hx hb dL_law_519 rfl (lv_at hl 0 rfl) ?_
  refine lv_iload hx hb dL_law_520 (lv_at hl 4 rfl) ?_
  refine lv_iconst (v := nI 2) hx hb dL_law_522 (by decide) ?_
  refine n_iadd hx hb dL_law_523 (z := 6 * n + 2) rfl ?_
  refine va_sld hx hb hX hbl hbA hS (vp_in_nI (by omega) (by omega)) dL_law_524 ?_
  rw [nI_clamp (show 6 * n + 2 < 2 ^ 31 by omega)]
  refine lv_aload_n hx hb dL_law_525 rfl (lv_at hl 0 rfl) ?_
  refine lv_iload hx hb dL_law_526 (lv_at hl 4 rfl) ?_
  refine lv_iconst (v := nI 3) hx hb dL_law_528 (by decide) ?_
  refine n_iadd hx hb dL_law_529 (z := 6 * n + 3) rfl ?_
  refine va_sld hx hb hX hbl hbA hS (vp_in_nI (by omega) (by omega)) dL_law_530 ?_
  rw [nI_clamp (show 6 * n + 3 < 2 ^ 31 by omega)]
  refine lv_aload_n hx hb dL_law_531 rfl (lv_at hl 3 rfl) ?_
  refine va_calli (vx_runSW (As := [.ref h, .int (xs (6 * n + 1)), .int (xs (6 * n + 2)), .int (xs (6 * n + 3)), .ref oa]) (rest := []) ⟨hx, hb, hml, hown, hts⟩ (cL9_withdraw l hst D cI cO cb eA mi st dO dT vF ws hc hM hsI cJ oa x hno (xs (6 * n + 1)) (xs (6 * n + 2)) (xs (6 * n + 3))) (vx_cwSW 5 hts gL_law_L_withdraw rfl rfl rfl kd_L_withdraw ⟨Nat.le_of_ble_eq_true rfl, Nat.le_of_ble_eq_true rfl⟩) ⟨lB_blind, lB_pre hK hKJ hG hGT hN (fun q h => h.1) hS (fresh_lA hPm ho hS) hP ho _⟩ rfl rfl hl.1 rfl (lv_room (Nat.le_of_ble_eq_true rfl)) dL_law_532 ⟨by show cells + 4 ≤ 601024; omega, by show slots + 24 ≤ 7293033; omega⟩) hS (fun q _ h => h.elim (fun h => h.1) (fun h => by rw [h]; exact hon)) (fun q h => h.elim (fun h => h.1) (fun h => by rw [h]; exact hon)) (fun r u U8 H1 locs1 ht hvm hu hB hz1 hk1 hS1 => ?_)
  obtain ⟨hri, hk3, hout, hc3⟩ := hu
  subst hri
  rw [ht] at hB
  obtain ⟨hB1, ho1⟩ := hB
  have hPm1 := mP_keep hPm hk1 hnm
  clear hS hP hPm ho
  have hS := hS1
  refine lv_istore (lv' := [(5, .int (nI (k_withdraw M (xs (6 * n + 1)) (xs (6 * n + 2)) (xs (6 * n + 3))))), (0, .ref b), (1, .ref h), (2, .ref (ad 0)), (3, .ref oa), (4, .int (nI (6 * n)))]) hx hb dL_law_535 hl (by decide) rfl (fun ls hl => ?_)
  refine lv_aload_n hx hb dL_law_537 rfl (lv_at hl 3 rfl) ?_
  refine lv_aload_n hx hb dL_law_538 rfl (lv_at hl 1 rfl) ?_
  refine lv_iload hx hb dL_law_539 (lv_at hl 5 rfl) ?_
  refine lv_iconst (v := nI 1) hx hb dL_law_541 (by decide) ?_
  refine n_iadd hx hb dL_law_542 (z := 6 * n + 1) rfl ?_
  refine va_sld hx hb hX hbl hbA hS (vp_in_nI (by omega) (by omega)) dL_law_543 ?_
  rw [nI_clamp (show 6 * n + 1 < 2 ^ 31 by omega)]
  refine lv_aload_n hx hb dL_law_544 rfl (lv_at hl 1 rfl) ?_
  refine lv_iload hx hb dL_law_545 (lv_at hl 5 rfl) ?_
  refine lv_iconst (v := nI 2) hx hb dL_law_547 (by decide) ?_
  refine n_iadd hx hb dL_law_548 (z := 6 * n + 2) rfl ?_
  refine va_sld hx hb hX hbl hbA hS (vp_in_nI (by omega) (by omega)) dL_law_549 ?_
  rw [nI_clamp (show 6 * n + 2 < 2 ^ 31 by omega)]
  refine lv_aload_n hx hb dL_law_550 rfl (lv_at hl 1 rfl) ?_
  refine lv_iload hx hb dL_law_551 (lv_at hl 5 rfl) ?_
  refine lv_iconst (v := nI 3) hx hb dL_law_553 (by decide) ?_
  refine n_iadd hx hb dL_law_554 (z := 6 * n + 3) rfl ?_
  refine va_sld hx hb hX hbl hbA hS (vp_in_nI (by omega) (by omega)) dL_law_555 ?_
  rw [nI_clamp (show 6 * n + 3 < 2 ^ 31 by omega)]
  refine va_calli (va_runV (As := [.int (xs (6 * n + 1)), .int (xs (6 * n + 2)), .int (xs (6 * n + 3))]) (rest := []) ⟨hx, hb, hml, hown, hts⟩ (c9_withdraw l D ad cI cZ cC th M hM hdis (xs (6 * n + 1)) (xs (6 * n + 2)) (xs (6 * n + 3))) (cwV 3 hts gL_law_X9_withdraw rfl rfl rfl kd_X9_withdraw ⟨Nat.le_of_ble_eq_true rfl, Nat.le_of_ble_eq_true rfl⟩) ⟨mB_blind, m_recv hKm hPm1, m_pre hKm hPm1 _⟩ rfl rfl hl.1 rfl (lv_room (Nat.le_of_ble_eq_true rfl)) dL_law_556 ⟨by show cells + 4 + 0 ≤ 601024; omega, by show slots + 24 + 0 ≤ 7293033; omega⟩) hS (fun q _ h => hmn q h) (fun q h => hmn q h) (fun r2 u2 U9 H2 locs2 ht2 hvm2 hu2 hB2 hz2 hk2 hS2 => ?_)
  subst hu2
  replace hB2 : va_P D vwCl (mws ad cI cZ cC (k_withdraw M (xs (6 * n + 1)) (xs (6 * n + 2)) (xs (6 * n + 3))) (g_withdraw M (xs (6 * n + 1)) (xs (6 * n + 2)) (xs (6 * n + 3)))) U9.heap := hB2
  rw [ht2] at hB2
  have hP2 := cP_keep hB1 hc3.dis hk2
  have ho2 := ho1.kept (hk2 oa ho1.lt hnm)
  refine lv_istore (lv' := [(6, .int (r_withdraw M (xs (6 * n + 1)) (xs (6 * n + 2)) (xs (6 * n + 3)))), (5, .int (nI (k_withdraw M (xs (6 * n + 1)) (xs (6 * n + 2)) (xs (6 * n + 3))))), (0, .ref b), (1, .ref h), (2, .ref (ad 0)), (3, .ref oa), (4, .int (nI (6 * n)))]) hx hb dL_law_559 hl (by decide) rfl (fun ls hl => ?_)
  have hM2 := (MI_withdraw hM (xs (6 * n + 1)) (xs (6 * n + 2)) (xs (6 * n + 3)))
  refine lv_aload_n hx hb dL_law_561 rfl (lv_at hl 4 rfl) ?_
  refine vp_callSi (W.runV (As := []) (rest := []) ⟨hx, hb, hml, hown, hts⟩ (c9_thrown l D ad cI cZ cC (k_withdraw M (xs (6 * n + 1)) (xs (6 * n + 2)) (xs (6 * n + 3))) (g_withdraw M (xs (6 * n + 1)) (xs (6 * n + 2)) (xs (6 * n + 3))) hM2) (cwV 0 hts gL_law_X9_thrown rfl rfl rfl kd_X9_thrown ⟨Nat.le_of_ble_eq_true rfl, Nat.le_of_ble_eq_true rfl⟩) ⟨mB_blind, m_recv hKm hB2, m_pre hKm hB2 _⟩ rfl rfl hl.1 rfl (lv_room (Nat.le_of_ble_eq_true rfl)) dL_law_562 ⟨by show cells + 4 + 0 + 0 ≤ 601024; omega, by show slots + 24 + 0 + 0 ≤ 7293033; omega⟩) (fun r3 hr3 => ?_)
  subst hr3
  refine lv_iload hx hb dL_law_565 (lv_at hl 1 rfl) ?_
  refine lv_icmp_eq (tgt := 572) hx hb dL_law_567 (by decide) (fun c9 => ?_) (fun c9 => absurd rfl c9)
  have hfin : ∀ ls, lv_has ls 7 [(6, .int (r_withdraw M (xs (6 * n + 1)) (xs (6 * n + 2)) (xs (6 * n + 3)))), (5, .int (nI (k_withdraw M (xs (6 * n + 1)) (xs (6 * n + 2)) (xs (6 * n + 3))))), (0, .ref b), (1, .ref h), (2, .ref (ad 0)), (3, .ref oa), (4, .int (nI (6 * n)))] → W p l e room_1 s m args below meth c H2 locs2 (cells + 4 + 0) (slots + 24 + 0) Q (F0 m 2054 ls []) := fun ls hl => by
    refine W.widen (k := cells + 241) (n := slots + 12126) (by omega) (by omega) ?_
    exact kk _ _ _ _ _ _ ⟨hc3, hM2, hI2.1 hLB, by have := hI2.2; omega, hP2, hB2, ho2, hS2⟩ ls (lv_sub hl [2, 3, 4, 5, 6] rfl)
  refine lv_iload hx hb dL_law_572 (lv_at hl 1 rfl) ?_
  refine n_if_ne (tgt := 589) hx hb dL_law_574 (by decide) (by omega) (fun c8 => ?_) (fun c8 => ?_)
  · refine lv_goto (tgt := 2054) hx hb dL_law_589 (by decide) (hfin ls hl)
  · have ho3 := hout c8
    rw [ho3] at ho2
    refine lv_aload_n hx hb dL_law_577 rfl (lv_at hl 5 rfl) ?_
    refine lv_iconst (v := nI 0) hx hb dL_law_578 (by decide) ?_
    refine va_lald hx hb hKJ (va_P_one ho2) 0 0 rfl rfl (vp_in_nI (by decide) (by decide)) dL_law_579 ?_
    refine lv_iload hx hb dL_law_580 (lv_at hl 0 rfl) ?_
    refine lv_i2l (v := Int32.toInt64 (r_withdraw M (xs (6 * n + 1)) (xs (6 * n + 2)) (xs (6 * n + 3)))) hx hb dL_law_582 rfl ?_
    refine lw_lcmp hx hb dL_law_583 ?_
    refine n_if_eq (tgt := 589) hx hb dL_law_584 (by decide) (by decide) (fun _ => ?_) (fun c7 => absurd rfl c7)
    exact lv_goto (tgt := 2054) hx hb dL_law_589 (by decide) (hfin ls hl)
set_option maxHeartbeats 4000000 in
set_option maxRecDepth 100000 in
theorem lc_pass {p : Program} {l : Launch} {e : Env} {s : State} {m : MethodId} {args : Array Value} {below : List Frame} {meth : Method} {c : Code} {b L : Nat} {xs : Nat → Int32} {Q : State → Prop} {D : va_G} {cI cO cb cZ cC cJ : ClassId} {eA mi : Nat} {st ad : Nat → Nat} {dO dT : Nat} {vF : Value} {h oa : Nat} (hst : l.stackTraces = false) (C0 : LC p s m args c b L xs D cI cO cb cZ cC cJ eA mi st ad dO dT vF oa) {n : Nat} (hn : 6 * n + 6 ≤ L) (hL : L ≤ 3072) {M : MS} {ws : va_W} {th : Nat} {x : Int64} {H : Heap} {locs : List Loc} (hI : LI D cI cO eA st cZ cC cJ s ad h oa n M ws th x H locs) {cells slots : Nat} (hc1 : cells + 241 ≤ 601024) (hc2 : slots + 12126 ≤ 7293033) (kk : ∀ M ws th x H locs, LI D cI cO eA st cZ cC cJ s ad h oa (n + 1) M ws th x H locs → ∀ ls, lv_has ls 7 [(0, .ref b), (1, .ref h), (2, .ref (ad 0)), (3, .ref oa), (4, .int (nI (6 * n)))] → W p l e room_1 s m args below meth c H locs (cells + 241) (slots + 12126) Q (F0 m 2054 ls [])) : ∀ ls, lv_has ls 7 [(0, .ref b), (1, .ref h), (2, .ref (ad 0)), (3, .ref oa), (4, .int (nI (6 * n)))] → W p l e room_1 s m args below meth c H locs cells slots Q (F0 m 592 ls []) := by
  obtain ⟨hx, hb, hml, hown, hts, hX, hbl, hK, hKm, hKJ, hG, hGT, hN, hsI, hdis, hmn, hon, hnm⟩ := C0
  obtain ⟨hc, hM, hLB, h15, hP, hPm, ho, hS⟩ := hI
  have hbA : ¬ (fun q : Nat => s.heap.size ≤ q) b := Nat.not_le.mpr hbl
  have hno : ¬ lA s.heap.size ad oa oa := fun q => q.2.2 rfl
  have hI2 := LB_pass hM ((xs (6 * n + 1)))
  intro ls hl
  have h60 := dyN_60 hM hLB (xs (6 * n + 1)) (xs (6 * n + 1)).toNatClampNeg
  refine lv_aload_n hx hb dL_law_592 rfl (lv_at hl 1 rfl) ?_
  refine lv_aload_n hx hb dL_law_593 rfl (lv_at hl 0 rfl) ?_
  refine lv_iload hx hb dL_law_594 (lv_at hl 4 rfl) ?_
  refine lv_iconst (v := nI 1) hx hb dL_law_596 (by decide) ?_
  refine n_iadd hx hb dL_law_597 (z := 6 * n + 1) rfl ?_
  refine va_sld hx hb hX hbl hbA hS (vp_in_nI (by omega) (by omega)) dL_law_598 ?_
  rw [nI_clamp (show 6 * n + 1 < 2 ^ 31 by omega)]
  refine lv_aload_n hx hb dL_law_599 rfl (lv_at hl 3 rfl) ?_
  refine va_calli (vx_runSW (As := [.ref h, .int (xs (6 * n + 1)), .ref oa]) (rest := []) ⟨hx, hb, hml, hown, hts⟩ (cL9_pass l hst D cI cO cb eA mi st dO dT vF ws hc hM hsI hLB cJ oa x hno (xs (6 * n + 1))) (vx_cwSW 3 hts gL_law_L_pass rfl rfl rfl kd_L_pass ⟨Nat.le_of_ble_eq_true rfl, Nat.le_of_ble_eq_true rfl⟩) ⟨lB_blind, lB_pre hK hKJ hG hGT hN (fun q h => h.1) hS (fresh_lA hPm ho hS) hP ho _⟩ rfl rfl hl.1 rfl (lv_room (Nat.le_of_ble_eq_true rfl)) dL_law_600 ⟨by show cells + (4 * dyN M (xs (6 * n + 1)) (xs (6 * n + 1)).toNatClampNeg + 1) ≤ 601024; omega, by show slots + (202 * dyN M (xs (6 * n + 1)) (xs (6 * n + 1)).toNatClampNeg + 6) ≤ 7293033; omega⟩) hS (fun q _ h => h.elim (fun h => h.1) (fun h => by rw [h]; exact hon)) (fun q h => h.elim (fun h => h.1) (fun h => by rw [h]; exact hon)) (fun r u U8 H1 locs1 ht hvm hu hB hz1 hk1 hS1 => ?_)
  obtain ⟨hri, hk3, hout, hc3⟩ := hu
  subst hri
  rw [ht] at hB
  obtain ⟨hB1, ho1⟩ := hB
  have hPm1 := mP_keep hPm hk1 hnm
  clear hS hP hPm ho
  have hS := hS1
  refine lv_istore (lv' := [(5, .int (nI (k_pass M (xs (6 * n + 1))))), (0, .ref b), (1, .ref h), (2, .ref (ad 0)), (3, .ref oa), (4, .int (nI (6 * n)))]) hx hb dL_law_603 hl (by decide) rfl (fun ls hl => ?_)
  refine lv_aload_n hx hb dL_law_605 rfl (lv_at hl 3 rfl) ?_
  refine lv_aload_n hx hb dL_law_606 rfl (lv_at hl 1 rfl) ?_
  refine lv_iload hx hb dL_law_607 (lv_at hl 5 rfl) ?_
  refine lv_iconst (v := nI 1) hx hb dL_law_609 (by decide) ?_
  refine n_iadd hx hb dL_law_610 (z := 6 * n + 1) rfl ?_
  refine va_sld hx hb hX hbl hbA hS (vp_in_nI (by omega) (by omega)) dL_law_611 ?_
  rw [nI_clamp (show 6 * n + 1 < 2 ^ 31 by omega)]
  refine va_calli (va_runV (As := [.int (xs (6 * n + 1))]) (rest := []) ⟨hx, hb, hml, hown, hts⟩ (c9_pass l D ad cI cZ cC th M hM hdis (xs (6 * n + 1)) hLB) (cwV 1 hts gL_law_X9_pass rfl rfl rfl kd_X9_pass ⟨Nat.le_of_ble_eq_true rfl, Nat.le_of_ble_eq_true rfl⟩) ⟨mB_blind, m_recv hKm hPm1, m_pre hKm hPm1 _⟩ rfl rfl hl.1 rfl (lv_room (Nat.le_of_ble_eq_true rfl)) dL_law_612 ⟨by show cells + (4 * dyN M (xs (6 * n + 1)) (xs (6 * n + 1)).toNatClampNeg + 1) + 0 ≤ 601024; omega, by show slots + (202 * dyN M (xs (6 * n + 1)) (xs (6 * n + 1)).toNatClampNeg + 6) + 0 ≤ 7293033; omega⟩) hS (fun q _ h => hmn q h) (fun q h => hmn q h) (fun r2 u2 U9 H2 locs2 ht2 hvm2 hu2 hB2 hz2 hk2 hS2 => ?_)
  subst hu2
  replace hB2 : va_P D vwCl (mws ad cI cZ cC (k_pass M (xs (6 * n + 1))) (g_pass M (xs (6 * n + 1)))) U9.heap := hB2
  rw [ht2] at hB2
  have hP2 := cP_keep hB1 hc3.dis hk2
  have ho2 := ho1.kept (hk2 oa ho1.lt hnm)
  refine lv_istore (lv' := [(6, .int (r_pass M (xs (6 * n + 1)))), (5, .int (nI (k_pass M (xs (6 * n + 1))))), (0, .ref b), (1, .ref h), (2, .ref (ad 0)), (3, .ref oa), (4, .int (nI (6 * n)))]) hx hb dL_law_615 hl (by decide) rfl (fun ls hl => ?_)
  have hM2 := (MI_pass hM hLB ((xs (6 * n + 1)))).1
  refine lv_aload_n hx hb dL_law_617 rfl (lv_at hl 4 rfl) ?_
  refine vp_callSi (W.runV (As := []) (rest := []) ⟨hx, hb, hml, hown, hts⟩ (c9_thrown l D ad cI cZ cC (k_pass M (xs (6 * n + 1))) (g_pass M (xs (6 * n + 1))) hM2) (cwV 0 hts gL_law_X9_thrown rfl rfl rfl kd_X9_thrown ⟨Nat.le_of_ble_eq_true rfl, Nat.le_of_ble_eq_true rfl⟩) ⟨mB_blind, m_recv hKm hB2, m_pre hKm hB2 _⟩ rfl rfl hl.1 rfl (lv_room (Nat.le_of_ble_eq_true rfl)) dL_law_618 ⟨by show cells + (4 * dyN M (xs (6 * n + 1)) (xs (6 * n + 1)).toNatClampNeg + 1) + 0 + 0 ≤ 601024; omega, by show slots + (202 * dyN M (xs (6 * n + 1)) (xs (6 * n + 1)).toNatClampNeg + 6) + 0 + 0 ≤ 7293033; omega⟩) (fun r3 hr3 => ?_)
  subst hr3
  refine lv_iload hx hb dL_law_621 (lv_at hl 1 rfl) ?_
  refine lv_icmp_eq (tgt := 628) hx hb dL_law_623 (by decide) (fun c9 => ?_) (fun c9 => absurd rfl c9)
  have hfin : ∀ ls, lv_has ls 7 [(6, .int (r_pass M (xs (6 * n + 1)))), (5, .int (nI (k_pass M (xs (6 * n + 1))))), (0, .ref b), (1, .ref h), (2, .ref (ad 0)), (3, .ref oa), (4, .int (nI (6 * n)))] → W p l e room_1 s m args below meth c H2 locs2 (cells + (4 * dyN M (xs (6 * n + 1)) (xs (6 * n + 1)).toNatClampNeg + 1) + 0) (slots + (202 * dyN M (xs (6 * n + 1)) (xs (6 * n + 1)).toNatClampNeg + 6) + 0) Q (F0 m 2054 ls []) := fun ls hl => by
    refine W.widen (k := cells + 241) (n := slots + 12126) (by omega) (by omega) ?_
    exact kk _ _ _ _ _ _ ⟨hc3, hM2, hI2.1 hLB, by have := hI2.2; omega, hP2, hB2, ho2, hS2⟩ ls (lv_sub hl [2, 3, 4, 5, 6] rfl)
  refine lv_iload hx hb dL_law_628 (lv_at hl 1 rfl) ?_
  refine n_if_ne (tgt := 645) hx hb dL_law_630 (by decide) (by omega) (fun c8 => ?_) (fun c8 => ?_)
  · refine lv_goto (tgt := 2054) hx hb dL_law_645 (by decide) (hfin ls hl)
  · have ho3 := hout c8
    rw [ho3] at ho2
    refine lv_aload_n hx hb dL_law_633 rfl (lv_at hl 5 rfl) ?_
    refine lv_iconst (v := nI 0) hx hb dL_law_634 (by decide) ?_
    refine va_lald hx hb hKJ (va_P_one ho2) 0 0 rfl rfl (vp_in_nI (by decide) (by decide)) dL_law_635 ?_
    refine lv_iload hx hb dL_law_636 (lv_at hl 0 rfl) ?_
    refine lv_i2l (v := Int32.toInt64 (r_pass M (xs (6 * n + 1)))) hx hb dL_law_638 rfl ?_
    refine lw_lcmp hx hb dL_law_639 ?_
    refine n_if_eq (tgt := 645) hx hb dL_law_640 (by decide) (by decide) (fun _ => ?_) (fun c7 => absurd rfl c7)
    exact lv_goto (tgt := 2054) hx hb dL_law_645 (by decide) (hfin ls hl)
set_option maxHeartbeats 4000000 in
set_option maxRecDepth 100000 in
theorem lc_isIn {p : Program} {l : Launch} {e : Env} {s : State} {m : MethodId} {args : Array Value} {below : List Frame} {meth : Method} {c : Code} {b L : Nat} {xs : Nat → Int32} {Q : State → Prop} {D : va_G} {cI cO cb cZ cC cJ : ClassId} {eA mi : Nat} {st ad : Nat → Nat} {dO dT : Nat} {vF : Value} {h oa : Nat} (hst : l.stackTraces = false) (C0 : LC p s m args c b L xs D cI cO cb cZ cC cJ eA mi st ad dO dT vF oa) {n : Nat} (hn : 6 * n + 6 ≤ L) (hL : L ≤ 3072) {M : MS} {ws : va_W} {th : Nat} {x : Int64} {H : Heap} {locs : List Loc} (hI : LI D cI cO eA st cZ cC cJ s ad h oa n M ws th x H locs) {cells slots : Nat} (hc1 : cells + 241 ≤ 601024) (hc2 : slots + 12126 ≤ 7293033) (kk : ∀ M ws th x H locs, LI D cI cO eA st cZ cC cJ s ad h oa (n + 1) M ws th x H locs → ∀ ls, lv_has ls 7 [(0, .ref b), (1, .ref h), (2, .ref (ad 0)), (3, .ref oa), (4, .int (nI (6 * n)))] → W p l e room_1 s m args below meth c H locs (cells + 241) (slots + 12126) Q (F0 m 2054 ls [])) : ∀ ls, lv_has ls 7 [(0, .ref b), (1, .ref h), (2, .ref (ad 0)), (3, .ref oa), (4, .int (nI (6 * n)))] → W p l e room_1 s m args below meth c H locs cells slots Q (F0 m 661 ls []) := by
  obtain ⟨hx, hb, hml, hown, hts, hX, hbl, hK, hKm, hKJ, hG, hGT, hN, hsI, hdis, hmn, hon, hnm⟩ := C0
  obtain ⟨hc, hM, hLB, h15, hP, hPm, ho, hS⟩ := hI
  have hbA : ¬ (fun q : Nat => s.heap.size ≤ q) b := Nat.not_le.mpr hbl
  have hno : ¬ lA s.heap.size ad oa oa := fun q => q.2.2 rfl
  have hI2 := LBN.rf (M := M)
  intro ls hl
  refine lv_aload_n hx hb dL_law_661 rfl (lv_at hl 1 rfl) ?_
  refine lv_aload_n hx hb dL_law_662 rfl (lv_at hl 0 rfl) ?_
  refine lv_iload hx hb dL_law_663 (lv_at hl 4 rfl) ?_
  refine lv_iconst (v := nI 1) hx hb dL_law_665 (by decide) ?_
  refine n_iadd hx hb dL_law_666 (z := 6 * n + 1) rfl ?_
  refine va_sld hx hb hX hbl hbA hS (vp_in_nI (by omega) (by omega)) dL_law_667 ?_
  rw [nI_clamp (show 6 * n + 1 < 2 ^ 31 by omega)]
  refine lv_aload_n hx hb dL_law_668 rfl (lv_at hl 0 rfl) ?_
  refine lv_iload hx hb dL_law_669 (lv_at hl 4 rfl) ?_
  refine lv_iconst (v := nI 2) hx hb dL_law_671 (by decide) ?_
  refine n_iadd hx hb dL_law_672 (z := 6 * n + 2) rfl ?_
  refine va_sld hx hb hX hbl hbA hS (vp_in_nI (by omega) (by omega)) dL_law_673 ?_
  rw [nI_clamp (show 6 * n + 2 < 2 ^ 31 by omega)]
  refine lv_aload_n hx hb dL_law_674 rfl (lv_at hl 0 rfl) ?_
  refine lv_iload hx hb dL_law_675 (lv_at hl 4 rfl) ?_
  refine lv_iconst (v := nI 3) hx hb dL_law_677 (by decide) ?_
  refine n_iadd hx hb dL_law_678 (z := 6 * n + 3) rfl ?_
  refine va_sld hx hb hX hbl hbA hS (vp_in_nI (by omega) (by omega)) dL_law_679 ?_
  rw [nI_clamp (show 6 * n + 3 < 2 ^ 31 by omega)]
  refine lv_aload_n hx hb dL_law_680 rfl (lv_at hl 3 rfl) ?_
  refine va_calli (vx_runSW (As := [.ref h, .int (xs (6 * n + 1)), .int (xs (6 * n + 2)), .int (xs (6 * n + 3)), .ref oa]) (rest := []) ⟨hx, hb, hml, hown, hts⟩ (cL9_isIn l hst D cI cO cb eA mi st dO dT vF ws hc hM hsI cJ oa x hno (xs (6 * n + 1)) (xs (6 * n + 2)) (xs (6 * n + 3))) (vx_cwSW 5 hts gL_law_L_isIn rfl rfl rfl kd_L_isIn ⟨Nat.le_of_ble_eq_true rfl, Nat.le_of_ble_eq_true rfl⟩) ⟨lB_blind, lB_pre hK hKJ hG hGT hN (fun q h => h.1) hS (fresh_lA hPm ho hS) hP ho _⟩ rfl rfl hl.1 rfl (lv_room (Nat.le_of_ble_eq_true rfl)) dL_law_681 ⟨by show cells + 3 ≤ 601024; omega, by show slots + 18 ≤ 7293033; omega⟩) hS (fun q _ h => h.elim (fun h => h.1) (fun h => by rw [h]; exact hon)) (fun q h => h.elim (fun h => h.1) (fun h => by rw [h]; exact hon)) (fun r u U8 H1 locs1 ht hvm hu hB hz1 hk1 hS1 => ?_)
  obtain ⟨hri, hk3, hout, hc3⟩ := hu
  subst hri
  rw [ht] at hB
  obtain ⟨hB1, ho1⟩ := hB
  have hPm1 := mP_keep hPm hk1 hnm
  clear hS hP hPm ho
  have hS := hS1
  refine lv_istore (lv' := [(5, .int (nI (k_ask M (xs (6 * n + 1)) (xs (6 * n + 2)) (xs (6 * n + 3))))), (0, .ref b), (1, .ref h), (2, .ref (ad 0)), (3, .ref oa), (4, .int (nI (6 * n)))]) hx hb dL_law_684 hl (by decide) rfl (fun ls hl => ?_)
  refine lv_aload_n hx hb dL_law_686 rfl (lv_at hl 3 rfl) ?_
  refine lv_aload_n hx hb dL_law_687 rfl (lv_at hl 1 rfl) ?_
  refine lv_iload hx hb dL_law_688 (lv_at hl 5 rfl) ?_
  refine lv_iconst (v := nI 1) hx hb dL_law_690 (by decide) ?_
  refine n_iadd hx hb dL_law_691 (z := 6 * n + 1) rfl ?_
  refine va_sld hx hb hX hbl hbA hS (vp_in_nI (by omega) (by omega)) dL_law_692 ?_
  rw [nI_clamp (show 6 * n + 1 < 2 ^ 31 by omega)]
  refine lv_aload_n hx hb dL_law_693 rfl (lv_at hl 1 rfl) ?_
  refine lv_iload hx hb dL_law_694 (lv_at hl 5 rfl) ?_
  refine lv_iconst (v := nI 2) hx hb dL_law_696 (by decide) ?_
  refine n_iadd hx hb dL_law_697 (z := 6 * n + 2) rfl ?_
  refine va_sld hx hb hX hbl hbA hS (vp_in_nI (by omega) (by omega)) dL_law_698 ?_
  rw [nI_clamp (show 6 * n + 2 < 2 ^ 31 by omega)]
  refine lv_aload_n hx hb dL_law_699 rfl (lv_at hl 1 rfl) ?_
  refine lv_iload hx hb dL_law_700 (lv_at hl 5 rfl) ?_
  refine lv_iconst (v := nI 3) hx hb dL_law_702 (by decide) ?_
  refine n_iadd hx hb dL_law_703 (z := 6 * n + 3) rfl ?_
  refine va_sld hx hb hX hbl hbA hS (vp_in_nI (by omega) (by omega)) dL_law_704 ?_
  rw [nI_clamp (show 6 * n + 3 < 2 ^ 31 by omega)]
  refine va_calli (va_runV (As := [.int (xs (6 * n + 1)), .int (xs (6 * n + 2)), .int (xs (6 * n + 3))]) (rest := []) ⟨hx, hb, hml, hown, hts⟩ (c9_isIn l D ad cI cZ cC th M hM hdis (xs (6 * n + 1)) (xs (6 * n + 2)) (xs (6 * n + 3))) (cwV 3 hts gL_law_X9_isIn rfl rfl rfl kd_X9_isIn ⟨Nat.le_of_ble_eq_true rfl, Nat.le_of_ble_eq_true rfl⟩) ⟨mB_blind, m_recv hKm hPm1, m_pre hKm hPm1 _⟩ rfl rfl hl.1 rfl (lv_room (Nat.le_of_ble_eq_true rfl)) dL_law_705 ⟨by show cells + 3 + 0 ≤ 601024; omega, by show slots + 18 + 0 ≤ 7293033; omega⟩) hS (fun q _ h => hmn q h) (fun q h => hmn q h) (fun r2 u2 U9 H2 locs2 ht2 hvm2 hu2 hB2 hz2 hk2 hS2 => ?_)
  subst hu2
  replace hB2 : va_P D vwCl (mws ad cI cZ cC (k_ask M (xs (6 * n + 1)) (xs (6 * n + 2)) (xs (6 * n + 3))) (M)) U9.heap := hB2
  rw [ht2] at hB2
  have hP2 := cP_keep hB1 hc3.dis hk2
  have ho2 := ho1.kept (hk2 oa ho1.lt hnm)
  refine lv_istore (lv' := [(6, .int (bi (r_isIn M (xs (6 * n + 1)) (xs (6 * n + 2)) (xs (6 * n + 3))))), (5, .int (nI (k_ask M (xs (6 * n + 1)) (xs (6 * n + 2)) (xs (6 * n + 3))))), (0, .ref b), (1, .ref h), (2, .ref (ad 0)), (3, .ref oa), (4, .int (nI (6 * n)))]) hx hb dL_law_708 hl (by decide) rfl (fun ls hl => ?_)
  have hM2 := hM
  refine lv_aload_n hx hb dL_law_710 rfl (lv_at hl 4 rfl) ?_
  refine vp_callSi (W.runV (As := []) (rest := []) ⟨hx, hb, hml, hown, hts⟩ (c9_thrown l D ad cI cZ cC (k_ask M (xs (6 * n + 1)) (xs (6 * n + 2)) (xs (6 * n + 3))) (M) hM2) (cwV 0 hts gL_law_X9_thrown rfl rfl rfl kd_X9_thrown ⟨Nat.le_of_ble_eq_true rfl, Nat.le_of_ble_eq_true rfl⟩) ⟨mB_blind, m_recv hKm hB2, m_pre hKm hB2 _⟩ rfl rfl hl.1 rfl (lv_room (Nat.le_of_ble_eq_true rfl)) dL_law_711 ⟨by show cells + 3 + 0 + 0 ≤ 601024; omega, by show slots + 18 + 0 + 0 ≤ 7293033; omega⟩) (fun r3 hr3 => ?_)
  subst hr3
  refine lv_iload hx hb dL_law_714 (lv_at hl 1 rfl) ?_
  refine lv_icmp_eq (tgt := 721) hx hb dL_law_716 (by decide) (fun c9 => ?_) (fun c9 => absurd rfl c9)
  have hfin : ∀ ls, lv_has ls 7 [(6, .int (bi (r_isIn M (xs (6 * n + 1)) (xs (6 * n + 2)) (xs (6 * n + 3))))), (5, .int (nI (k_ask M (xs (6 * n + 1)) (xs (6 * n + 2)) (xs (6 * n + 3))))), (0, .ref b), (1, .ref h), (2, .ref (ad 0)), (3, .ref oa), (4, .int (nI (6 * n)))] → W p l e room_1 s m args below meth c H2 locs2 (cells + 3 + 0) (slots + 18 + 0) Q (F0 m 2054 ls []) := fun ls hl => by
    refine W.widen (k := cells + 241) (n := slots + 12126) (by omega) (by omega) ?_
    exact kk _ _ _ _ _ _ ⟨hc3, hM2, hI2.1 hLB, by have := hI2.2; omega, hP2, hB2, ho2, hS2⟩ ls (lv_sub hl [2, 3, 4, 5, 6] rfl)
  refine lv_iload hx hb dL_law_721 (lv_at hl 1 rfl) ?_
  refine n_if_ne (tgt := 745) hx hb dL_law_723 (by decide) (by omega) (fun c8 => ?_) (fun c8 => ?_)
  · refine lv_goto (tgt := 2054) hx hb dL_law_745 (by decide) (hfin ls hl)
  · have ho3 := hout c8
    rw [ho3] at ho2
    refine lv_aload_n hx hb dL_law_726 rfl (lv_at hl 5 rfl) ?_
    refine lv_iconst (v := nI 0) hx hb dL_law_727 (by decide) ?_
    refine va_lald hx hb hKJ (va_P_one ho2) 0 0 rfl rfl (vp_in_nI (by decide) (by decide)) dL_law_728 ?_
    refine lv_iload hx hb dL_law_729 (lv_at hl 0 rfl) ?_
    refine b_if_eq (tgt := 738) hx hb dL_law_731 (by decide) (fun c7 => ?_) (fun c7 => ?_)
    · refine lv_lconst (v := Int32.toInt64 (bi (r_isIn M (xs (6 * n + 1)) (xs (6 * n + 2)) (xs (6 * n + 3))))) hx hb dL_law_738 (by rw [c7]; first | rfl | decide) ?_
      refine lw_lcmp hx hb dL_law_739 ?_
      refine n_if_eq (tgt := 745) hx hb dL_law_740 (by decide) (by decide) (fun _ => ?_) (fun c7 => absurd rfl c7)
      exact lv_goto (tgt := 2054) hx hb dL_law_745 (by decide) (hfin ls hl)
    · refine lv_lconst (v := Int32.toInt64 (bi (r_isIn M (xs (6 * n + 1)) (xs (6 * n + 2)) (xs (6 * n + 3))))) hx hb dL_law_734 (by rw [c7]; first | rfl | decide) ?_
      refine lv_goto (tgt := 739) hx hb dL_law_735 (by decide) ?_
      refine lw_lcmp hx hb dL_law_739 ?_
      refine n_if_eq (tgt := 745) hx hb dL_law_740 (by decide) (by decide) (fun _ => ?_) (fun c7 => absurd rfl c7)
      exact lv_goto (tgt := 2054) hx hb dL_law_745 (by decide) (hfin ls hl)
set_option maxHeartbeats 4000000 in
set_option maxRecDepth 100000 in
theorem lc_score {p : Program} {l : Launch} {e : Env} {s : State} {m : MethodId} {args : Array Value} {below : List Frame} {meth : Method} {c : Code} {b L : Nat} {xs : Nat → Int32} {Q : State → Prop} {D : va_G} {cI cO cb cZ cC cJ : ClassId} {eA mi : Nat} {st ad : Nat → Nat} {dO dT : Nat} {vF : Value} {h oa : Nat} (hst : l.stackTraces = false) (C0 : LC p s m args c b L xs D cI cO cb cZ cC cJ eA mi st ad dO dT vF oa) {n : Nat} (hn : 6 * n + 6 ≤ L) (hL : L ≤ 3072) {M : MS} {ws : va_W} {th : Nat} {x : Int64} {H : Heap} {locs : List Loc} (hI : LI D cI cO eA st cZ cC cJ s ad h oa n M ws th x H locs) {cells slots : Nat} (hc1 : cells + 241 ≤ 601024) (hc2 : slots + 12126 ≤ 7293033) (kk : ∀ M ws th x H locs, LI D cI cO eA st cZ cC cJ s ad h oa (n + 1) M ws th x H locs → ∀ ls, lv_has ls 7 [(0, .ref b), (1, .ref h), (2, .ref (ad 0)), (3, .ref oa), (4, .int (nI (6 * n)))] → W p l e room_1 s m args below meth c H locs (cells + 241) (slots + 12126) Q (F0 m 2054 ls [])) : ∀ ls, lv_has ls 7 [(0, .ref b), (1, .ref h), (2, .ref (ad 0)), (3, .ref oa), (4, .int (nI (6 * n)))] → W p l e room_1 s m args below meth c H locs cells slots Q (F0 m 748 ls []) := by
  obtain ⟨hx, hb, hml, hown, hts, hX, hbl, hK, hKm, hKJ, hG, hGT, hN, hsI, hdis, hmn, hon, hnm⟩ := C0
  obtain ⟨hc, hM, hLB, h15, hP, hPm, ho, hS⟩ := hI
  have hbA : ¬ (fun q : Nat => s.heap.size ≤ q) b := Nat.not_le.mpr hbl
  have hno : ¬ lA s.heap.size ad oa oa := fun q => q.2.2 rfl
  have hI2 := LBN.rf (M := M)
  intro ls hl
  refine lv_aload_n hx hb dL_law_748 rfl (lv_at hl 1 rfl) ?_
  refine lv_aload_n hx hb dL_law_749 rfl (lv_at hl 0 rfl) ?_
  refine lv_iload hx hb dL_law_750 (lv_at hl 4 rfl) ?_
  refine lv_iconst (v := nI 1) hx hb dL_law_752 (by decide) ?_
  refine n_iadd hx hb dL_law_753 (z := 6 * n + 1) rfl ?_
  refine va_sld hx hb hX hbl hbA hS (vp_in_nI (by omega) (by omega)) dL_law_754 ?_
  rw [nI_clamp (show 6 * n + 1 < 2 ^ 31 by omega)]
  refine lv_aload_n hx hb dL_law_755 rfl (lv_at hl 0 rfl) ?_
  refine lv_iload hx hb dL_law_756 (lv_at hl 4 rfl) ?_
  refine lv_iconst (v := nI 2) hx hb dL_law_758 (by decide) ?_
  refine n_iadd hx hb dL_law_759 (z := 6 * n + 2) rfl ?_
  refine va_sld hx hb hX hbl hbA hS (vp_in_nI (by omega) (by omega)) dL_law_760 ?_
  rw [nI_clamp (show 6 * n + 2 < 2 ^ 31 by omega)]
  refine lv_aload_n hx hb dL_law_761 rfl (lv_at hl 0 rfl) ?_
  refine lv_iload hx hb dL_law_762 (lv_at hl 4 rfl) ?_
  refine lv_iconst (v := nI 3) hx hb dL_law_764 (by decide) ?_
  refine n_iadd hx hb dL_law_765 (z := 6 * n + 3) rfl ?_
  refine va_sld hx hb hX hbl hbA hS (vp_in_nI (by omega) (by omega)) dL_law_766 ?_
  rw [nI_clamp (show 6 * n + 3 < 2 ^ 31 by omega)]
  refine lv_aload_n hx hb dL_law_767 rfl (lv_at hl 3 rfl) ?_
  refine va_calli (vx_runSW (As := [.ref h, .int (xs (6 * n + 1)), .int (xs (6 * n + 2)), .int (xs (6 * n + 3)), .ref oa]) (rest := []) ⟨hx, hb, hml, hown, hts⟩ (cL9_score l hst D cI cO cb eA mi st dO dT vF ws hc hM hsI cJ oa x hno (xs (6 * n + 1)) (xs (6 * n + 2)) (xs (6 * n + 3))) (vx_cwSW 5 hts gL_law_L_score rfl rfl rfl kd_L_score ⟨Nat.le_of_ble_eq_true rfl, Nat.le_of_ble_eq_true rfl⟩) ⟨lB_blind, lB_pre hK hKJ hG hGT hN (fun q h => h.1) hS (fresh_lA hPm ho hS) hP ho _⟩ rfl rfl hl.1 rfl (lv_room (Nat.le_of_ble_eq_true rfl)) dL_law_768 ⟨by show cells + 3 ≤ 601024; omega, by show slots + 18 ≤ 7293033; omega⟩) hS (fun q _ h => h.elim (fun h => h.1) (fun h => by rw [h]; exact hon)) (fun q h => h.elim (fun h => h.1) (fun h => by rw [h]; exact hon)) (fun r u U8 H1 locs1 ht hvm hu hB hz1 hk1 hS1 => ?_)
  obtain ⟨hri, hk3, hout, hc3⟩ := hu
  subst hri
  rw [ht] at hB
  obtain ⟨hB1, ho1⟩ := hB
  have hPm1 := mP_keep hPm hk1 hnm
  clear hS hP hPm ho
  have hS := hS1
  refine lv_istore (lv' := [(5, .int (nI (k_ask M (xs (6 * n + 1)) (xs (6 * n + 2)) (xs (6 * n + 3))))), (0, .ref b), (1, .ref h), (2, .ref (ad 0)), (3, .ref oa), (4, .int (nI (6 * n)))]) hx hb dL_law_771 hl (by decide) rfl (fun ls hl => ?_)
  refine lv_aload_n hx hb dL_law_773 rfl (lv_at hl 3 rfl) ?_
  refine lv_aload_n hx hb dL_law_774 rfl (lv_at hl 1 rfl) ?_
  refine lv_iload hx hb dL_law_775 (lv_at hl 5 rfl) ?_
  refine lv_iconst (v := nI 1) hx hb dL_law_777 (by decide) ?_
  refine n_iadd hx hb dL_law_778 (z := 6 * n + 1) rfl ?_
  refine va_sld hx hb hX hbl hbA hS (vp_in_nI (by omega) (by omega)) dL_law_779 ?_
  rw [nI_clamp (show 6 * n + 1 < 2 ^ 31 by omega)]
  refine lv_aload_n hx hb dL_law_780 rfl (lv_at hl 1 rfl) ?_
  refine lv_iload hx hb dL_law_781 (lv_at hl 5 rfl) ?_
  refine lv_iconst (v := nI 2) hx hb dL_law_783 (by decide) ?_
  refine n_iadd hx hb dL_law_784 (z := 6 * n + 2) rfl ?_
  refine va_sld hx hb hX hbl hbA hS (vp_in_nI (by omega) (by omega)) dL_law_785 ?_
  rw [nI_clamp (show 6 * n + 2 < 2 ^ 31 by omega)]
  refine lv_aload_n hx hb dL_law_786 rfl (lv_at hl 1 rfl) ?_
  refine lv_iload hx hb dL_law_787 (lv_at hl 5 rfl) ?_
  refine lv_iconst (v := nI 3) hx hb dL_law_789 (by decide) ?_
  refine n_iadd hx hb dL_law_790 (z := 6 * n + 3) rfl ?_
  refine va_sld hx hb hX hbl hbA hS (vp_in_nI (by omega) (by omega)) dL_law_791 ?_
  rw [nI_clamp (show 6 * n + 3 < 2 ^ 31 by omega)]
  refine va_calli (va_runV (As := [.int (xs (6 * n + 1)), .int (xs (6 * n + 2)), .int (xs (6 * n + 3))]) (rest := []) ⟨hx, hb, hml, hown, hts⟩ (c9_score l D ad cI cZ cC th M hM hdis (xs (6 * n + 1)) (xs (6 * n + 2)) (xs (6 * n + 3))) (cwV 3 hts gL_law_X9_score rfl rfl rfl kd_X9_score ⟨Nat.le_of_ble_eq_true rfl, Nat.le_of_ble_eq_true rfl⟩) ⟨mB_blind, m_recv hKm hPm1, m_pre hKm hPm1 _⟩ rfl rfl hl.1 rfl (lv_room (Nat.le_of_ble_eq_true rfl)) dL_law_792 ⟨by show cells + 3 + 0 ≤ 601024; omega, by show slots + 18 + 0 ≤ 7293033; omega⟩) hS (fun q _ h => hmn q h) (fun q h => hmn q h) (fun r2 u2 U9 H2 locs2 ht2 hvm2 hu2 hB2 hz2 hk2 hS2 => ?_)
  subst hu2
  replace hB2 : va_P D vwCl (mws ad cI cZ cC (k_ask M (xs (6 * n + 1)) (xs (6 * n + 2)) (xs (6 * n + 3))) (M)) U9.heap := hB2
  rw [ht2] at hB2
  have hP2 := cP_keep hB1 hc3.dis hk2
  have ho2 := ho1.kept (hk2 oa ho1.lt hnm)
  refine lv_istore (lv' := [(6, .int (r_score M (xs (6 * n + 1)) (xs (6 * n + 2)) (xs (6 * n + 3)))), (5, .int (nI (k_ask M (xs (6 * n + 1)) (xs (6 * n + 2)) (xs (6 * n + 3))))), (0, .ref b), (1, .ref h), (2, .ref (ad 0)), (3, .ref oa), (4, .int (nI (6 * n)))]) hx hb dL_law_795 hl (by decide) rfl (fun ls hl => ?_)
  have hM2 := hM
  refine lv_aload_n hx hb dL_law_797 rfl (lv_at hl 4 rfl) ?_
  refine vp_callSi (W.runV (As := []) (rest := []) ⟨hx, hb, hml, hown, hts⟩ (c9_thrown l D ad cI cZ cC (k_ask M (xs (6 * n + 1)) (xs (6 * n + 2)) (xs (6 * n + 3))) (M) hM2) (cwV 0 hts gL_law_X9_thrown rfl rfl rfl kd_X9_thrown ⟨Nat.le_of_ble_eq_true rfl, Nat.le_of_ble_eq_true rfl⟩) ⟨mB_blind, m_recv hKm hB2, m_pre hKm hB2 _⟩ rfl rfl hl.1 rfl (lv_room (Nat.le_of_ble_eq_true rfl)) dL_law_798 ⟨by show cells + 3 + 0 + 0 ≤ 601024; omega, by show slots + 18 + 0 + 0 ≤ 7293033; omega⟩) (fun r3 hr3 => ?_)
  subst hr3
  refine lv_iload hx hb dL_law_801 (lv_at hl 1 rfl) ?_
  refine lv_icmp_eq (tgt := 808) hx hb dL_law_803 (by decide) (fun c9 => ?_) (fun c9 => absurd rfl c9)
  have hfin : ∀ ls, lv_has ls 7 [(6, .int (r_score M (xs (6 * n + 1)) (xs (6 * n + 2)) (xs (6 * n + 3)))), (5, .int (nI (k_ask M (xs (6 * n + 1)) (xs (6 * n + 2)) (xs (6 * n + 3))))), (0, .ref b), (1, .ref h), (2, .ref (ad 0)), (3, .ref oa), (4, .int (nI (6 * n)))] → W p l e room_1 s m args below meth c H2 locs2 (cells + 3 + 0) (slots + 18 + 0) Q (F0 m 2054 ls []) := fun ls hl => by
    refine W.widen (k := cells + 241) (n := slots + 12126) (by omega) (by omega) ?_
    exact kk _ _ _ _ _ _ ⟨hc3, hM2, hI2.1 hLB, by have := hI2.2; omega, hP2, hB2, ho2, hS2⟩ ls (lv_sub hl [2, 3, 4, 5, 6] rfl)
  refine lv_iload hx hb dL_law_808 (lv_at hl 1 rfl) ?_
  refine n_if_ne (tgt := 825) hx hb dL_law_810 (by decide) (by omega) (fun c8 => ?_) (fun c8 => ?_)
  · refine lv_goto (tgt := 2054) hx hb dL_law_825 (by decide) (hfin ls hl)
  · have ho3 := hout c8
    rw [ho3] at ho2
    refine lv_aload_n hx hb dL_law_813 rfl (lv_at hl 5 rfl) ?_
    refine lv_iconst (v := nI 0) hx hb dL_law_814 (by decide) ?_
    refine va_lald hx hb hKJ (va_P_one ho2) 0 0 rfl rfl (vp_in_nI (by decide) (by decide)) dL_law_815 ?_
    refine lv_iload hx hb dL_law_816 (lv_at hl 0 rfl) ?_
    refine lv_i2l (v := Int32.toInt64 (r_score M (xs (6 * n + 1)) (xs (6 * n + 2)) (xs (6 * n + 3)))) hx hb dL_law_818 rfl ?_
    refine lw_lcmp hx hb dL_law_819 ?_
    refine n_if_eq (tgt := 825) hx hb dL_law_820 (by decide) (by decide) (fun _ => ?_) (fun c7 => absurd rfl c7)
    exact lv_goto (tgt := 2054) hx hb dL_law_825 (by decide) (hfin ls hl)
set_option maxHeartbeats 4000000 in
set_option maxRecDepth 100000 in
theorem lc_ranked {p : Program} {l : Launch} {e : Env} {s : State} {m : MethodId} {args : Array Value} {below : List Frame} {meth : Method} {c : Code} {b L : Nat} {xs : Nat → Int32} {Q : State → Prop} {D : va_G} {cI cO cb cZ cC cJ : ClassId} {eA mi : Nat} {st ad : Nat → Nat} {dO dT : Nat} {vF : Value} {h oa : Nat} (hst : l.stackTraces = false) (C0 : LC p s m args c b L xs D cI cO cb cZ cC cJ eA mi st ad dO dT vF oa) {n : Nat} (hn : 6 * n + 6 ≤ L) (hL : L ≤ 3072) {M : MS} {ws : va_W} {th : Nat} {x : Int64} {H : Heap} {locs : List Loc} (hI : LI D cI cO eA st cZ cC cJ s ad h oa n M ws th x H locs) {cells slots : Nat} (hc1 : cells + 241 ≤ 601024) (hc2 : slots + 12126 ≤ 7293033) (kk : ∀ M ws th x H locs, LI D cI cO eA st cZ cC cJ s ad h oa (n + 1) M ws th x H locs → ∀ ls, lv_has ls 7 [(0, .ref b), (1, .ref h), (2, .ref (ad 0)), (3, .ref oa), (4, .int (nI (6 * n)))] → W p l e room_1 s m args below meth c H locs (cells + 241) (slots + 12126) Q (F0 m 2054 ls [])) : ∀ ls, lv_has ls 7 [(0, .ref b), (1, .ref h), (2, .ref (ad 0)), (3, .ref oa), (4, .int (nI (6 * n)))] → W p l e room_1 s m args below meth c H locs cells slots Q (F0 m 828 ls []) := by
  obtain ⟨hx, hb, hml, hown, hts, hX, hbl, hK, hKm, hKJ, hG, hGT, hN, hsI, hdis, hmn, hon, hnm⟩ := C0
  obtain ⟨hc, hM, hLB, h15, hP, hPm, ho, hS⟩ := hI
  have hbA : ¬ (fun q : Nat => s.heap.size ≤ q) b := Nat.not_le.mpr hbl
  have hno : ¬ lA s.heap.size ad oa oa := fun q => q.2.2 rfl
  have hI2 := LBN.rf (M := M)
  intro ls hl
  refine lv_aload_n hx hb dL_law_828 rfl (lv_at hl 1 rfl) ?_
  refine lv_aload_n hx hb dL_law_829 rfl (lv_at hl 0 rfl) ?_
  refine lv_iload hx hb dL_law_830 (lv_at hl 4 rfl) ?_
  refine lv_iconst (v := nI 1) hx hb dL_law_832 (by decide) ?_
  refine n_iadd hx hb dL_law_833 (z := 6 * n + 1) rfl ?_
  refine va_sld hx hb hX hbl hbA hS (vp_in_nI (by omega) (by omega)) dL_law_834 ?_
  rw [nI_clamp (show 6 * n + 1 < 2 ^ 31 by omega)]
  refine lv_aload_n hx hb dL_law_835 rfl (lv_at hl 0 rfl) ?_
  refine lv_iload hx hb dL_law_836 (lv_at hl 4 rfl) ?_
  refine lv_iconst (v := nI 2) hx hb dL_law_838 (by decide) ?_
  refine n_iadd hx hb dL_law_839 (z := 6 * n + 2) rfl ?_
  refine va_sld hx hb hX hbl hbA hS (vp_in_nI (by omega) (by omega)) dL_law_840 ?_
  rw [nI_clamp (show 6 * n + 2 < 2 ^ 31 by omega)]
  refine lv_aload_n hx hb dL_law_841 rfl (lv_at hl 0 rfl) ?_
  refine lv_iload hx hb dL_law_842 (lv_at hl 4 rfl) ?_
  refine lv_iconst (v := nI 3) hx hb dL_law_844 (by decide) ?_
  refine n_iadd hx hb dL_law_845 (z := 6 * n + 3) rfl ?_
  refine va_sld hx hb hX hbl hbA hS (vp_in_nI (by omega) (by omega)) dL_law_846 ?_
  rw [nI_clamp (show 6 * n + 3 < 2 ^ 31 by omega)]
  refine lv_aload_n hx hb dL_law_847 rfl (lv_at hl 3 rfl) ?_
  refine va_calli (vx_runSW (As := [.ref h, .int (xs (6 * n + 1)), .int (xs (6 * n + 2)), .int (xs (6 * n + 3)), .ref oa]) (rest := []) ⟨hx, hb, hml, hown, hts⟩ (cL9_ranked l hst D cI cO cb eA mi st dO dT vF ws hc hM hsI cJ oa x hno (xs (6 * n + 1)) (xs (6 * n + 2)) (xs (6 * n + 3))) (vx_cwSW 5 hts gL_law_L_ranked rfl rfl rfl kd_L_ranked ⟨Nat.le_of_ble_eq_true rfl, Nat.le_of_ble_eq_true rfl⟩) ⟨lB_blind, lB_pre hK hKJ hG hGT hN (fun q h => h.1) hS (fresh_lA hPm ho hS) hP ho _⟩ rfl rfl hl.1 rfl (lv_room (Nat.le_of_ble_eq_true rfl)) dL_law_848 ⟨by show cells + 3 ≤ 601024; omega, by show slots + 18 ≤ 7293033; omega⟩) hS (fun q _ h => h.elim (fun h => h.1) (fun h => by rw [h]; exact hon)) (fun q h => h.elim (fun h => h.1) (fun h => by rw [h]; exact hon)) (fun r u U8 H1 locs1 ht hvm hu hB hz1 hk1 hS1 => ?_)
  obtain ⟨hri, hk3, hout, hc3⟩ := hu
  subst hri
  rw [ht] at hB
  obtain ⟨hB1, ho1⟩ := hB
  have hPm1 := mP_keep hPm hk1 hnm
  clear hS hP hPm ho
  have hS := hS1
  refine lv_istore (lv' := [(5, .int (nI (k_ranked M (xs (6 * n + 1)) (xs (6 * n + 2)) (xs (6 * n + 3))))), (0, .ref b), (1, .ref h), (2, .ref (ad 0)), (3, .ref oa), (4, .int (nI (6 * n)))]) hx hb dL_law_851 hl (by decide) rfl (fun ls hl => ?_)
  refine lv_aload_n hx hb dL_law_853 rfl (lv_at hl 3 rfl) ?_
  refine lv_aload_n hx hb dL_law_854 rfl (lv_at hl 1 rfl) ?_
  refine lv_iload hx hb dL_law_855 (lv_at hl 5 rfl) ?_
  refine lv_iconst (v := nI 1) hx hb dL_law_857 (by decide) ?_
  refine n_iadd hx hb dL_law_858 (z := 6 * n + 1) rfl ?_
  refine va_sld hx hb hX hbl hbA hS (vp_in_nI (by omega) (by omega)) dL_law_859 ?_
  rw [nI_clamp (show 6 * n + 1 < 2 ^ 31 by omega)]
  refine lv_aload_n hx hb dL_law_860 rfl (lv_at hl 1 rfl) ?_
  refine lv_iload hx hb dL_law_861 (lv_at hl 5 rfl) ?_
  refine lv_iconst (v := nI 2) hx hb dL_law_863 (by decide) ?_
  refine n_iadd hx hb dL_law_864 (z := 6 * n + 2) rfl ?_
  refine va_sld hx hb hX hbl hbA hS (vp_in_nI (by omega) (by omega)) dL_law_865 ?_
  rw [nI_clamp (show 6 * n + 2 < 2 ^ 31 by omega)]
  refine lv_aload_n hx hb dL_law_866 rfl (lv_at hl 1 rfl) ?_
  refine lv_iload hx hb dL_law_867 (lv_at hl 5 rfl) ?_
  refine lv_iconst (v := nI 3) hx hb dL_law_869 (by decide) ?_
  refine n_iadd hx hb dL_law_870 (z := 6 * n + 3) rfl ?_
  refine va_sld hx hb hX hbl hbA hS (vp_in_nI (by omega) (by omega)) dL_law_871 ?_
  rw [nI_clamp (show 6 * n + 3 < 2 ^ 31 by omega)]
  refine va_calli (va_runV (As := [.int (xs (6 * n + 1)), .int (xs (6 * n + 2)), .int (xs (6 * n + 3))]) (rest := []) ⟨hx, hb, hml, hown, hts⟩ (c9_ranked l D ad cI cZ cC th M hM hdis (xs (6 * n + 1)) (xs (6 * n + 2)) (xs (6 * n + 3))) (cwV 3 hts gL_law_X9_ranked rfl rfl rfl kd_X9_ranked ⟨Nat.le_of_ble_eq_true rfl, Nat.le_of_ble_eq_true rfl⟩) ⟨mB_blind, m_recv hKm hPm1, m_pre hKm hPm1 _⟩ rfl rfl hl.1 rfl (lv_room (Nat.le_of_ble_eq_true rfl)) dL_law_872 ⟨by show cells + 3 + 0 ≤ 601024; omega, by show slots + 18 + 0 ≤ 7293033; omega⟩) hS (fun q _ h => hmn q h) (fun q h => hmn q h) (fun r2 u2 U9 H2 locs2 ht2 hvm2 hu2 hB2 hz2 hk2 hS2 => ?_)
  subst hu2
  replace hB2 : va_P D vwCl (mws ad cI cZ cC (k_ranked M (xs (6 * n + 1)) (xs (6 * n + 2)) (xs (6 * n + 3))) (M)) U9.heap := hB2
  rw [ht2] at hB2
  have hP2 := cP_keep hB1 hc3.dis hk2
  have ho2 := ho1.kept (hk2 oa ho1.lt hnm)
  refine lv_istore (lv' := [(6, .int (r_ranked M (xs (6 * n + 1)) (xs (6 * n + 2)) (xs (6 * n + 3)))), (5, .int (nI (k_ranked M (xs (6 * n + 1)) (xs (6 * n + 2)) (xs (6 * n + 3))))), (0, .ref b), (1, .ref h), (2, .ref (ad 0)), (3, .ref oa), (4, .int (nI (6 * n)))]) hx hb dL_law_875 hl (by decide) rfl (fun ls hl => ?_)
  have hM2 := hM
  refine lv_aload_n hx hb dL_law_877 rfl (lv_at hl 4 rfl) ?_
  refine vp_callSi (W.runV (As := []) (rest := []) ⟨hx, hb, hml, hown, hts⟩ (c9_thrown l D ad cI cZ cC (k_ranked M (xs (6 * n + 1)) (xs (6 * n + 2)) (xs (6 * n + 3))) (M) hM2) (cwV 0 hts gL_law_X9_thrown rfl rfl rfl kd_X9_thrown ⟨Nat.le_of_ble_eq_true rfl, Nat.le_of_ble_eq_true rfl⟩) ⟨mB_blind, m_recv hKm hB2, m_pre hKm hB2 _⟩ rfl rfl hl.1 rfl (lv_room (Nat.le_of_ble_eq_true rfl)) dL_law_878 ⟨by show cells + 3 + 0 + 0 ≤ 601024; omega, by show slots + 18 + 0 + 0 ≤ 7293033; omega⟩) (fun r3 hr3 => ?_)
  subst hr3
  refine lv_iload hx hb dL_law_881 (lv_at hl 1 rfl) ?_
  refine lv_icmp_eq (tgt := 888) hx hb dL_law_883 (by decide) (fun c9 => ?_) (fun c9 => absurd rfl c9)
  have hfin : ∀ ls, lv_has ls 7 [(6, .int (r_ranked M (xs (6 * n + 1)) (xs (6 * n + 2)) (xs (6 * n + 3)))), (5, .int (nI (k_ranked M (xs (6 * n + 1)) (xs (6 * n + 2)) (xs (6 * n + 3))))), (0, .ref b), (1, .ref h), (2, .ref (ad 0)), (3, .ref oa), (4, .int (nI (6 * n)))] → W p l e room_1 s m args below meth c H2 locs2 (cells + 3 + 0) (slots + 18 + 0) Q (F0 m 2054 ls []) := fun ls hl => by
    refine W.widen (k := cells + 241) (n := slots + 12126) (by omega) (by omega) ?_
    exact kk _ _ _ _ _ _ ⟨hc3, hM2, hI2.1 hLB, by have := hI2.2; omega, hP2, hB2, ho2, hS2⟩ ls (lv_sub hl [2, 3, 4, 5, 6] rfl)
  refine lv_iload hx hb dL_law_888 (lv_at hl 1 rfl) ?_
  refine n_if_ne (tgt := 905) hx hb dL_law_890 (by decide) (by omega) (fun c8 => ?_) (fun c8 => ?_)
  · refine lv_goto (tgt := 2054) hx hb dL_law_905 (by decide) (hfin ls hl)
  · have ho3 := hout c8
    rw [ho3] at ho2
    refine lv_aload_n hx hb dL_law_893 rfl (lv_at hl 5 rfl) ?_
    refine lv_iconst (v := nI 0) hx hb dL_law_894 (by decide) ?_
    refine va_lald hx hb hKJ (va_P_one ho2) 0 0 rfl rfl (vp_in_nI (by decide) (by decide)) dL_law_895 ?_
    refine lv_iload hx hb dL_law_896 (lv_at hl 0 rfl) ?_
    refine lv_i2l (v := Int32.toInt64 (r_ranked M (xs (6 * n + 1)) (xs (6 * n + 2)) (xs (6 * n + 3)))) hx hb dL_law_898 rfl ?_
    refine lw_lcmp hx hb dL_law_899 ?_
    refine n_if_eq (tgt := 905) hx hb dL_law_900 (by decide) (by decide) (fun _ => ?_) (fun c7 => absurd rfl c7)
    exact lv_goto (tgt := 2054) hx hb dL_law_905 (by decide) (hfin ls hl)
set_option maxHeartbeats 4000000 in
set_option maxRecDepth 100000 in
theorem lc_award {p : Program} {l : Launch} {e : Env} {s : State} {m : MethodId} {args : Array Value} {below : List Frame} {meth : Method} {c : Code} {b L : Nat} {xs : Nat → Int32} {Q : State → Prop} {D : va_G} {cI cO cb cZ cC cJ : ClassId} {eA mi : Nat} {st ad : Nat → Nat} {dO dT : Nat} {vF : Value} {h oa : Nat} (hst : l.stackTraces = false) (C0 : LC p s m args c b L xs D cI cO cb cZ cC cJ eA mi st ad dO dT vF oa) {n : Nat} (hn : 6 * n + 6 ≤ L) (hL : L ≤ 3072) {M : MS} {ws : va_W} {th : Nat} {x : Int64} {H : Heap} {locs : List Loc} (hI : LI D cI cO eA st cZ cC cJ s ad h oa n M ws th x H locs) {cells slots : Nat} (hc1 : cells + 241 ≤ 601024) (hc2 : slots + 12126 ≤ 7293033) (kk : ∀ M ws th x H locs, LI D cI cO eA st cZ cC cJ s ad h oa (n + 1) M ws th x H locs → ∀ ls, lv_has ls 7 [(0, .ref b), (1, .ref h), (2, .ref (ad 0)), (3, .ref oa), (4, .int (nI (6 * n)))] → W p l e room_1 s m args below meth c H locs (cells + 241) (slots + 12126) Q (F0 m 2054 ls [])) : ∀ ls, lv_has ls 7 [(0, .ref b), (1, .ref h), (2, .ref (ad 0)), (3, .ref oa), (4, .int (nI (6 * n)))] → W p l e room_1 s m args below meth c H locs cells slots Q (F0 m 908 ls []) := by
  obtain ⟨hx, hb, hml, hown, hts, hX, hbl, hK, hKm, hKJ, hG, hGT, hN, hsI, hdis, hmn, hon, hnm⟩ := C0
  obtain ⟨hc, hM, hLB, h15, hP, hPm, ho, hS⟩ := hI
  have hbA : ¬ (fun q : Nat => s.heap.size ≤ q) b := Nat.not_le.mpr hbl
  have hno : ¬ lA s.heap.size ad oa oa := fun q => q.2.2 rfl
  have hI2 := LB_award (M := M) (xs (6 * n + 1)) (xs (6 * n + 2))
  intro ls hl
  refine lv_aload_n hx hb dL_law_908 rfl (lv_at hl 1 rfl) ?_
  refine lv_aload_n hx hb dL_law_909 rfl (lv_at hl 0 rfl) ?_
  refine lv_iload hx hb dL_law_910 (lv_at hl 4 rfl) ?_
  refine lv_iconst (v := nI 1) hx hb dL_law_912 (by decide) ?_
  refine n_iadd hx hb dL_law_913 (z := 6 * n + 1) rfl ?_
  refine va_sld hx hb hX hbl hbA hS (vp_in_nI (by omega) (by omega)) dL_law_914 ?_
  rw [nI_clamp (show 6 * n + 1 < 2 ^ 31 by omega)]
  refine lv_aload_n hx hb dL_law_915 rfl (lv_at hl 0 rfl) ?_
  refine lv_iload hx hb dL_law_916 (lv_at hl 4 rfl) ?_
  refine lv_iconst (v := nI 2) hx hb dL_law_918 (by decide) ?_
  refine n_iadd hx hb dL_law_919 (z := 6 * n + 2) rfl ?_
  refine va_sld hx hb hX hbl hbA hS (vp_in_nI (by omega) (by omega)) dL_law_920 ?_
  rw [nI_clamp (show 6 * n + 2 < 2 ^ 31 by omega)]
  refine lv_aload_n hx hb dL_law_921 rfl (lv_at hl 3 rfl) ?_
  refine va_calli (vx_runSW (As := [.ref h, .int (xs (6 * n + 1)), .int (xs (6 * n + 2)), .ref oa]) (rest := []) ⟨hx, hb, hml, hown, hts⟩ (cL9_award l hst D cI cO cb eA mi st dO dT vF ws hc hM hsI cJ oa x hno (xs (6 * n + 1)) (xs (6 * n + 2))) (vx_cwSW 4 hts gL_law_L_award rfl rfl rfl kd_L_award ⟨Nat.le_of_ble_eq_true rfl, Nat.le_of_ble_eq_true rfl⟩) ⟨lB_blind, lB_pre hK hKJ hG hGT hN (fun q h => h.1) hS (fresh_lA hPm ho hS) hP ho _⟩ rfl rfl hl.1 rfl (lv_room (Nat.le_of_ble_eq_true rfl)) dL_law_922 ⟨by show cells + 4 ≤ 601024; omega, by show slots + 115 ≤ 7293033; omega⟩) hS (fun q _ h => h.elim (fun h => h.1) (fun h => by rw [h]; exact hon)) (fun q h => h.elim (fun h => h.1) (fun h => by rw [h]; exact hon)) (fun r u U8 H1 locs1 ht hvm hu hB hz1 hk1 hS1 => ?_)
  obtain ⟨hri, hk3, hout, hc3⟩ := hu
  subst hri
  rw [ht] at hB
  obtain ⟨hB1, ho1⟩ := hB
  have hPm1 := mP_keep hPm hk1 hnm
  clear hS hP hPm ho
  have hS := hS1
  refine lv_istore (lv' := [(5, .int (nI (k_award M (xs (6 * n + 1)) (xs (6 * n + 2))))), (0, .ref b), (1, .ref h), (2, .ref (ad 0)), (3, .ref oa), (4, .int (nI (6 * n)))]) hx hb dL_law_925 hl (by decide) rfl (fun ls hl => ?_)
  refine lv_aload_n hx hb dL_law_927 rfl (lv_at hl 3 rfl) ?_
  refine lv_aload_n hx hb dL_law_928 rfl (lv_at hl 1 rfl) ?_
  refine lv_iload hx hb dL_law_929 (lv_at hl 5 rfl) ?_
  refine lv_iconst (v := nI 1) hx hb dL_law_931 (by decide) ?_
  refine n_iadd hx hb dL_law_932 (z := 6 * n + 1) rfl ?_
  refine va_sld hx hb hX hbl hbA hS (vp_in_nI (by omega) (by omega)) dL_law_933 ?_
  rw [nI_clamp (show 6 * n + 1 < 2 ^ 31 by omega)]
  refine lv_aload_n hx hb dL_law_934 rfl (lv_at hl 1 rfl) ?_
  refine lv_iload hx hb dL_law_935 (lv_at hl 5 rfl) ?_
  refine lv_iconst (v := nI 2) hx hb dL_law_937 (by decide) ?_
  refine n_iadd hx hb dL_law_938 (z := 6 * n + 2) rfl ?_
  refine va_sld hx hb hX hbl hbA hS (vp_in_nI (by omega) (by omega)) dL_law_939 ?_
  rw [nI_clamp (show 6 * n + 2 < 2 ^ 31 by omega)]
  refine va_calli (va_runV (As := [.int (xs (6 * n + 1)), .int (xs (6 * n + 2))]) (rest := []) ⟨hx, hb, hml, hown, hts⟩ (c9_award l D ad cI cZ cC th M hM hdis (xs (6 * n + 1)) (xs (6 * n + 2))) (cwV 2 hts gL_law_X9_award rfl rfl rfl kd_X9_award ⟨Nat.le_of_ble_eq_true rfl, Nat.le_of_ble_eq_true rfl⟩) ⟨mB_blind, m_recv hKm hPm1, m_pre hKm hPm1 _⟩ rfl rfl hl.1 rfl (lv_room (Nat.le_of_ble_eq_true rfl)) dL_law_940 ⟨by show cells + 4 + 0 ≤ 601024; omega, by show slots + 115 + 0 ≤ 7293033; omega⟩) hS (fun q _ h => hmn q h) (fun q h => hmn q h) (fun r2 u2 U9 H2 locs2 ht2 hvm2 hu2 hB2 hz2 hk2 hS2 => ?_)
  subst hu2
  replace hB2 : va_P D vwCl (mws ad cI cZ cC (k_award M (xs (6 * n + 1)) (xs (6 * n + 2))) (g_award M (xs (6 * n + 1)) (xs (6 * n + 2)))) U9.heap := hB2
  rw [ht2] at hB2
  have hP2 := cP_keep hB1 hc3.dis hk2
  have ho2 := ho1.kept (hk2 oa ho1.lt hnm)
  refine lv_istore (lv' := [(6, .int (r_award M (xs (6 * n + 1)) (xs (6 * n + 2)))), (5, .int (nI (k_award M (xs (6 * n + 1)) (xs (6 * n + 2))))), (0, .ref b), (1, .ref h), (2, .ref (ad 0)), (3, .ref oa), (4, .int (nI (6 * n)))]) hx hb dL_law_943 hl (by decide) rfl (fun ls hl => ?_)
  have hM2 := (MI_award hM (xs (6 * n + 1)) (xs (6 * n + 2)))
  refine lv_aload_n hx hb dL_law_945 rfl (lv_at hl 4 rfl) ?_
  refine vp_callSi (W.runV (As := []) (rest := []) ⟨hx, hb, hml, hown, hts⟩ (c9_thrown l D ad cI cZ cC (k_award M (xs (6 * n + 1)) (xs (6 * n + 2))) (g_award M (xs (6 * n + 1)) (xs (6 * n + 2))) hM2) (cwV 0 hts gL_law_X9_thrown rfl rfl rfl kd_X9_thrown ⟨Nat.le_of_ble_eq_true rfl, Nat.le_of_ble_eq_true rfl⟩) ⟨mB_blind, m_recv hKm hB2, m_pre hKm hB2 _⟩ rfl rfl hl.1 rfl (lv_room (Nat.le_of_ble_eq_true rfl)) dL_law_946 ⟨by show cells + 4 + 0 + 0 ≤ 601024; omega, by show slots + 115 + 0 + 0 ≤ 7293033; omega⟩) (fun r3 hr3 => ?_)
  subst hr3
  refine lv_iload hx hb dL_law_949 (lv_at hl 1 rfl) ?_
  refine lv_icmp_eq (tgt := 956) hx hb dL_law_951 (by decide) (fun c9 => ?_) (fun c9 => absurd rfl c9)
  have hfin : ∀ ls, lv_has ls 7 [(6, .int (r_award M (xs (6 * n + 1)) (xs (6 * n + 2)))), (5, .int (nI (k_award M (xs (6 * n + 1)) (xs (6 * n + 2))))), (0, .ref b), (1, .ref h), (2, .ref (ad 0)), (3, .ref oa), (4, .int (nI (6 * n)))] → W p l e room_1 s m args below meth c H2 locs2 (cells + 4 + 0) (slots + 115 + 0) Q (F0 m 2054 ls []) := fun ls hl => by
    refine W.widen (k := cells + 241) (n := slots + 12126) (by omega) (by omega) ?_
    exact kk _ _ _ _ _ _ ⟨hc3, hM2, hI2.1 hLB, by have := hI2.2; omega, hP2, hB2, ho2, hS2⟩ ls (lv_sub hl [2, 3, 4, 5, 6] rfl)
  refine lv_iload hx hb dL_law_956 (lv_at hl 1 rfl) ?_
  refine n_if_ne (tgt := 973) hx hb dL_law_958 (by decide) (by omega) (fun c8 => ?_) (fun c8 => ?_)
  · refine lv_goto (tgt := 2054) hx hb dL_law_973 (by decide) (hfin ls hl)
  · have ho3 := hout c8
    rw [ho3] at ho2
    refine lv_aload_n hx hb dL_law_961 rfl (lv_at hl 5 rfl) ?_
    refine lv_iconst (v := nI 0) hx hb dL_law_962 (by decide) ?_
    refine va_lald hx hb hKJ (va_P_one ho2) 0 0 rfl rfl (vp_in_nI (by decide) (by decide)) dL_law_963 ?_
    refine lv_iload hx hb dL_law_964 (lv_at hl 0 rfl) ?_
    refine lv_i2l (v := Int32.toInt64 (r_award M (xs (6 * n + 1)) (xs (6 * n + 2)))) hx hb dL_law_966 rfl ?_
    refine lw_lcmp hx hb dL_law_967 ?_
    refine n_if_eq (tgt := 973) hx hb dL_law_968 (by decide) (by decide) (fun _ => ?_) (fun c7 => absurd rfl c7)
    exact lv_goto (tgt := 2054) hx hb dL_law_973 (by decide) (hfin ls hl)
set_option maxHeartbeats 4000000 in
set_option maxRecDepth 100000 in
theorem lc_awardOf {p : Program} {l : Launch} {e : Env} {s : State} {m : MethodId} {args : Array Value} {below : List Frame} {meth : Method} {c : Code} {b L : Nat} {xs : Nat → Int32} {Q : State → Prop} {D : va_G} {cI cO cb cZ cC cJ : ClassId} {eA mi : Nat} {st ad : Nat → Nat} {dO dT : Nat} {vF : Value} {h oa : Nat} (hst : l.stackTraces = false) (C0 : LC p s m args c b L xs D cI cO cb cZ cC cJ eA mi st ad dO dT vF oa) {n : Nat} (hn : 6 * n + 6 ≤ L) (hL : L ≤ 3072) {M : MS} {ws : va_W} {th : Nat} {x : Int64} {H : Heap} {locs : List Loc} (hI : LI D cI cO eA st cZ cC cJ s ad h oa n M ws th x H locs) {cells slots : Nat} (hc1 : cells + 241 ≤ 601024) (hc2 : slots + 12126 ≤ 7293033) (kk : ∀ M ws th x H locs, LI D cI cO eA st cZ cC cJ s ad h oa (n + 1) M ws th x H locs → ∀ ls, lv_has ls 7 [(0, .ref b), (1, .ref h), (2, .ref (ad 0)), (3, .ref oa), (4, .int (nI (6 * n)))] → W p l e room_1 s m args below meth c H locs (cells + 241) (slots + 12126) Q (F0 m 2054 ls [])) : ∀ ls, lv_has ls 7 [(0, .ref b), (1, .ref h), (2, .ref (ad 0)), (3, .ref oa), (4, .int (nI (6 * n)))] → W p l e room_1 s m args below meth c H locs cells slots Q (F0 m 976 ls []) := by
  obtain ⟨hx, hb, hml, hown, hts, hX, hbl, hK, hKm, hKJ, hG, hGT, hN, hsI, hdis, hmn, hon, hnm⟩ := C0
  obtain ⟨hc, hM, hLB, h15, hP, hPm, ho, hS⟩ := hI
  have hbA : ¬ (fun q : Nat => s.heap.size ≤ q) b := Nat.not_le.mpr hbl
  have hno : ¬ lA s.heap.size ad oa oa := fun q => q.2.2 rfl
  have hI2 := LBN.rf (M := M)
  intro ls hl
  refine lv_aload_n hx hb dL_law_976 rfl (lv_at hl 1 rfl) ?_
  refine lv_aload_n hx hb dL_law_977 rfl (lv_at hl 0 rfl) ?_
  refine lv_iload hx hb dL_law_978 (lv_at hl 4 rfl) ?_
  refine lv_iconst (v := nI 1) hx hb dL_law_980 (by decide) ?_
  refine n_iadd hx hb dL_law_981 (z := 6 * n + 1) rfl ?_
  refine va_sld hx hb hX hbl hbA hS (vp_in_nI (by omega) (by omega)) dL_law_982 ?_
  rw [nI_clamp (show 6 * n + 1 < 2 ^ 31 by omega)]
  refine lv_aload_n hx hb dL_law_983 rfl (lv_at hl 0 rfl) ?_
  refine lv_iload hx hb dL_law_984 (lv_at hl 4 rfl) ?_
  refine lv_iconst (v := nI 2) hx hb dL_law_986 (by decide) ?_
  refine n_iadd hx hb dL_law_987 (z := 6 * n + 2) rfl ?_
  refine va_sld hx hb hX hbl hbA hS (vp_in_nI (by omega) (by omega)) dL_law_988 ?_
  rw [nI_clamp (show 6 * n + 2 < 2 ^ 31 by omega)]
  refine lv_aload_n hx hb dL_law_989 rfl (lv_at hl 3 rfl) ?_
  refine va_calli (vx_runSW (As := [.ref h, .int (xs (6 * n + 1)), .int (xs (6 * n + 2)), .ref oa]) (rest := []) ⟨hx, hb, hml, hown, hts⟩ (cL9_awardOf l hst D cI cO cb eA mi st dO dT vF ws hc hM hsI cJ oa x hno (xs (6 * n + 1)) (xs (6 * n + 2))) (vx_cwSW 4 hts gL_law_L_awardOf rfl rfl rfl kd_L_awardOf ⟨Nat.le_of_ble_eq_true rfl, Nat.le_of_ble_eq_true rfl⟩) ⟨lB_blind, lB_pre hK hKJ hG hGT hN (fun q h => h.1) hS (fresh_lA hPm ho hS) hP ho _⟩ rfl rfl hl.1 rfl (lv_room (Nat.le_of_ble_eq_true rfl)) dL_law_990 ⟨by show cells + 2 ≤ 601024; omega, by show slots + 12 ≤ 7293033; omega⟩) hS (fun q _ h => h.elim (fun h => h.1) (fun h => by rw [h]; exact hon)) (fun q h => h.elim (fun h => h.1) (fun h => by rw [h]; exact hon)) (fun r u U8 H1 locs1 ht hvm hu hB hz1 hk1 hS1 => ?_)
  obtain ⟨hri, hk3, hout, hc3⟩ := hu
  subst hri
  rw [ht] at hB
  obtain ⟨hB1, ho1⟩ := hB
  have hPm1 := mP_keep hPm hk1 hnm
  clear hS hP hPm ho
  have hS := hS1
  refine lv_istore (lv' := [(5, .int (nI (k_lot M (xs (6 * n + 1)) (xs (6 * n + 2))))), (0, .ref b), (1, .ref h), (2, .ref (ad 0)), (3, .ref oa), (4, .int (nI (6 * n)))]) hx hb dL_law_993 hl (by decide) rfl (fun ls hl => ?_)
  refine lv_aload_n hx hb dL_law_995 rfl (lv_at hl 3 rfl) ?_
  refine lv_aload_n hx hb dL_law_996 rfl (lv_at hl 1 rfl) ?_
  refine lv_iload hx hb dL_law_997 (lv_at hl 5 rfl) ?_
  refine lv_iconst (v := nI 1) hx hb dL_law_999 (by decide) ?_
  refine n_iadd hx hb dL_law_1000 (z := 6 * n + 1) rfl ?_
  refine va_sld hx hb hX hbl hbA hS (vp_in_nI (by omega) (by omega)) dL_law_1001 ?_
  rw [nI_clamp (show 6 * n + 1 < 2 ^ 31 by omega)]
  refine lv_aload_n hx hb dL_law_1002 rfl (lv_at hl 1 rfl) ?_
  refine lv_iload hx hb dL_law_1003 (lv_at hl 5 rfl) ?_
  refine lv_iconst (v := nI 2) hx hb dL_law_1005 (by decide) ?_
  refine n_iadd hx hb dL_law_1006 (z := 6 * n + 2) rfl ?_
  refine va_sld hx hb hX hbl hbA hS (vp_in_nI (by omega) (by omega)) dL_law_1007 ?_
  rw [nI_clamp (show 6 * n + 2 < 2 ^ 31 by omega)]
  refine va_calli (va_runV (As := [.int (xs (6 * n + 1)), .int (xs (6 * n + 2))]) (rest := []) ⟨hx, hb, hml, hown, hts⟩ (c9_awardOf l D ad cI cZ cC th M hM hdis (xs (6 * n + 1)) (xs (6 * n + 2))) (cwV 2 hts gL_law_X9_awardOf rfl rfl rfl kd_X9_awardOf ⟨Nat.le_of_ble_eq_true rfl, Nat.le_of_ble_eq_true rfl⟩) ⟨mB_blind, m_recv hKm hPm1, m_pre hKm hPm1 _⟩ rfl rfl hl.1 rfl (lv_room (Nat.le_of_ble_eq_true rfl)) dL_law_1008 ⟨by show cells + 2 + 0 ≤ 601024; omega, by show slots + 12 + 0 ≤ 7293033; omega⟩) hS (fun q _ h => hmn q h) (fun q h => hmn q h) (fun r2 u2 U9 H2 locs2 ht2 hvm2 hu2 hB2 hz2 hk2 hS2 => ?_)
  subst hu2
  replace hB2 : va_P D vwCl (mws ad cI cZ cC (k_lot M (xs (6 * n + 1)) (xs (6 * n + 2))) (M)) U9.heap := hB2
  rw [ht2] at hB2
  have hP2 := cP_keep hB1 hc3.dis hk2
  have ho2 := ho1.kept (hk2 oa ho1.lt hnm)
  refine lv_istore (lv' := [(6, .int (r_awardOf M (xs (6 * n + 1)) (xs (6 * n + 2)))), (5, .int (nI (k_lot M (xs (6 * n + 1)) (xs (6 * n + 2))))), (0, .ref b), (1, .ref h), (2, .ref (ad 0)), (3, .ref oa), (4, .int (nI (6 * n)))]) hx hb dL_law_1011 hl (by decide) rfl (fun ls hl => ?_)
  have hM2 := hM
  refine lv_aload_n hx hb dL_law_1013 rfl (lv_at hl 4 rfl) ?_
  refine vp_callSi (W.runV (As := []) (rest := []) ⟨hx, hb, hml, hown, hts⟩ (c9_thrown l D ad cI cZ cC (k_lot M (xs (6 * n + 1)) (xs (6 * n + 2))) (M) hM2) (cwV 0 hts gL_law_X9_thrown rfl rfl rfl kd_X9_thrown ⟨Nat.le_of_ble_eq_true rfl, Nat.le_of_ble_eq_true rfl⟩) ⟨mB_blind, m_recv hKm hB2, m_pre hKm hB2 _⟩ rfl rfl hl.1 rfl (lv_room (Nat.le_of_ble_eq_true rfl)) dL_law_1014 ⟨by show cells + 2 + 0 + 0 ≤ 601024; omega, by show slots + 12 + 0 + 0 ≤ 7293033; omega⟩) (fun r3 hr3 => ?_)
  subst hr3
  refine lv_iload hx hb dL_law_1017 (lv_at hl 1 rfl) ?_
  refine lv_icmp_eq (tgt := 1024) hx hb dL_law_1019 (by decide) (fun c9 => ?_) (fun c9 => absurd rfl c9)
  have hfin : ∀ ls, lv_has ls 7 [(6, .int (r_awardOf M (xs (6 * n + 1)) (xs (6 * n + 2)))), (5, .int (nI (k_lot M (xs (6 * n + 1)) (xs (6 * n + 2))))), (0, .ref b), (1, .ref h), (2, .ref (ad 0)), (3, .ref oa), (4, .int (nI (6 * n)))] → W p l e room_1 s m args below meth c H2 locs2 (cells + 2 + 0) (slots + 12 + 0) Q (F0 m 2054 ls []) := fun ls hl => by
    refine W.widen (k := cells + 241) (n := slots + 12126) (by omega) (by omega) ?_
    exact kk _ _ _ _ _ _ ⟨hc3, hM2, hI2.1 hLB, by have := hI2.2; omega, hP2, hB2, ho2, hS2⟩ ls (lv_sub hl [2, 3, 4, 5, 6] rfl)
  refine lv_iload hx hb dL_law_1024 (lv_at hl 1 rfl) ?_
  refine n_if_ne (tgt := 1041) hx hb dL_law_1026 (by decide) (by omega) (fun c8 => ?_) (fun c8 => ?_)
  · refine lv_goto (tgt := 2054) hx hb dL_law_1041 (by decide) (hfin ls hl)
  · have ho3 := hout c8
    rw [ho3] at ho2
    refine lv_aload_n hx hb dL_law_1029 rfl (lv_at hl 5 rfl) ?_
    refine lv_iconst (v := nI 0) hx hb dL_law_1030 (by decide) ?_
    refine va_lald hx hb hKJ (va_P_one ho2) 0 0 rfl rfl (vp_in_nI (by decide) (by decide)) dL_law_1031 ?_
    refine lv_iload hx hb dL_law_1032 (lv_at hl 0 rfl) ?_
    refine lv_i2l (v := Int32.toInt64 (r_awardOf M (xs (6 * n + 1)) (xs (6 * n + 2)))) hx hb dL_law_1034 rfl ?_
    refine lw_lcmp hx hb dL_law_1035 ?_
    refine n_if_eq (tgt := 1041) hx hb dL_law_1036 (by decide) (by decide) (fun _ => ?_) (fun c7 => absurd rfl c7)
    exact lv_goto (tgt := 2054) hx hb dL_law_1041 (by decide) (hfin ls hl)
