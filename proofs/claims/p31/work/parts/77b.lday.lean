/-! a turn of days -/
set_option maxHeartbeats 8000000 in
set_option maxRecDepth 100000 in
theorem cb_days (l : Launch) (hst : l.stackTraces = false) (D : va_G) (ad : Nat → Nat) (cI cO cb : ClassId) (eA mi : Nat) (st : Nat → Nat) (dO dT : Nat) (vF : Value) {A B : Nat → Prop} (hAB : ∀ q, A q → ¬ B q) (hsI : sInj st) (hdB : aDis B ad) (ws : va_W) {h n15 : Nat} {M T : MS} (hc : cSt cI cO eA st A h M ws) (hM : MI M) (hLB : m_LB M) (h15 : M 15 0 ≤ n15) (hR : LR M T) (hT : LT T) (dd : Nat) (hC : LC T) (hd1 : 1 ≤ dd) (hd40 : dd ≤ 40) : Met l yL_days wsL_days ({ frames := 12, cells := 243, slots := 12138, locals := 306 }) (va_Pc [.ref h, .int (nI dd), .ref (ad 0), .ref (ad 1), .ref (ad 2), .ref (ad 3), .ref (ad 4), .ref (ad 5), .ref (ad 6), .ref (ad 7), .ref (ad 8), .ref (ad 10), .ref (ad 11)] (bB D ad cI cO cb eA mi st dO dT vF A B ws T)) (va_Qi (fun (ri : Int32) (u : va_W × MS × MS) => ri = nI 1 ∧ LQ cI cO eA st A h (n15 + 1) u) (fun u U9 => va_P D vwCl u.1 U9.heap ∧ va_P D vwCl (aws ad cI u.2.2) U9.heap) (fun q => A q ∨ B q)) 243 12138 (fun q => A q ∨ B q) := by
  refine Met.ofW (cc := cL_days) (maxL := 17) (ret := (some .boolean)) (by decide) rfl ?_
  intro p e s m args below meth c s₁ B9 hml hv
  obtain ⟨rfl, hPw, hK, hG, hGT, hA, hN, hPa, hKa⟩ := hv
  have hx := B9.exec
  have hb := B9.bytes
  have hr := B9.returns
  have hts := atoms_spec (ws := wsL_days) B9.pre
  have hown : s.vm.findClass RL = some m.cls := findClass_of_methodNamed B9.named
  have hlocks := B9.notSynchronized
  have hS : va_S (fun q => A q ∨ B q) s.heap s.heap [] := va_S.rf
  have hl := lv_entry ([.ref h, .int (nI dd), .ref (ad 0), .ref (ad 1), .ref (ad 2), .ref (ad 3), .ref (ad 4), .ref (ad 5), .ref (ad 6), .ref (ad 7), .ref (ad 8), .ref (ad 10), .ref (ad 11)]) (n := 17) (Nat.le_of_ble_eq_true rfl)
  rw [lg_entry_eq]
  generalize (lg_sl ([.ref h, .int (nI dd), .ref (ad 0), .ref (ad 1), .ref (ad 2), .ref (ad 3), .ref (ad 4), .ref (ad 5), .ref (ad 6), .ref (ad 7), .ref (ad 8), .ref (ad 10), .ref (ad 11)]) ++ List.replicate (17 - (lg_sl ([.ref h, .int (nI dd), .ref (ad 0), .ref (ad 1), .ref (ad 2), .ref (ad 3), .ref (ad 4), .ref (ad 5), .ref (ad 6), .ref (ad 7), .ref (ad 8), .ref (ad 10), .ref (ad 11)])).length) Slot.unset).toArray = ls at hl ⊢
  have hl : lv_has ls 17 [(0, .ref h), (1, .int (nI dd)), (2, .ref (ad 0)), (3, .ref (ad 1)), (4, .ref (ad 2)), (5, .ref (ad 3)), (6, .ref (ad 4)), (7, .ref (ad 5)), (8, .ref (ad 6)), (9, .ref (ad 7)), (10, .ref (ad 8)), (11, .ref (ad 10)), (12, .ref (ad 11))] := hl
  obtain ⟨g0, g1, g2, g3, g4, g5, g6⟩ := hR.1
  have hC0 := hC
  obtain ⟨C0, C3, C4, C5, C6⟩ := hC
  have hU := hc.uq
  have hM1 : M 1 0 ≤ 2000 := hM 1 0
  refine lv_iconst (v := nI 0) hx hb dL_days_0 (by decide) ?_
  refine lv_istore (lv' := [(13, .int (nI 0)), (0, .ref h), (1, .int (nI dd)), (2, .ref (ad 0)), (3, .ref (ad 1)), (4, .ref (ad 2)), (5, .ref (ad 3)), (6, .ref (ad 4)), (7, .ref (ad 5)), (8, .ref (ad 6)), (9, .ref (ad 7)), (10, .ref (ad 8)), (11, .ref (ad 10)), (12, .ref (ad 11))]) hx hb dL_days_1 hl (by decide) rfl (fun ls hl => ?_)
  refine lv_iconst (v := nI 0) hx hb dL_days_3 (by decide) ?_
  refine lv_istore (lv' := [(14, .int (nI 0)), (13, .int (nI 0)), (0, .ref h), (1, .int (nI dd)), (2, .ref (ad 0)), (3, .ref (ad 1)), (4, .ref (ad 2)), (5, .ref (ad 3)), (6, .ref (ad 4)), (7, .ref (ad 5)), (8, .ref (ad 6)), (9, .ref (ad 7)), (10, .ref (ad 8)), (11, .ref (ad 10)), (12, .ref (ad 11))]) hx hb dL_days_4 hl (by decide) rfl (fun ls hl => ?_)
  have eI_1 : t_dyn T 0 = 0 := by rfl
  replace hPa : va_P D vwCl (aws ad cI (t_dyf T 0)) _ := hPa
  refine b_loop (D := D) (ad := ad) (cI := cI) (A := fun q => A q ∨ B q) (ws := ws) (n := dd) (nL := 17) (fun k => [(0, .ref h), (1, .int (nI dd)), (2, .ref (ad 0)), (3, .ref (ad 1)), (4, .ref (ad 2)), (5, .ref (ad 3)), (6, .ref (ad 4)), (7, .ref (ad 5)), (8, .ref (ad 6)), (9, .ref (ad 7)), (10, .ref (ad 8)), (11, .ref (ad 10)), (12, .ref (ad 11)), (13, .int (nI (t_dyn T k))), (14, .int (nI k))]) (fun k => t_dyf T k) (fun k hb_2 ih_3 H_4 locs_5 ls hPa9 hPw9 hS9 hl => ?_) 0 (by omega) _ _ ls hPa hPw hS (lv_sub hl [2, 3, 4, 5, 6, 7, 8, 9, 10, 11, 12, 13, 14, 1, 0] (by show lv_pick _ _ = [(0, .ref h), (1, .int (nI dd)), (2, .ref (ad 0)), (3, .ref (ad 1)), (4, .ref (ad 2)), (5, .ref (ad 3)), (6, .ref (ad 4)), (7, .ref (ad 5)), (8, .ref (ad 6)), (9, .ref (ad 7)), (10, .ref (ad 8)), (11, .ref (ad 10)), (12, .ref (ad 11)), (13, .int (nI (t_dyn T 0))), (14, .int (nI 0))]; rw [eI_1]; rfl))
  clear hPa hPw hS
  have hPa := hPa9; have hPw := hPw9; have hS := hS9; clear hPa9 hPw9 hS9
  obtain ⟨Lk, Mk, e1k, hTk, -, -⟩ := day_LT hR hM hT hLB hC0 hU (show k ≤ 40 by omega)
  have d9 : t_dyf T k 11 0 ≤ 1000 := by rw [Lk.1.1]; omega
  refine lv_iload hx hb dL_days_6 (lv_at hl 14 rfl) ?_
  refine lv_iload_n hx hb dL_days_8 rfl (lv_at hl 1 rfl) ?_
  refine n_icmp_ge (tgt := 290) hx hb dL_days_9 (by decide) (by omega) (by have f1 := hd40; omega) (fun c_6 => ?_) (fun c_6 => ?_)
  · obtain rfl : dd = k := by omega
    have dyn9 : t_dyn T dd ≤ 60 * dd := by rw [← (day_LT hR hM hT hLB hC0 hU (show dd ≤ 40 by omega)).2.2.2.2.1]; exact m_dyn_le hM hLB dd (by omega)
    refine lv_aload_n hx hb dL_days_290 rfl (lv_at hl 0 rfl) ?_
    refine lv_iconst (v := nI 0) hx hb dL_days_291 (by decide) ?_
    have h60 : dyN M (nI 0) ((nI 0)).toNatClampNeg = 0 := if_neg (fun z9 => absurd (z9.1.symm.trans (show k_pass M (nI 0) = 1 from by exact pas_1 (by omega) (Or.inl rfl))) (by decide))
    refine va_calli (vx_runSW (As := [.ref h, .int (nI 0)]) (rest := []) ⟨hx, hb, hml, hown, hts⟩ (cw_pass l hst D cI cO cb eA mi st dO dT vF ws hc hM hsI hLB (nI 0)) (vx_cwSW 2 hts gL_days_L_pass rfl rfl rfl kd_L_pass ⟨Nat.le_of_ble_eq_true rfl, Nat.le_of_ble_eq_true rfl⟩) ⟨kB_blind, kB_pre hK hG hGT hN (fun q h9 => Or.inl h9) hS (fun q h9 => hA q (Nat.le_trans hS.1 h9)) hPw _⟩ rfl rfl hl.1 rfl (lv_room (Nat.le_of_ble_eq_true rfl)) dL_days_292 ⟨by show 0 + (4 * dyN M (nI 0) (nI 0).toNatClampNeg + 1) ≤ 243; omega, by show 0 + (202 * dyN M (nI 0) (nI 0).toNatClampNeg + 6) ≤ 12138; omega⟩) hS (fun _ _ h9 => Or.inl h9) (fun _ h9 => Or.inl h9) (fun r_7 ws_8 U8 H_12 locs_13 ht hvm hu_11 hB hz1 hk1 hS1 => ?_)
    obtain ⟨hr_9, hc_10⟩ := hu_11
    replace hB : va_P D vwCl ws_8 U8.heap := hB
    rw [ht] at hB
    replace hPa := aP_keep hPa hdB hAB hk1
    clear hPw hS
    have hPw := hB
    have hS := hS1
    clear hB hS1 hz1 hk1 hvm ht U8
    refine W.widen (k := 1) (n := 6) (by omega) (by omega) ?_
    clear h60
    have hk_14 : k_pass M (nI 0) = 1 := by exact pas_1 (by omega) (Or.inl rfl)
    rw [keep_pass (by rw [hk_14]; decide)] at hc_10
    rw [hk_14] at hr_9
    replace hr_9 : r_7 = (-7200) := hr_9
    subst hr_9
    refine lv_sipush (v := (-7200)) hx hb dL_days_295 (by decide) ?_
    refine lv_icmp_ne (tgt := 327) hx hb dL_days_298 (by decide)  (fun c9 => absurd c9 (by decide)) (fun _ => ?_)
    refine lv_aload_n hx hb dL_days_301 rfl (lv_at hl 0 rfl) ?_
    refine lv_bipush (v := nI 101) hx hb dL_days_302 (by decide) ?_
    have h60 : dyN M (nI 101) ((nI 101)).toNatClampNeg = 0 := if_neg (fun z9 => absurd (z9.1.symm.trans (show k_pass M (nI 101) = 1 from by exact pas_1 (by omega) (Or.inr (by omega)))) (by decide))
    refine va_calli (vx_runSW (As := [.ref h, .int (nI 101)]) (rest := []) ⟨hx, hb, hml, hown, hts⟩ (cw_pass l hst D cI cO cb eA mi st dO dT vF ws_8 hc_10 hM hsI hLB (nI 101)) (vx_cwSW 2 hts gL_days_L_pass rfl rfl rfl kd_L_pass ⟨Nat.le_of_ble_eq_true rfl, Nat.le_of_ble_eq_true rfl⟩) ⟨kB_blind, kB_pre hK hG hGT hN (fun q h9 => Or.inl h9) hS (fun q h9 => hA q (Nat.le_trans hS.1 h9)) hPw _⟩ rfl rfl hl.1 rfl (lv_room (Nat.le_of_ble_eq_true rfl)) dL_days_304 ⟨by show 1 + (4 * dyN M (nI 101) (nI 101).toNatClampNeg + 1) ≤ 243; omega, by show 6 + (202 * dyN M (nI 101) (nI 101).toNatClampNeg + 6) ≤ 12138; omega⟩) hS (fun _ _ h9 => Or.inl h9) (fun _ h9 => Or.inl h9) (fun r_15 ws_16 U8 H_20 locs_21 ht hvm hu_19 hB hz1 hk1 hS1 => ?_)
    obtain ⟨hr_17, hc_18⟩ := hu_19
    replace hB : va_P D vwCl ws_16 U8.heap := hB
    rw [ht] at hB
    replace hPa := aP_keep hPa hdB hAB hk1
    clear hPw hS
    have hPw := hB
    have hS := hS1
    clear hB hS1 hz1 hk1 hvm ht U8
    refine W.widen (k := 2) (n := 12) (by omega) (by omega) ?_
    clear h60
    have hk_22 : k_pass M (nI 101) = 1 := by exact pas_1 (by omega) (Or.inr (by omega))
    rw [keep_pass (by rw [hk_22]; decide)] at hc_18
    rw [hk_22] at hr_17
    replace hr_17 : r_15 = (-7200) := hr_17
    subst hr_17
    refine lv_sipush (v := (-7200)) hx hb dL_days_307 (by decide) ?_
    refine lv_icmp_ne (tgt := 327) hx hb dL_days_310 (by decide)  (fun c9 => absurd c9 (by decide)) (fun _ => ?_)
    refine lv_aload_n hx hb dL_days_313 rfl (lv_at hl 0 rfl) ?_
    refine lv_iload_n hx hb dL_days_314 rfl (lv_at hl 1 rfl) ?_
    have h60 := dyN_60 hM hLB (nI dd) ((nI dd)).toNatClampNeg
    refine va_calli (vx_runSW (As := [.ref h, .int (nI dd)]) (rest := []) ⟨hx, hb, hml, hown, hts⟩ (cw_pass l hst D cI cO cb eA mi st dO dT vF ws_16 hc_18 hM hsI hLB (nI dd)) (vx_cwSW 2 hts gL_days_L_pass rfl rfl rfl kd_L_pass ⟨Nat.le_of_ble_eq_true rfl, Nat.le_of_ble_eq_true rfl⟩) ⟨kB_blind, kB_pre hK hG hGT hN (fun q h9 => Or.inl h9) hS (fun q h9 => hA q (Nat.le_trans hS.1 h9)) hPw _⟩ rfl rfl hl.1 rfl (lv_room (Nat.le_of_ble_eq_true rfl)) dL_days_315 ⟨by show 2 + (4 * dyN M (nI dd) (nI dd).toNatClampNeg + 1) ≤ 243; omega, by show 12 + (202 * dyN M (nI dd) (nI dd).toNatClampNeg + 6) ≤ 12138; omega⟩) hS (fun _ _ h9 => Or.inl h9) (fun _ h9 => Or.inl h9) (fun r_23 ws_24 U8 H_28 locs_29 ht hvm hu_27 hB hz1 hk1 hS1 => ?_)
    obtain ⟨hr_25, hc_26⟩ := hu_27
    replace hB : va_P D vwCl ws_24 U8.heap := hB
    rw [ht] at hB
    replace hPa := aP_keep hPa hdB hAB hk1
    clear hPw hS
    have hPw := hB
    have hS := hS1
    clear hB hS1 hz1 hk1 hvm ht U8
    refine W.widen (k := 243) (n := 12138) (by omega) (by omega) ?_
    clear h60
    have hv9 : e23 (k_pass M (nI dd)) (r_pass M (nI dd)) = nI (t_dyn T dd) := by rw [pas_r (by omega) (by omega) (by omega), (day_LT hR hM hT hLB hC0 hU (show dd ≤ 40 by omega)).2.2.2.2.1]
    rw [hv9] at hr_25
    clear hv9
    subst hr_25
    have hM_30 : MI (g_pass M (nI dd)) := (MI_pass hM hLB (nI dd)).1
    have hLB_31 : m_LB (g_pass M (nI dd)) := (MI_pass hM hLB (nI dd)).2
    have h15_32 : (g_pass M (nI dd)) 15 0 ≤ M 15 0 + 1 := (LB_pass hM (nI dd)).2
    refine lv_iload hx hb dL_days_318 (lv_at hl 13 rfl) ?_
    refine n_icmp_ne (tgt := 327) hx hb dL_days_320 (by decide) (by have f1 := dyn9; omega) (by omega) (fun c_33 => absurd (by omega) c_33) (fun c_33 => ?_)
    refine lv_iconst (v := nI 1) hx hb dL_days_323 (by decide) ?_
    refine lv_goto (tgt := 328) hx hb dL_days_324 (by decide) ?_
    have hLR : LR (g_pass M (nI dd)) (t_dyf T dd) := by rw [pas_g (by omega) (by omega) (by omega)]; exact (day_LT hR hM hT hLB hC0 hU (show dd ≤ 40 by omega)).1
    have hLT : LT (t_dyf T dd) := by exact (day_LT hR hM hT hLB hC0 hU (show dd ≤ 40 by omega)).2.2.2.1
    refine W.widen (k := 243) (n := 12138) (by omega) (by omega) ?_
    exact W.zret (v := nI 1) hx hb hr rfl (fun U9 ht9 hW9 => ⟨⟨_, (ws_24, g_pass M (nI dd), t_dyf T dd), rfl, ⟨rfl, hc_26, hM_30, hLB_31, Nat.le_trans h15_32 (Nat.succ_le_succ h15), hLR, hLT⟩, by show va_P D vwCl _ U9.heap ∧ va_P D vwCl _ U9.heap; rw [ht9]; exact ⟨hPw, hPa⟩⟩, hS.F ht9⟩) hS.2.2 dL_days_328
  · refine lv_aload hx hb dL_days_12 (lv_at hl 12 rfl) ?_
    refine lv_iconst (v := nI 0) hx hb dL_days_14 (by decide) ?_
    refine lv_dup2_11 hx hb dL_days_15 rfl rfl ?_
    refine a_iald (f := 11) (n := 7) hx hb hKa hPa rfl (by decide) (by decide) dL_days_16 ?_
    rw [show (t_dyf T k) 11 0 = t_dyf T k 11 0 from rfl]
    refine lv_iconst (v := nI 1) hx hb dL_days_17 (by decide) ?_
    refine n_iadd hx hb dL_days_18 (z := (t_dyf T k 11 0) + 1) rfl ?_
    refine b_iast (f := 11) (n := 7) (v := (t_dyf T k 11 0) + 1) hx hb hKa hPa hPw hdB hc.dis hAB hS (by decide) rfl (by decide) (by decide) (aset_11 _ _ _ _ _) dL_days_19 (fun H1 locs1 hPa1 hPw1 hS1 => ?_)
    clear hPa hPw hS
    have hPa := hPa1; have hPw := hPw1; have hS := hS1; clear hPa1 hPw1 hS1
    refine lv_iconst (v := nI 0) hx hb dL_days_20 (by decide) ?_
    refine lv_istore (lv' := [(15, .int (nI 0)), (0, .ref h), (1, .int (nI dd)), (2, .ref (ad 0)), (3, .ref (ad 1)), (4, .ref (ad 2)), (5, .ref (ad 3)), (6, .ref (ad 4)), (7, .ref (ad 5)), (8, .ref (ad 6)), (9, .ref (ad 7)), (10, .ref (ad 8)), (11, .ref (ad 10)), (12, .ref (ad 11)), (13, .int (nI (t_dyn T k))), (14, .int (nI k))]) hx hb dL_days_21 hl (by decide) rfl (fun ls hl => ?_)
    replace hPa : va_P D vwCl (aws ad cI (t_oqf (mu (t_dyf T k) 11 0 (t_dyf T k 11 0 + 1)) 0)) _ := hPa
    refine b_loop (D := D) (ad := ad) (cI := cI) (A := fun q => A q ∨ B q) (ws := ws) (n := 16) (nL := 17) (fun q => [(0, .ref h), (1, .int (nI dd)), (2, .ref (ad 0)), (3, .ref (ad 1)), (4, .ref (ad 2)), (5, .ref (ad 3)), (6, .ref (ad 4)), (7, .ref (ad 5)), (8, .ref (ad 6)), (9, .ref (ad 7)), (10, .ref (ad 8)), (11, .ref (ad 10)), (12, .ref (ad 11)), (13, .int (nI (t_dyn T k))), (14, .int (nI k)), (15, .int (nI q))]) (fun q => t_oqf (mu (t_dyf T k) 11 0 (t_dyf T k 11 0 + 1)) q) (fun q hb_34 ih_35 H_36 locs_37 ls hPa9 hPw9 hS9 hl => ?_) 0 (by omega) _ _ ls hPa hPw hS (lv_sub hl [1, 2, 3, 4, 5, 6, 7, 8, 9, 10, 11, 12, 13, 14, 15, 0] rfl)
    clear hPa hPw hS
    have hPa := hPa9; have hPw := hPw9; have hS := hS9; clear hPa9 hPw9 hS9
    have hTq : LT (t_oqf (mu (t_dyf T k) 11 0 (t_dyf T k 11 0 + 1)) q) := LT_oqf hTk (by omega) q
    refine lv_iload hx hb dL_days_23 (lv_at hl 15 rfl) ?_
    refine lv_bipush (v := nI 16) hx hb dL_days_25 (by decide) ?_
    refine n_icmp_ge (tgt := 129) hx hb dL_days_27 (by decide) (by omega) (by decide) (fun c_38 => ?_) (fun c_38 => ?_)
    · obtain rfl : 16 = q := by omega
      replace hPa : va_P D vwCl (aws ad cI (t_d0 (t_dyf T k))) _ := hPa
      have hTd : LT (t_d0 (t_dyf T k)) := LT_oqf hTk (by omega) 16
      refine lv_aload hx hb dL_days_129 (lv_at hl 12 rfl) ?_
      refine lv_iconst (v := nI 4) hx hb dL_days_131 (by decide) ?_
      refine a_iald (f := 11) (n := 7) hx hb hKa hPa rfl (by decide) (by decide) dL_days_132 ?_
      refine lv_istore (lv' := [(15, .int (nI ((t_d0 (t_dyf T k)) 11 4))), (0, .ref h), (1, .int (nI dd)), (2, .ref (ad 0)), (3, .ref (ad 1)), (4, .ref (ad 2)), (5, .ref (ad 3)), (6, .ref (ad 4)), (7, .ref (ad 5)), (8, .ref (ad 6)), (9, .ref (ad 7)), (10, .ref (ad 8)), (11, .ref (ad 10)), (12, .ref (ad 11)), (13, .int (nI (t_dyn T k))), (14, .int (nI k))]) hx hb dL_days_133 hl (by decide) rfl (fun ls hl => ?_)
      refine lv_iconst (v := nI 0) hx hb dL_days_135 (by decide) ?_
      refine lv_istore (lv' := [(16, .int (nI 0)), (15, .int (nI ((t_d0 (t_dyf T k)) 11 4))), (0, .ref h), (1, .int (nI dd)), (2, .ref (ad 0)), (3, .ref (ad 1)), (4, .ref (ad 2)), (5, .ref (ad 3)), (6, .ref (ad 4)), (7, .ref (ad 5)), (8, .ref (ad 6)), (9, .ref (ad 7)), (10, .ref (ad 8)), (11, .ref (ad 10)), (12, .ref (ad 11)), (13, .int (nI (t_dyn T k))), (14, .int (nI k))]) hx hb dL_days_136 hl (by decide) rfl (fun ls hl => ?_)
      have eI_39 : t_dyn T k + t_lpn (t_d0 (t_dyf T k)) 0 = t_dyn T k := by rfl
      have eI_40 : t_d0 (t_dyf T k) 11 4 = (t_d0 (t_dyf T k)) 11 4 := by rfl
      replace hPa : va_P D vwCl (aws ad cI (t_lpf (t_d0 (t_dyf T k)) 0)) _ := hPa
      refine b_loop (D := D) (ad := ad) (cI := cI) (A := fun q => A q ∨ B q) (ws := ws) (n := t_d0 (t_dyf T k) 11 4) (nL := 17) (fun a => [(0, .ref h), (1, .int (nI dd)), (2, .ref (ad 0)), (3, .ref (ad 1)), (4, .ref (ad 2)), (5, .ref (ad 3)), (6, .ref (ad 4)), (7, .ref (ad 5)), (8, .ref (ad 6)), (9, .ref (ad 7)), (10, .ref (ad 8)), (11, .ref (ad 10)), (12, .ref (ad 11)), (13, .int (nI (t_dyn T k + t_lpn (t_d0 (t_dyf T k)) a))), (14, .int (nI k)), (15, .int (nI (t_d0 (t_dyf T k) 11 4))), (16, .int (nI a))]) (fun a => t_lpf (t_d0 (t_dyf T k)) a) (fun a hb_41 ih_42 H_43 locs_44 ls hPa9 hPw9 hS9 hl => ?_) 0 (by omega) _ _ ls hPa hPw hS (lv_sub hl [2, 3, 4, 5, 6, 7, 8, 9, 10, 11, 12, 13, 14, 15, 16, 1, 0] (by show lv_pick _ _ = [(0, .ref h), (1, .int (nI dd)), (2, .ref (ad 0)), (3, .ref (ad 1)), (4, .ref (ad 2)), (5, .ref (ad 3)), (6, .ref (ad 4)), (7, .ref (ad 5)), (8, .ref (ad 6)), (9, .ref (ad 7)), (10, .ref (ad 8)), (11, .ref (ad 10)), (12, .ref (ad 11)), (13, .int (nI (t_dyn T k + t_lpn (t_d0 (t_dyf T k)) 0))), (14, .int (nI k)), (15, .int (nI (t_d0 (t_dyf T k) 11 4))), (16, .int (nI 0))]; rw [eI_39, eI_40]; rfl))
      clear hPa hPw hS
      have hPa := hPa9; have hPw := hPw9; have hS := hS9; clear hPa9 hPw9 hS9
      obtain ⟨La, Ma, hTa, La4, La3, Lall, La16, Lz⟩ := day_lap hR hM hT hLB hC0 hU (show k < 40 by omega) (a := a) (by omega)
      have hTd4 := hTd.2.2.2.1
      refine lv_iload hx hb dL_days_138 (lv_at hl 16 rfl) ?_
      refine lv_iload hx hb dL_days_140 (lv_at hl 15 rfl) ?_
      refine n_icmp_ge (tgt := 284) hx hb dL_days_142 (by decide) (by omega) (by have f1 := hTd.2.2.2.1; omega) (fun c_45 => ?_) (fun c_45 => ?_)
      · obtain rfl : t_d0 (t_dyf T k) 11 4 = a := by omega
        refine n_iinc (k := 14) (lv' := [(14, .int (nI (k + 1))), (0, .ref h), (1, .int (nI dd)), (2, .ref (ad 0)), (3, .ref (ad 1)), (4, .ref (ad 2)), (5, .ref (ad 3)), (6, .ref (ad 4)), (7, .ref (ad 5)), (8, .ref (ad 6)), (9, .ref (ad 7)), (10, .ref (ad 8)), (11, .ref (ad 10)), (12, .ref (ad 11)), (13, .int (nI (t_dyn T k + t_lpn (t_d0 (t_dyf T k)) (t_d0 (t_dyf T k) 11 4)))), (15, .int (nI (t_d0 (t_dyf T k) 11 4))), (16, .int (nI (t_d0 (t_dyf T k) 11 4)))]) hx hb dL_days_284 hl rfl (by decide) rfl (fun ls hl => ?_)
        refine lv_goto (tgt := 6) hx hb dL_days_287 (by decide) ?_
        have e_46 : t_dyn T (k + 1) = t_dyn T k + t_lpn (t_d0 (t_dyf T k)) (t_d0 (t_dyf T k) 11 4) := by rfl
        have eT_47 : t_dyf T (k + 1) = t_lpf (t_d0 (t_dyf T k)) (t_d0 (t_dyf T k) 11 4) := by rfl
        refine ih_3 (by omega) _ _ ls (by rw [eT_47]; exact hPa) hPw hS ?_
        show lv_has ls 17 [(0, .ref h), (1, .int (nI dd)), (2, .ref (ad 0)), (3, .ref (ad 1)), (4, .ref (ad 2)), (5, .ref (ad 3)), (6, .ref (ad 4)), (7, .ref (ad 5)), (8, .ref (ad 6)), (9, .ref (ad 7)), (10, .ref (ad 8)), (11, .ref (ad 10)), (12, .ref (ad 11)), (13, .int (nI (t_dyn T (k + 1)))), (14, .int (nI (k + 1)))]
        rw [e_46]
        exact lv_sub hl [1, 2, 3, 4, 5, 6, 7, 8, 9, 10, 11, 12, 13, 14, 0] rfl
      · refine lv_aload hx hb dL_days_145 (lv_at hl 9 rfl) ?_
        refine lv_iload hx hb dL_days_147 (lv_at hl 16 rfl) ?_
        refine a_iald (f := 7) (n := 32) hx hb hKa hPa rfl (by omega) (by decide) dL_days_149 ?_
        refine lv_bipush (v := nI 17) hx hb dL_days_150 (by decide) ?_
        refine lv_ishr hx hb dL_days_152 ?_
        rw [show (nI ((t_lpf (t_d0 (t_dyf T k)) a) 7 a)) >>> ((nI 17) &&& 31) = nI (((t_lpf (t_d0 (t_dyf T k)) a) 7 a) / 131072) from n_shrK (by have f1 : (t_lpf (t_d0 (t_dyf T k)) a) 7 a ≤ 16777215 := hTa.1 7 a; omega) (by decide) rfl]
        refine n_if_gt (tgt := 278) hx hb dL_days_153 (by decide) (by have f1 : (t_lpf (t_d0 (t_dyf T k)) a) 7 a ≤ 16777215 := hTa.1 7 a; omega) (fun c_48 => ?_) (fun c_48 => ?_)
        · have k1_8 : 0 < (t_lpf (t_d0 (t_dyf T k)) a) 7 a / 131072 := c_48
          refine n_iinc (k := 16) (lv' := [(16, .int (nI (a + 1))), (0, .ref h), (1, .int (nI dd)), (2, .ref (ad 0)), (3, .ref (ad 1)), (4, .ref (ad 2)), (5, .ref (ad 3)), (6, .ref (ad 4)), (7, .ref (ad 5)), (8, .ref (ad 6)), (9, .ref (ad 7)), (10, .ref (ad 8)), (11, .ref (ad 10)), (12, .ref (ad 11)), (13, .int (nI (t_dyn T k + t_lpn (t_d0 (t_dyf T k)) a))), (14, .int (nI k)), (15, .int (nI (t_d0 (t_dyf T k) 11 4)))]) hx hb dL_days_278 hl rfl (by decide) rfl (fun ls hl => ?_)
          refine lv_goto (tgt := 138) hx hb dL_days_281 (by decide) ?_
          have e_49 : t_dyn T k + t_lpn (t_d0 (t_dyf T k)) (a + 1) = t_dyn T k + t_lpn (t_d0 (t_dyf T k)) a := by (rw [t_lpn, if_neg (fun z => absurd z.1 (Nat.ne_of_gt k1_8))]; rfl)
          have eT_50 : t_lpf (t_d0 (t_dyf T k)) (a + 1) = t_lpf (t_d0 (t_dyf T k)) a := by (rw [t_lpf, if_neg (fun z => absurd z.1 (Nat.ne_of_gt k1_8))])
          refine ih_42 (by omega) _ _ ls (by rw [eT_50]; exact hPa) hPw hS ?_
          show lv_has ls 17 [(0, .ref h), (1, .int (nI dd)), (2, .ref (ad 0)), (3, .ref (ad 1)), (4, .ref (ad 2)), (5, .ref (ad 3)), (6, .ref (ad 4)), (7, .ref (ad 5)), (8, .ref (ad 6)), (9, .ref (ad 7)), (10, .ref (ad 8)), (11, .ref (ad 10)), (12, .ref (ad 11)), (13, .int (nI (t_dyn T k + t_lpn (t_d0 (t_dyf T k)) (a + 1)))), (14, .int (nI k)), (15, .int (nI (t_d0 (t_dyf T k) 11 4))), (16, .int (nI (a + 1)))]
          rw [e_49]
          exact lv_sub hl [1, 2, 3, 4, 5, 6, 7, 8, 9, 10, 11, 12, 13, 14, 15, 16, 0] rfl
        · have k1_9 : (t_lpf (t_d0 (t_dyf T k)) a) 7 a / 131072 = 0 := c_48
          refine lv_aload_n hx hb dL_days_156 rfl (lv_at hl 3 rfl) ?_
          refine lv_aload hx hb dL_days_157 (lv_at hl 9 rfl) ?_
          refine lv_aload hx hb dL_days_159 (lv_at hl 10 rfl) ?_
          refine lv_aload hx hb dL_days_161 (lv_at hl 12 rfl) ?_
          refine lv_iload hx hb dL_days_163 (lv_at hl 16 rfl) ?_
          refine vp_callSi (W.runS (As := [.ref (ad 1), .ref (ad 7), .ref (ad 8), .ref (ad 11), .int (nI a)]) (rest := []) ⟨hx, hb, hml, hown, hts⟩ (ch_settled l D ad cI (t_lpf (t_d0 (t_dyf T k)) a) hTa a (by omega)) (va_cwS 5 hts gL_days_L_settled rfl rfl rfl kd_L_settled ⟨Nat.le_of_ble_eq_true rfl, Nat.le_of_ble_eq_true rfl⟩) ⟨aB_blind, a_pre hKa hPa _⟩ rfl rfl hl.1 rfl (lv_room (Nat.le_of_ble_eq_true rfl)) dL_days_165 ⟨Nat.le_of_ble_eq_true rfl, Nat.le_of_ble_eq_true rfl⟩) (fun r_51 hr_51 => ?_)
          subst hr_51
          refine b_if_eq (tgt := 278) hx hb dL_days_168 (by decide)  (fun c_52 => ?_) (fun c_52 => ?_)
          · have k2_8 : t_se (t_lpf (t_d0 (t_dyf T k)) a) a = false := c_52
            refine n_iinc (k := 16) (lv' := [(16, .int (nI (a + 1))), (0, .ref h), (1, .int (nI dd)), (2, .ref (ad 0)), (3, .ref (ad 1)), (4, .ref (ad 2)), (5, .ref (ad 3)), (6, .ref (ad 4)), (7, .ref (ad 5)), (8, .ref (ad 6)), (9, .ref (ad 7)), (10, .ref (ad 8)), (11, .ref (ad 10)), (12, .ref (ad 11)), (13, .int (nI (t_dyn T k + t_lpn (t_d0 (t_dyf T k)) a))), (14, .int (nI k)), (15, .int (nI (t_d0 (t_dyf T k) 11 4)))]) hx hb dL_days_278 hl rfl (by decide) rfl (fun ls hl => ?_)
            refine lv_goto (tgt := 138) hx hb dL_days_281 (by decide) ?_
            have e_53 : t_dyn T k + t_lpn (t_d0 (t_dyf T k)) (a + 1) = t_dyn T k + t_lpn (t_d0 (t_dyf T k)) a := by (rw [t_lpn, if_neg (fun z => absurd (z.2.1.symm.trans k2_8) (by decide))]; rfl)
            have eT_54 : t_lpf (t_d0 (t_dyf T k)) (a + 1) = t_lpf (t_d0 (t_dyf T k)) a := by (rw [t_lpf, if_neg (fun z => absurd (z.2.1.symm.trans k2_8) (by decide))])
            refine ih_42 (by omega) _ _ ls (by rw [eT_54]; exact hPa) hPw hS ?_
            show lv_has ls 17 [(0, .ref h), (1, .int (nI dd)), (2, .ref (ad 0)), (3, .ref (ad 1)), (4, .ref (ad 2)), (5, .ref (ad 3)), (6, .ref (ad 4)), (7, .ref (ad 5)), (8, .ref (ad 6)), (9, .ref (ad 7)), (10, .ref (ad 8)), (11, .ref (ad 10)), (12, .ref (ad 11)), (13, .int (nI (t_dyn T k + t_lpn (t_d0 (t_dyf T k)) (a + 1)))), (14, .int (nI k)), (15, .int (nI (t_d0 (t_dyf T k) 11 4))), (16, .int (nI (a + 1)))]
            rw [e_53]
            exact lv_sub hl [1, 2, 3, 4, 5, 6, 7, 8, 9, 10, 11, 12, 13, 14, 15, 16, 0] rfl
          · have k2_9 : t_se (t_lpf (t_d0 (t_dyf T k)) a) a = true := c_52
            refine lv_aload hx hb dL_days_171 (lv_at hl 12 rfl) ?_
            refine lv_iconst (v := nI 0) hx hb dL_days_173 (by decide) ?_
            refine a_iald (f := 11) (n := 7) hx hb hKa hPa rfl (by decide) (by decide) dL_days_174 ?_
            refine lv_aload_n hx hb dL_days_175 rfl (lv_at hl 3 rfl) ?_
            refine lv_aload hx hb dL_days_176 (lv_at hl 9 rfl) ?_
            refine lv_iload hx hb dL_days_178 (lv_at hl 16 rfl) ?_
            refine vp_callSi (W.runS (As := [.ref (ad 1), .ref (ad 7), .int (nI a)]) (rest := [.int (nI ((t_lpf (t_d0 (t_dyf T k)) a) 11 0))]) ⟨hx, hb, hml, hown, hts⟩ (ch_stands l D ad cI (t_lpf (t_d0 (t_dyf T k)) a) hTa a (by omega)) (va_cwS 3 hts gL_days_L_stands rfl rfl rfl kd_L_stands ⟨Nat.le_of_ble_eq_true rfl, Nat.le_of_ble_eq_true rfl⟩) ⟨aB_blind, a_pre hKa hPa _⟩ rfl rfl hl.1 rfl (lv_room (Nat.le_of_ble_eq_true rfl)) dL_days_180 ⟨Nat.le_of_ble_eq_true rfl, Nat.le_of_ble_eq_true rfl⟩) (fun r_55 hr_55 => ?_)
            subst hr_55
            refine lv_bipush (v := nI 30) hx hb dL_days_183 (by decide) ?_
            refine n_iadd hx hb dL_days_185 (z := (t_su (t_lpf (t_d0 (t_dyf T k)) a) a) + 30) rfl ?_
            refine n_icmp_ge (tgt := 192) hx hb dL_days_186 (by decide) (by have f1 : (t_lpf (t_d0 (t_dyf T k)) a) 11 0 ≤ 2000 := hTa.1 11 0; omega) (by have f1 : t_su (t_lpf (t_d0 (t_dyf T k)) a) a ≤ 4200 := t_su_le hTa a; omega) (fun c_56 => ?_) (fun c_56 => ?_)
            · have k3_9 : t_su (t_lpf (t_d0 (t_dyf T k)) a) a + 30 ≤ (t_lpf (t_d0 (t_dyf T k)) a) 11 0 := c_56
              have z16 := t_se_gn k2_9
              have hcap7 : (t_lpf (t_d0 (t_dyf T k)) a) 7 a ≤ 16777215 := hTa.1 7 a
              have ha16 : a < m_lpf (m_dy0 (m_dyf M k)) a 16 0 := by omega
              have aw9 := La.aw Ma ha16
              have hv20 : m_lpf (m_dy0 (m_dyf M k)) a 20 a = 0 := by omega
              have hTm : LT (t_lpm (t_lpf (t_d0 (t_dyf T k)) a) a) := LT_lpm hTa La Ma ha16 hv20 Lz (by omega)
              have Lm := La.lpm Ma ha16 hv20
              have Mm := MI_lpm (a := a) Ma Lz (by decide)
              have lot9 := La.2.2.2.2.2.2.1 a ha16
              have l2 := La.2.2.2.1.1 ((t_lpf (t_d0 (t_dyf T k)) a) 7 a % 4) (by omega)
              rw [if_pos lot9.2.2.2.2.1] at l2
              refine lv_aload hx hb dL_days_192 (lv_at hl 9 rfl) ?_
              refine lv_iload hx hb dL_days_194 (lv_at hl 16 rfl) ?_
              refine lv_dup2_11 hx hb dL_days_196 rfl rfl ?_
              refine a_iald (f := 7) (n := 32) hx hb hKa hPa rfl (by omega) (by decide) dL_days_197 ?_
              refine lv_ldc (v := nI 65536) hx hb hown (hts (.constant RL 172 (65536)) (List.mem_of_getElem? (i := 1) rfl)) dL_days_198 ?_
              refine lv_ior hx hb dL_days_200 ?_
              rw [show (nI ((t_lpf (t_d0 (t_dyf T k)) a) 7 a)) ||| (nI 65536) = nI ((t_lpf (t_d0 (t_dyf T k)) a) 7 a + 65536) from (by rw [n_or, or_16 z16])]
              refine b_iast (f := 7) (n := 32) (v := (t_lpf (t_d0 (t_dyf T k)) a) 7 a + 65536) hx hb hKa hPa hPw hdB hc.dis hAB hS (by decide) rfl (by omega) (by decide) (aset_7 _ _ _ _ _) dL_days_201 (fun H1 locs1 hPa1 hPw1 hS1 => ?_)
              clear hPa hPw hS
              have hPa := hPa1; have hPw := hPw1; have hS := hS1; clear hPa1 hPw1 hS1
              refine lv_aload hx hb dL_days_202 (lv_at hl 11 rfl) ?_
              refine lv_aload hx hb dL_days_204 (lv_at hl 9 rfl) ?_
              refine lv_iload hx hb dL_days_206 (lv_at hl 16 rfl) ?_
              refine a_iald (f := 7) (n := 32) hx hb hKa hPa rfl (by omega) (by decide) dL_days_208 ?_
              rw [show (mu (t_lpf (t_d0 (t_dyf T k)) a) 7 a ((t_lpf (t_d0 (t_dyf T k)) a) 7 a + 65536)) 7 a = (t_lpf (t_d0 (t_dyf T k)) a) 7 a + 65536 from (by simp [mu])]
              refine lv_iconst (v := nI 2) hx hb dL_days_209 (by decide) ?_
              refine lv_ishr hx hb dL_days_210 ?_
              rw [show (nI ((t_lpf (t_d0 (t_dyf T k)) a) 7 a + 65536)) >>> ((nI 2) &&& 31) = nI (((t_lpf (t_d0 (t_dyf T k)) a) 7 a + 65536) / 4) from n_shrK (by have f1 := hcap7; omega) (by decide) rfl]
              refine lv_iconst (v := nI 3) hx hb dL_days_211 (by decide) ?_
              refine lv_iand hx hb dL_days_212 ?_
              rw [show (nI (((t_lpf (t_d0 (t_dyf T k)) a) 7 a + 65536) / 4)) &&& (nI 3) = nI ((t_lpf (t_d0 (t_dyf T k)) a) 7 a / 4 % 4) from (by rw [n_andK (k := 2) (by omega) (by decide) (by decide) rfl]; exact congrArg nI (by omega))]
              refine lv_dup2_11 hx hb dL_days_213 rfl rfl ?_
              refine a_iald (f := 10) (n := 4) hx hb hKa hPa rfl (by omega) (by decide) dL_days_214 ?_
              rw [show (mu (t_lpf (t_d0 (t_dyf T k)) a) 7 a ((t_lpf (t_d0 (t_dyf T k)) a) 7 a + 65536)) 10 ((t_lpf (t_d0 (t_dyf T k)) a) 7 a / 4 % 4) = (t_lpf (t_d0 (t_dyf T k)) a) 10 ((t_lpf (t_d0 (t_dyf T k)) a) 7 a / 4 % 4) from (by simp [mu])]
              refine lv_aload hx hb dL_days_215 (lv_at hl 4 rfl) ?_
              refine lv_aload hx hb dL_days_217 (lv_at hl 9 rfl) ?_
              refine lv_iload hx hb dL_days_219 (lv_at hl 16 rfl) ?_
              refine a_iald (f := 7) (n := 32) hx hb hKa hPa rfl (by omega) (by decide) dL_days_221 ?_
              rw [show (mu (t_lpf (t_d0 (t_dyf T k)) a) 7 a ((t_lpf (t_d0 (t_dyf T k)) a) 7 a + 65536)) 7 a = (t_lpf (t_d0 (t_dyf T k)) a) 7 a + 65536 from (by simp [mu])]
              refine lv_iconst (v := nI 3) hx hb dL_days_222 (by decide) ?_
              refine lv_iand hx hb dL_days_223 ?_
              rw [show (nI ((t_lpf (t_d0 (t_dyf T k)) a) 7 a + 65536)) &&& (nI 3) = nI ((t_lpf (t_d0 (t_dyf T k)) a) 7 a % 4) from (by rw [n_andK (k := 2) (by omega) (by decide) (by decide) rfl]; exact congrArg nI (by omega))]
              refine a_iald2 hx hb hKa hPa (by omega) dL_days_224 ?_
              rw [show ((nI ((mu (t_lpf (t_d0 (t_dyf T k)) a) 7 a ((t_lpf (t_d0 (t_dyf T k)) a) 7 a + 65536)) 2 ((t_lpf (t_d0 (t_dyf T k)) a) 7 a % 4)) - 1) : Int32) = nI ((t_lpf (t_d0 (t_dyf T k)) a) 2 ((t_lpf (t_d0 (t_dyf T k)) a) 7 a % 4) - 1) from by rw [show (mu (t_lpf (t_d0 (t_dyf T k)) a) 7 a ((t_lpf (t_d0 (t_dyf T k)) a) 7 a + 65536)) 2 = (t_lpf (t_d0 (t_dyf T k)) a) 2 from by funext k9; simp [mu], l2]; exact nI_pred _]
              refine n_iadd hx hb dL_days_225 (z := ((t_lpf (t_d0 (t_dyf T k)) a) 10 ((t_lpf (t_d0 (t_dyf T k)) a) 7 a / 4 % 4)) + ((t_lpf (t_d0 (t_dyf T k)) a) 2 ((t_lpf (t_d0 (t_dyf T k)) a) 7 a % 4) - 1)) rfl ?_
              refine b_iast (f := 10) (n := 4) (v := ((t_lpf (t_d0 (t_dyf T k)) a) 10 ((t_lpf (t_d0 (t_dyf T k)) a) 7 a / 4 % 4)) + ((t_lpf (t_d0 (t_dyf T k)) a) 2 ((t_lpf (t_d0 (t_dyf T k)) a) 7 a % 4) - 1)) hx hb hKa hPa hPw hdB hc.dis hAB hS (by decide) rfl (by omega) (by decide) (aset_10 _ _ _ _ _) dL_days_226 (fun H1 locs1 hPa1 hPw1 hS1 => ?_)
              clear hPa hPw hS
              have hPa := hPa1; have hPw := hPw1; have hS := hS1; clear hPa1 hPw1 hS1
              refine lv_aload hx hb dL_days_227 (lv_at hl 8 rfl) ?_
              refine lv_aload hx hb dL_days_229 (lv_at hl 12 rfl) ?_
              refine lv_iconst (v := nI 3) hx hb dL_days_231 (by decide) ?_
              refine a_iald (f := 11) (n := 7) hx hb hKa hPa rfl (by decide) (by decide) dL_days_232 ?_
              rw [show (mu (mu (t_lpf (t_d0 (t_dyf T k)) a) 7 a ((t_lpf (t_d0 (t_dyf T k)) a) 7 a + 65536)) 10 ((t_lpf (t_d0 (t_dyf T k)) a) 7 a / 4 % 4) (((t_lpf (t_d0 (t_dyf T k)) a) 10 ((t_lpf (t_d0 (t_dyf T k)) a) 7 a / 4 % 4)) + ((t_lpf (t_d0 (t_dyf T k)) a) 2 ((t_lpf (t_d0 (t_dyf T k)) a) 7 a % 4) - 1))) 11 3 = (t_lpf (t_d0 (t_dyf T k)) a) 11 3 from (by simp [mu])]
              refine lv_iconst (v := nI 4) hx hb dL_days_233 (by decide) ?_
              have hT2 : LT (mu (mu (t_lpf (t_d0 (t_dyf T k)) a) 7 a ((t_lpf (t_d0 (t_dyf T k)) a) 7 a + 65536)) 10 ((t_lpf (t_d0 (t_dyf T k)) a) 7 a / 4 % 4) (((t_lpf (t_d0 (t_dyf T k)) a) 10 ((t_lpf (t_d0 (t_dyf T k)) a) 7 a / 4 % 4)) + ((t_lpf (t_d0 (t_dyf T k)) a) 2 ((t_lpf (t_d0 (t_dyf T k)) a) 7 a % 4) - 1))) := ⟨LTb_mu (LTb_mu hTa.1 (by show _ ≤ 16777215; have f1 : (t_lpf (t_d0 (t_dyf T k)) a) 7 a ≤ 16777215 := hTa.1 7 a; have f2 := hTm.1 7 a; simp only [t_lpm, mu, lcap] at f2; simpa using f2)) (by have f2 := hTm.1 10 ((t_lpf (t_d0 (t_dyf T k)) a) 7 a / 4 % 4); simp only [t_lpm, mu] at f2; simpa using f2), by simp [mu]; have := hTa.2.1; omega, by simp [mu]; omega, by simp [mu]; omega, by simp [mu]; have := hTa.2.2.2.2.1; omega, by simp [mu]; have := hTa.2.2.2.2.2; omega⟩
              refine lv_aload hx hb dL_days_234 (lv_at hl 9 rfl) ?_
              refine lv_iload hx hb dL_days_236 (lv_at hl 16 rfl) ?_
              refine vp_callSi (W.runS (As := [.ref (ad 7), .int (nI a)]) (rest := [.int (nI 4), .int (nI ((t_lpf (t_d0 (t_dyf T k)) a) 11 3)), .ref (ad 6)]) ⟨hx, hb, hml, hown, hts⟩ (ch_bidOf l D ad cI (mu (mu (t_lpf (t_d0 (t_dyf T k)) a) 7 a ((t_lpf (t_d0 (t_dyf T k)) a) 7 a + 65536)) 10 ((t_lpf (t_d0 (t_dyf T k)) a) 7 a / 4 % 4) (((t_lpf (t_d0 (t_dyf T k)) a) 10 ((t_lpf (t_d0 (t_dyf T k)) a) 7 a / 4 % 4)) + ((t_lpf (t_d0 (t_dyf T k)) a) 2 ((t_lpf (t_d0 (t_dyf T k)) a) 7 a % 4) - 1))) hT2 a (by omega)) (va_cwS 2 hts gL_days_L_bidOf rfl rfl rfl kd_L_bidOf ⟨Nat.le_of_ble_eq_true rfl, Nat.le_of_ble_eq_true rfl⟩) ⟨aB_blind, a_pre hKa hPa _⟩ rfl rfl hl.1 rfl (lv_room (Nat.le_of_ble_eq_true rfl)) dL_days_238 ⟨Nat.le_of_ble_eq_true rfl, Nat.le_of_ble_eq_true rfl⟩) (fun r_57 hr_57 => ?_)
              subst hr_57
              rw [show t_bo (mu (mu (t_lpf (t_d0 (t_dyf T k)) a) 7 a ((t_lpf (t_d0 (t_dyf T k)) a) 7 a + 65536)) 10 ((t_lpf (t_d0 (t_dyf T k)) a) 7 a / 4 % 4) (((t_lpf (t_d0 (t_dyf T k)) a) 10 ((t_lpf (t_d0 (t_dyf T k)) a) 7 a / 4 % 4)) + ((t_lpf (t_d0 (t_dyf T k)) a) 2 ((t_lpf (t_d0 (t_dyf T k)) a) 7 a % 4) - 1))) a = t_bo (t_lpf (t_d0 (t_dyf T k)) a) a from t_bo_c (by simp [mu]; omega)]
              have bo9 := (La.bo Ma ha16).2.1
              refine n_imul hx hb dL_days_241 (z := 4 * (t_bo (t_lpf (t_d0 (t_dyf T k)) a) a)) rfl ?_
              refine b_iast (f := 6) (n := 60) (v := 4 * (t_bo (t_lpf (t_d0 (t_dyf T k)) a) a)) hx hb hKa hPa hPw hdB hc.dis hAB hS (by decide) rfl (by have f1 := La3; omega) (by decide) (aset_6 _ _ _ _ _) dL_days_242 (fun H1 locs1 hPa1 hPw1 hS1 => ?_)
              clear hPa hPw hS
              have hPa := hPa1; have hPw := hPw1; have hS := hS1; clear hPa1 hPw1 hS1
              refine lv_aload hx hb dL_days_243 (lv_at hl 12 rfl) ?_
              refine lv_iconst (v := nI 3) hx hb dL_days_245 (by decide) ?_
              refine lv_dup2_11 hx hb dL_days_246 rfl rfl ?_
              refine a_iald (f := 11) (n := 7) hx hb hKa hPa rfl (by decide) (by decide) dL_days_247 ?_
              rw [show (mu (mu (mu (t_lpf (t_d0 (t_dyf T k)) a) 7 a ((t_lpf (t_d0 (t_dyf T k)) a) 7 a + 65536)) 10 ((t_lpf (t_d0 (t_dyf T k)) a) 7 a / 4 % 4) (((t_lpf (t_d0 (t_dyf T k)) a) 10 ((t_lpf (t_d0 (t_dyf T k)) a) 7 a / 4 % 4)) + ((t_lpf (t_d0 (t_dyf T k)) a) 2 ((t_lpf (t_d0 (t_dyf T k)) a) 7 a % 4) - 1))) 6 ((t_lpf (t_d0 (t_dyf T k)) a) 11 3) (4 * (t_bo (t_lpf (t_d0 (t_dyf T k)) a) a))) 11 3 = (t_lpf (t_d0 (t_dyf T k)) a) 11 3 from (by simp [mu])]
              refine lv_iconst (v := nI 1) hx hb dL_days_248 (by decide) ?_
              refine n_iadd hx hb dL_days_249 (z := ((t_lpf (t_d0 (t_dyf T k)) a) 11 3) + 1) rfl ?_
              refine b_iast (f := 11) (n := 7) (v := ((t_lpf (t_d0 (t_dyf T k)) a) 11 3) + 1) hx hb hKa hPa hPw hdB hc.dis hAB hS (by decide) rfl (by decide) (by decide) (aset_11 _ _ _ _ _) dL_days_250 (fun H1 locs1 hPa1 hPw1 hS1 => ?_)
              clear hPa hPw hS
              have hPa := hPa1; have hPw := hPw1; have hS := hS1; clear hPa1 hPw1 hS1
              refine n_iinc (k := 13) (lv' := [(13, .int (nI (t_dyn T k + t_lpn (t_d0 (t_dyf T k)) a + 1))), (0, .ref h), (1, .int (nI dd)), (2, .ref (ad 0)), (3, .ref (ad 1)), (4, .ref (ad 2)), (5, .ref (ad 3)), (6, .ref (ad 4)), (7, .ref (ad 5)), (8, .ref (ad 6)), (9, .ref (ad 7)), (10, .ref (ad 8)), (11, .ref (ad 10)), (12, .ref (ad 11)), (14, .int (nI k)), (15, .int (nI (t_d0 (t_dyf T k) 11 4))), (16, .int (nI a))]) hx hb dL_days_251 hl rfl (by decide) rfl (fun ls hl => ?_)
              replace hPa : va_P D vwCl (aws ad cI (t_lpm (t_lpf (t_d0 (t_dyf T k)) a) a)) _ := hPa
              have w16 : (t_lpm (t_lpf (t_d0 (t_dyf T k)) a) a) 11 4 < 32 := by have := Lm.1.2.2.2.2.1; rw [this]; simp [mu]; omega
              refine lv_aload_n hx hb dL_days_254 rfl (lv_at hl 4 rfl) ?_
              refine lv_aload hx hb dL_days_255 (lv_at hl 6 rfl) ?_
              refine lv_aload hx hb dL_days_257 (lv_at hl 7 rfl) ?_
              refine lv_aload hx hb dL_days_259 (lv_at hl 8 rfl) ?_
              refine lv_aload hx hb dL_days_261 (lv_at hl 9 rfl) ?_
              refine lv_aload hx hb dL_days_263 (lv_at hl 10 rfl) ?_
              refine lv_aload hx hb dL_days_265 (lv_at hl 13 rfl) ?_
              refine lv_aload hx hb dL_days_267 (lv_at hl 10 rfl) ?_
              refine lv_iload hx hb dL_days_269 (lv_at hl 16 rfl) ?_
              refine a_iald (f := 7) (n := 32) hx hb hKa hPa rfl (by omega) (by decide) dL_days_271 ?_
              rw [show (t_lpm (t_lpf (t_d0 (t_dyf T k)) a) a) 7 a = (t_lpf (t_d0 (t_dyf T k)) a) 7 a + 65536 from (by simp [t_lpm, mu])]
              refine lv_iconst (v := nI 3) hx hb dL_days_272 (by decide) ?_
              refine lv_iand hx hb dL_days_273 ?_
              rw [show (nI ((t_lpf (t_d0 (t_dyf T k)) a) 7 a + 65536)) &&& (nI 3) = nI ((t_lpf (t_d0 (t_dyf T k)) a) 7 a % 4) from (by rw [n_andK (k := 2) (by omega) (by decide) (by decide) rfl]; exact congrArg nI (by omega))]
              refine va_calli (va_runS (As := [.ref (ad 1), .ref (ad 3), .ref (ad 4), .ref (ad 5), .ref (ad 6), .ref (ad 7), .ref (ad 11), .int (nI ((t_lpf (t_d0 (t_dyf T k)) a) 7 a % 4))]) (rest := []) ⟨hx, hb, hml, hown, hts⟩ (ch_give l D ad cI (t_lpm (t_lpf (t_d0 (t_dyf T k)) a) a) hTm hdB ((t_lpf (t_d0 (t_dyf T k)) a) 7 a % 4) (by omega) (by exact Lm.w100 Mm (by have := lot9.2.2.2.1; rw [mu_nf _ (by decide), mu_nf _ (by decide), mu_nf _ (by decide)]; omega)) (by exact Lm.tp) (by exact w16)) (va_cwS 8 hts gL_days_L_give rfl rfl rfl kd_L_give ⟨Nat.le_of_ble_eq_true rfl, Nat.le_of_ble_eq_true rfl⟩) ⟨aB_blind, a_pre hKa hPa _⟩ rfl rfl hl.1 rfl (lv_room (Nat.le_of_ble_eq_true rfl)) dL_days_274 ⟨by show 0 + 0 ≤ 243; omega, by show 0 + 0 ≤ 12138; omega⟩) hS (fun _ _ h9 => Or.inr h9) (fun _ h9 => Or.inr h9) (fun r_58 u9 U8 H_60 locs_61 ht hvm hr_59 hB hz1 hk1 hS1 => ?_)
              replace hB : va_P D vwCl (aws ad cI (t_gv (t_lpm (t_lpf (t_d0 (t_dyf T k)) a) a) ((t_lpf (t_d0 (t_dyf T k)) a) 7 a % 4))) U8.heap := hB
              rw [ht] at hB
              replace hPw := cP_keepB hPw hc.dis hAB hk1
              clear hPa hS
              have hPa := hB
              have hS := hS1
              clear hB hS1 hz1 hk1 hvm ht U8
              subst hr_59
              refine W.widen (k := 0) (n := 0) (by omega) (by omega) ?_
              refine lv_pop hx hb dL_days_277 rfl ?_
              replace hPa : va_P D vwCl (aws ad cI (t_lp1 (t_lpf (t_d0 (t_dyf T k)) a) a)) _ := hPa
              refine n_iinc (k := 16) (lv' := [(16, .int (nI (a + 1))), (13, .int (nI (t_dyn T k + t_lpn (t_d0 (t_dyf T k)) a + 1))), (0, .ref h), (1, .int (nI dd)), (2, .ref (ad 0)), (3, .ref (ad 1)), (4, .ref (ad 2)), (5, .ref (ad 3)), (6, .ref (ad 4)), (7, .ref (ad 5)), (8, .ref (ad 6)), (9, .ref (ad 7)), (10, .ref (ad 8)), (11, .ref (ad 10)), (12, .ref (ad 11)), (14, .int (nI k)), (15, .int (nI (t_d0 (t_dyf T k) 11 4)))]) hx hb dL_days_278 hl rfl (by decide) rfl (fun ls hl => ?_)
              refine lv_goto (tgt := 138) hx hb dL_days_281 (by decide) ?_
              have e_62 : t_dyn T k + t_lpn (t_d0 (t_dyf T k)) (a + 1) = t_dyn T k + t_lpn (t_d0 (t_dyf T k)) a + 1 := by (rw [t_lpn, if_pos ⟨k1_9, k2_9, k3_9⟩]; rfl)
              have eT_63 : t_lpf (t_d0 (t_dyf T k)) (a + 1) = t_lp1 (t_lpf (t_d0 (t_dyf T k)) a) a := by (rw [t_lpf, if_pos ⟨k1_9, k2_9, k3_9⟩])
              refine ih_42 (by omega) _ _ ls (by rw [eT_63]; exact hPa) hPw hS ?_
              show lv_has ls 17 [(0, .ref h), (1, .int (nI dd)), (2, .ref (ad 0)), (3, .ref (ad 1)), (4, .ref (ad 2)), (5, .ref (ad 3)), (6, .ref (ad 4)), (7, .ref (ad 5)), (8, .ref (ad 6)), (9, .ref (ad 7)), (10, .ref (ad 8)), (11, .ref (ad 10)), (12, .ref (ad 11)), (13, .int (nI (t_dyn T k + t_lpn (t_d0 (t_dyf T k)) (a + 1)))), (14, .int (nI k)), (15, .int (nI (t_d0 (t_dyf T k) 11 4))), (16, .int (nI (a + 1)))]
              rw [e_62]
              exact lv_sub hl [2, 3, 4, 5, 6, 7, 8, 9, 10, 11, 12, 13, 14, 1, 15, 16, 0] rfl
            · have k3_8 : (t_lpf (t_d0 (t_dyf T k)) a) 11 0 < t_su (t_lpf (t_d0 (t_dyf T k)) a) a + 30 := c_56
              refine lv_goto (tgt := 278) hx hb dL_days_189 (by decide) ?_
              refine n_iinc (k := 16) (lv' := [(16, .int (nI (a + 1))), (0, .ref h), (1, .int (nI dd)), (2, .ref (ad 0)), (3, .ref (ad 1)), (4, .ref (ad 2)), (5, .ref (ad 3)), (6, .ref (ad 4)), (7, .ref (ad 5)), (8, .ref (ad 6)), (9, .ref (ad 7)), (10, .ref (ad 8)), (11, .ref (ad 10)), (12, .ref (ad 11)), (13, .int (nI (t_dyn T k + t_lpn (t_d0 (t_dyf T k)) a))), (14, .int (nI k)), (15, .int (nI (t_d0 (t_dyf T k) 11 4)))]) hx hb dL_days_278 hl rfl (by decide) rfl (fun ls hl => ?_)
              refine lv_goto (tgt := 138) hx hb dL_days_281 (by decide) ?_
              have e_64 : t_dyn T k + t_lpn (t_d0 (t_dyf T k)) (a + 1) = t_dyn T k + t_lpn (t_d0 (t_dyf T k)) a := by (rw [t_lpn, if_neg (fun z => absurd z.2.2 (Nat.not_le.mpr k3_8))]; rfl)
              have eT_65 : t_lpf (t_d0 (t_dyf T k)) (a + 1) = t_lpf (t_d0 (t_dyf T k)) a := by (rw [t_lpf, if_neg (fun z => absurd z.2.2 (Nat.not_le.mpr k3_8))])
              refine ih_42 (by omega) _ _ ls (by rw [eT_65]; exact hPa) hPw hS ?_
              show lv_has ls 17 [(0, .ref h), (1, .int (nI dd)), (2, .ref (ad 0)), (3, .ref (ad 1)), (4, .ref (ad 2)), (5, .ref (ad 3)), (6, .ref (ad 4)), (7, .ref (ad 5)), (8, .ref (ad 6)), (9, .ref (ad 7)), (10, .ref (ad 8)), (11, .ref (ad 10)), (12, .ref (ad 11)), (13, .int (nI (t_dyn T k + t_lpn (t_d0 (t_dyf T k)) (a + 1)))), (14, .int (nI k)), (15, .int (nI (t_d0 (t_dyf T k) 11 4))), (16, .int (nI (a + 1)))]
              rw [e_64]
              exact lv_sub hl [1, 2, 3, 4, 5, 6, 7, 8, 9, 10, 11, 12, 13, 14, 15, 16, 0] rfl
    · refine lv_iload hx hb dL_days_30 (lv_at hl 15 rfl) ?_
      refine lv_bipush (v := nI 8) hx hb dL_days_32 (by decide) ?_
      refine n_idiv hx hb dL_days_34 (z := q / 8) (by omega) (by decide) (by decide) rfl ?_
      refine lv_aload hx hb dL_days_35 (lv_at hl 12 rfl) ?_
      refine lv_iconst (v := nI 1) hx hb dL_days_37 (by decide) ?_
      refine a_iald (f := 11) (n := 7) hx hb hKa hPa rfl (by decide) (by decide) dL_days_38 ?_
      refine n_icmp_ge (tgt := 123) hx hb dL_days_39 (by decide) (by omega) (by have f1 : (t_oqf (mu (t_dyf T k) 11 0 (t_dyf T k 11 0 + 1)) q) 11 1 ≤ 2000 := hTq.1 11 1; have f2 : (t_oqf (mu (t_dyf T k) 11 0 (t_dyf T k 11 0 + 1)) q) 11 1 ≤ 2 := hTq.2.1; omega) (fun c_66 => ?_) (fun c_66 => ?_)
      · refine n_iinc (k := 15) (lv' := [(15, .int (nI (q + 1))), (0, .ref h), (1, .int (nI dd)), (2, .ref (ad 0)), (3, .ref (ad 1)), (4, .ref (ad 2)), (5, .ref (ad 3)), (6, .ref (ad 4)), (7, .ref (ad 5)), (8, .ref (ad 6)), (9, .ref (ad 7)), (10, .ref (ad 8)), (11, .ref (ad 10)), (12, .ref (ad 11)), (13, .int (nI (t_dyn T k))), (14, .int (nI k))]) hx hb dL_days_123 hl rfl (by decide) rfl (fun ls hl => ?_)
        refine lv_goto (tgt := 23) hx hb dL_days_126 (by decide) ?_
        have eT_67 : t_oqf (mu (t_dyf T k) 11 0 (t_dyf T k 11 0 + 1)) (q + 1) = t_oqf (mu (t_dyf T k) 11 0 (t_dyf T k 11 0 + 1)) q := by first | (rw [t_oqf, if_neg (fun z => absurd z.1 (by omega))]; done) | (rw [t_oqf, if_neg (fun z => absurd z.2 (by assumption))]; done) | (rw [t_oqf, if_pos ⟨by omega, by assumption⟩])
        refine ih_35 (by omega) _ _ ls (by rw [eT_67]; exact hPa) hPw hS ?_
        show lv_has ls 17 [(0, .ref h), (1, .int (nI dd)), (2, .ref (ad 0)), (3, .ref (ad 1)), (4, .ref (ad 2)), (5, .ref (ad 3)), (6, .ref (ad 4)), (7, .ref (ad 5)), (8, .ref (ad 6)), (9, .ref (ad 7)), (10, .ref (ad 8)), (11, .ref (ad 10)), (12, .ref (ad 11)), (13, .int (nI (t_dyn T k))), (14, .int (nI k)), (15, .int (nI (q + 1)))]
        exact lv_sub hl [1, 2, 3, 4, 5, 6, 7, 8, 9, 10, 11, 12, 13, 14, 15, 0] rfl
      · refine lv_aload_n hx hb dL_days_42 rfl (lv_at hl 3 rfl) ?_
        refine lv_iload hx hb dL_days_43 (lv_at hl 15 rfl) ?_
        refine lv_bipush (v := nI 8) hx hb dL_days_45 (by decide) ?_
        refine n_idiv hx hb dL_days_47 (z := q / 8) (by omega) (by decide) (by decide) rfl ?_
        refine a_iald (f := 1) (n := 2) hx hb hKa hPa rfl (by omega) (by decide) dL_days_48 ?_
        refine lv_sipush (v := nI 1023) hx hb dL_days_49 (by decide) ?_
        refine lv_iand hx hb dL_days_52 ?_
        rw [show (nI ((t_oqf (mu (t_dyf T k) 11 0 (t_dyf T k 11 0 + 1)) q) 1 (q / 8))) &&& (nI 1023) = nI (((t_oqf (mu (t_dyf T k) 11 0 (t_dyf T k 11 0 + 1)) q) 1 (q / 8)) % 1024) from n_andK (k := 10) (by have f1 : (t_oqf (mu (t_dyf T k) 11 0 (t_dyf T k 11 0 + 1)) q) 1 (q / 8) ≤ 268435455 := hTq.1 1 (q / 8); omega) (by decide) (by decide) rfl]
        refine lv_aload hx hb dL_days_53 (lv_at hl 12 rfl) ?_
        refine lv_iconst (v := nI 0) hx hb dL_days_55 (by decide) ?_
        refine a_iald (f := 11) (n := 7) hx hb hKa hPa rfl (by decide) (by decide) dL_days_56 ?_
        refine n_icmp_eq (tgt := 63) hx hb dL_days_57 (by decide) (by have f1 : (t_oqf (mu (t_dyf T k) 11 0 (t_dyf T k 11 0 + 1)) q) 1 (q / 8) ≤ 268435455 := hTq.1 1 (q / 8); omega) (by have f1 : (t_oqf (mu (t_dyf T k) 11 0 (t_dyf T k 11 0 + 1)) q) 11 0 ≤ 2000 := hTq.1 11 0; omega) (fun c_68 => ?_) (fun c_68 => ?_)
        · refine lv_iconst (v := nI 0) hx hb dL_days_63 (by decide) ?_
          refine lv_istore (lv' := [(16, .int (nI 0)), (0, .ref h), (1, .int (nI dd)), (2, .ref (ad 0)), (3, .ref (ad 1)), (4, .ref (ad 2)), (5, .ref (ad 3)), (6, .ref (ad 4)), (7, .ref (ad 5)), (8, .ref (ad 6)), (9, .ref (ad 7)), (10, .ref (ad 8)), (11, .ref (ad 10)), (12, .ref (ad 11)), (13, .int (nI (t_dyn T k))), (14, .int (nI k)), (15, .int (nI q))]) hx hb dL_days_64 hl (by decide) rfl (fun ls hl => ?_)
          replace hPa : va_P D vwCl (aws ad cI (t_okf (t_oqf (mu (t_dyf T k) 11 0 (t_dyf T k 11 0 + 1)) q) q 0)) _ := hPa
          refine b_loop (D := D) (ad := ad) (cI := cI) (A := fun q => A q ∨ B q) (ws := ws) (n := 6) (nL := 17) (fun kd => [(0, .ref h), (1, .int (nI dd)), (2, .ref (ad 0)), (3, .ref (ad 1)), (4, .ref (ad 2)), (5, .ref (ad 3)), (6, .ref (ad 4)), (7, .ref (ad 5)), (8, .ref (ad 6)), (9, .ref (ad 7)), (10, .ref (ad 8)), (11, .ref (ad 10)), (12, .ref (ad 11)), (13, .int (nI (t_dyn T k))), (14, .int (nI k)), (15, .int (nI q)), (16, .int (nI kd))]) (fun kd => t_okf (t_oqf (mu (t_dyf T k) 11 0 (t_dyf T k 11 0 + 1)) q) q kd) (fun kd hb_69 ih_70 H_71 locs_72 ls hPa9 hPw9 hS9 hl => ?_) 0 (by omega) _ _ ls hPa hPw hS (lv_sub hl [1, 2, 3, 4, 5, 6, 7, 8, 9, 10, 11, 12, 13, 14, 15, 16, 0] rfl)
          clear hPa hPw hS
          have hPa := hPa9; have hPw := hPw9; have hS := hS9; clear hPa9 hPw9 hS9
          have hTo : LT (t_okf (t_oqf (mu (t_dyf T k) 11 0 (t_dyf T k 11 0 + 1)) q) q kd) := LT_okf hTq q kd
          refine lv_iload hx hb dL_days_66 (lv_at hl 16 rfl) ?_
          refine lv_bipush (v := nI 6) hx hb dL_days_68 (by decide) ?_
          refine n_icmp_ge (tgt := 123) hx hb dL_days_70 (by decide) (by omega) (by decide) (fun c_73 => ?_) (fun c_73 => ?_)
          · obtain rfl : 6 = kd := by omega
            refine n_iinc (k := 15) (lv' := [(15, .int (nI (q + 1))), (0, .ref h), (1, .int (nI dd)), (2, .ref (ad 0)), (3, .ref (ad 1)), (4, .ref (ad 2)), (5, .ref (ad 3)), (6, .ref (ad 4)), (7, .ref (ad 5)), (8, .ref (ad 6)), (9, .ref (ad 7)), (10, .ref (ad 8)), (11, .ref (ad 10)), (12, .ref (ad 11)), (13, .int (nI (t_dyn T k))), (14, .int (nI k)), (16, .int (nI 6))]) hx hb dL_days_123 hl rfl (by decide) rfl (fun ls hl => ?_)
            refine lv_goto (tgt := 23) hx hb dL_days_126 (by decide) ?_
            have eT_74 : t_oqf (mu (t_dyf T k) 11 0 (t_dyf T k 11 0 + 1)) (q + 1) = t_okf (t_oqf (mu (t_dyf T k) 11 0 (t_dyf T k 11 0 + 1)) q) q 6 := by first | (rw [t_oqf, if_neg (fun z => absurd z.1 (by omega))]; done) | (rw [t_oqf, if_neg (fun z => absurd z.2 (by assumption))]; done) | (rw [t_oqf, if_pos ⟨by omega, by assumption⟩])
            refine ih_35 (by omega) _ _ ls (by rw [eT_74]; exact hPa) hPw hS ?_
            show lv_has ls 17 [(0, .ref h), (1, .int (nI dd)), (2, .ref (ad 0)), (3, .ref (ad 1)), (4, .ref (ad 2)), (5, .ref (ad 3)), (6, .ref (ad 4)), (7, .ref (ad 5)), (8, .ref (ad 6)), (9, .ref (ad 7)), (10, .ref (ad 8)), (11, .ref (ad 10)), (12, .ref (ad 11)), (13, .int (nI (t_dyn T k))), (14, .int (nI k)), (15, .int (nI (q + 1)))]
            exact lv_sub hl [1, 2, 3, 4, 5, 6, 7, 8, 9, 10, 11, 12, 13, 14, 15, 0] rfl
          · refine lv_aload_n hx hb dL_days_73 rfl (lv_at hl 3 rfl) ?_
            refine lv_iload hx hb dL_days_74 (lv_at hl 15 rfl) ?_
            refine lv_bipush (v := nI 8) hx hb dL_days_76 (by decide) ?_
            refine n_idiv hx hb dL_days_78 (z := q / 8) (by omega) (by decide) (by decide) rfl ?_
            refine a_iald (f := 1) (n := 2) hx hb hKa hPa rfl (by omega) (by decide) dL_days_79 ?_
            refine lv_bipush (v := nI 10) hx hb dL_days_80 (by decide) ?_
            refine lv_iload hx hb dL_days_82 (lv_at hl 16 rfl) ?_
            refine n_iadd hx hb dL_days_84 (z := 10 + kd) rfl ?_
            refine lv_ishr hx hb dL_days_85 ?_
            rw [show (nI ((t_okf (t_oqf (mu (t_dyf T k) 11 0 (t_dyf T k 11 0 + 1)) q) q kd) 1 (q / 8))) >>> ((nI (10 + kd)) &&& 31) = nI (((t_okf (t_oqf (mu (t_dyf T k) 11 0 (t_dyf T k 11 0 + 1)) q) q kd) 1 (q / 8)) / 2 ^ (10 + kd)) from n_shrK (by have f1 : (t_okf (t_oqf (mu (t_dyf T k) 11 0 (t_dyf T k 11 0 + 1)) q) q kd) 1 (q / 8) ≤ 268435455 := hTo.1 1 (q / 8); omega) (by omega) rfl]
            refine lv_iconst (v := nI 1) hx hb dL_days_86 (by decide) ?_
            refine lv_iand hx hb dL_days_87 ?_
            rw [show (nI (((t_okf (t_oqf (mu (t_dyf T k) 11 0 (t_dyf T k 11 0 + 1)) q) q kd) 1 (q / 8)) / 2 ^ (10 + kd))) &&& (nI 1) = nI ((((t_okf (t_oqf (mu (t_dyf T k) 11 0 (t_dyf T k 11 0 + 1)) q) q kd) 1 (q / 8)) / 2 ^ (10 + kd)) % 2) from n_andK (k := 1) (by have f1 : (t_okf (t_oqf (mu (t_dyf T k) 11 0 (t_dyf T k 11 0 + 1)) q) q kd) 1 (q / 8) ≤ 268435455 := hTo.1 1 (q / 8); have f2 := (Nat.div_le_self ((t_okf (t_oqf (mu (t_dyf T k) 11 0 (t_dyf T k 11 0 + 1)) q) q kd) 1 (q / 8)) (2 ^ (10 + kd))); omega) (by decide) (by decide) rfl]
            refine lv_iconst (v := nI 1) hx hb dL_days_88 (by decide) ?_
            refine n_icmp_ne (tgt := 117) hx hb dL_days_89 (by decide) (by have f1 : (t_okf (t_oqf (mu (t_dyf T k) 11 0 (t_dyf T k 11 0 + 1)) q) q kd) 1 (q / 8) ≤ 268435455 := hTo.1 1 (q / 8); have f2 := (Nat.div_le_self ((t_okf (t_oqf (mu (t_dyf T k) 11 0 (t_dyf T k 11 0 + 1)) q) q kd) 1 (q / 8)) (2 ^ (10 + kd))); omega) (by decide) (fun c_75 => ?_) (fun c_75 => ?_)
            · refine n_iinc (k := 16) (lv' := [(16, .int (nI (kd + 1))), (0, .ref h), (1, .int (nI dd)), (2, .ref (ad 0)), (3, .ref (ad 1)), (4, .ref (ad 2)), (5, .ref (ad 3)), (6, .ref (ad 4)), (7, .ref (ad 5)), (8, .ref (ad 6)), (9, .ref (ad 7)), (10, .ref (ad 8)), (11, .ref (ad 10)), (12, .ref (ad 11)), (13, .int (nI (t_dyn T k))), (14, .int (nI k)), (15, .int (nI q))]) hx hb dL_days_117 hl rfl (by decide) rfl (fun ls hl => ?_)
              refine lv_goto (tgt := 66) hx hb dL_days_120 (by decide) ?_
              have eT_76 : t_okf (t_oqf (mu (t_dyf T k) 11 0 (t_dyf T k 11 0 + 1)) q) q (kd + 1) = t_okf (t_oqf (mu (t_dyf T k) 11 0 (t_dyf T k 11 0 + 1)) q) q kd := by first | (rw [t_okf, if_pos ⟨by assumption, by assumption⟩]; done) | (rw [t_okf, if_neg (fun z => absurd z.1 (by assumption))]; done) | (rw [t_okf, if_neg (fun z => absurd z.2 (by omega))]; done)
              refine ih_70 (by omega) _ _ ls (by rw [eT_76]; exact hPa) hPw hS ?_
              show lv_has ls 17 [(0, .ref h), (1, .int (nI dd)), (2, .ref (ad 0)), (3, .ref (ad 1)), (4, .ref (ad 2)), (5, .ref (ad 3)), (6, .ref (ad 4)), (7, .ref (ad 5)), (8, .ref (ad 6)), (9, .ref (ad 7)), (10, .ref (ad 8)), (11, .ref (ad 10)), (12, .ref (ad 11)), (13, .int (nI (t_dyn T k))), (14, .int (nI k)), (15, .int (nI q)), (16, .int (nI (kd + 1)))]
              exact lv_sub hl [1, 2, 3, 4, 5, 6, 7, 8, 9, 10, 11, 12, 13, 14, 15, 16, 0] rfl
            · refine lv_aload_n hx hb dL_days_92 rfl (lv_at hl 2 rfl) ?_
              refine lv_bipush (v := nI 6) hx hb dL_days_93 (by decide) ?_
              refine lv_iload hx hb dL_days_95 (lv_at hl 15 rfl) ?_
              refine lv_iconst (v := nI 4) hx hb dL_days_97 (by decide) ?_
              refine n_irem hx hb dL_days_98 (z := q % 4) (by omega) (by decide) (by decide) rfl ?_
              refine n_imul hx hb dL_days_99 (z := 6 * (q % 4)) rfl ?_
              refine lv_iload hx hb dL_days_100 (lv_at hl 16 rfl) ?_
              refine n_iadd hx hb dL_days_102 (z := (6 * (q % 4)) + kd) rfl ?_
              refine a_iald (f := 0) (n := 24) hx hb hKa hPa rfl (by omega) (by decide) dL_days_103 ?_
              refine lv_aload hx hb dL_days_104 (lv_at hl 12 rfl) ?_
              refine lv_iconst (v := nI 0) hx hb dL_days_106 (by decide) ?_
              refine a_iald (f := 11) (n := 7) hx hb hKa hPa rfl (by decide) (by decide) dL_days_107 ?_
              refine n_icmp_gt (tgt := 117) hx hb dL_days_108 (by decide) (by have f1 : (t_okf (t_oqf (mu (t_dyf T k) 11 0 (t_dyf T k 11 0 + 1)) q) q kd) 0 ((6 * (q % 4)) + kd) ≤ 2001 := hTo.1 0 ((6 * (q % 4)) + kd); omega) (by have f1 : (t_okf (t_oqf (mu (t_dyf T k) 11 0 (t_dyf T k 11 0 + 1)) q) q kd) 11 0 ≤ 2000 := hTo.1 11 0; omega) (fun c_77 => ?_) (fun c_77 => ?_)
              · refine n_iinc (k := 16) (lv' := [(16, .int (nI (kd + 1))), (0, .ref h), (1, .int (nI dd)), (2, .ref (ad 0)), (3, .ref (ad 1)), (4, .ref (ad 2)), (5, .ref (ad 3)), (6, .ref (ad 4)), (7, .ref (ad 5)), (8, .ref (ad 6)), (9, .ref (ad 7)), (10, .ref (ad 8)), (11, .ref (ad 10)), (12, .ref (ad 11)), (13, .int (nI (t_dyn T k))), (14, .int (nI k)), (15, .int (nI q))]) hx hb dL_days_117 hl rfl (by decide) rfl (fun ls hl => ?_)
                refine lv_goto (tgt := 66) hx hb dL_days_120 (by decide) ?_
                have eT_78 : t_okf (t_oqf (mu (t_dyf T k) 11 0 (t_dyf T k 11 0 + 1)) q) q (kd + 1) = t_okf (t_oqf (mu (t_dyf T k) 11 0 (t_dyf T k 11 0 + 1)) q) q kd := by first | (rw [t_okf, if_pos ⟨by assumption, by assumption⟩]; done) | (rw [t_okf, if_neg (fun z => absurd z.1 (by assumption))]; done) | (rw [t_okf, if_neg (fun z => absurd z.2 (by omega))]; done)
                refine ih_70 (by omega) _ _ ls (by rw [eT_78]; exact hPa) hPw hS ?_
                show lv_has ls 17 [(0, .ref h), (1, .int (nI dd)), (2, .ref (ad 0)), (3, .ref (ad 1)), (4, .ref (ad 2)), (5, .ref (ad 3)), (6, .ref (ad 4)), (7, .ref (ad 5)), (8, .ref (ad 6)), (9, .ref (ad 7)), (10, .ref (ad 8)), (11, .ref (ad 10)), (12, .ref (ad 11)), (13, .int (nI (t_dyn T k))), (14, .int (nI k)), (15, .int (nI q)), (16, .int (nI (kd + 1)))]
                exact lv_sub hl [1, 2, 3, 4, 5, 6, 7, 8, 9, 10, 11, 12, 13, 14, 15, 16, 0] rfl
              · refine lv_aload hx hb dL_days_111 (lv_at hl 7 rfl) ?_
                refine lv_iload hx hb dL_days_113 (lv_at hl 15 rfl) ?_
                refine lv_iconst (v := nI 1) hx hb dL_days_115 (by decide) ?_
                refine b_iast (f := 5) (n := 16) (v := 1) hx hb hKa hPa hPw hdB hc.dis hAB hS (by decide) rfl (by omega) (by decide) (aset_5 _ _ _ _ _) dL_days_116 (fun H1 locs1 hPa1 hPw1 hS1 => ?_)
                clear hPa hPw hS
                have hPa := hPa1; have hPw := hPw1; have hS := hS1; clear hPa1 hPw1 hS1
                refine n_iinc (k := 16) (lv' := [(16, .int (nI (kd + 1))), (0, .ref h), (1, .int (nI dd)), (2, .ref (ad 0)), (3, .ref (ad 1)), (4, .ref (ad 2)), (5, .ref (ad 3)), (6, .ref (ad 4)), (7, .ref (ad 5)), (8, .ref (ad 6)), (9, .ref (ad 7)), (10, .ref (ad 8)), (11, .ref (ad 10)), (12, .ref (ad 11)), (13, .int (nI (t_dyn T k))), (14, .int (nI k)), (15, .int (nI q))]) hx hb dL_days_117 hl rfl (by decide) rfl (fun ls hl => ?_)
                refine lv_goto (tgt := 66) hx hb dL_days_120 (by decide) ?_
                have eT_79 : t_okf (t_oqf (mu (t_dyf T k) 11 0 (t_dyf T k 11 0 + 1)) q) q (kd + 1) = mu (t_okf (t_oqf (mu (t_dyf T k) 11 0 (t_dyf T k 11 0 + 1)) q) q kd) 5 q 1 := by first | (rw [t_okf, if_pos ⟨by assumption, by assumption⟩]; done) | (rw [t_okf, if_neg (fun z => absurd z.1 (by assumption))]; done) | (rw [t_okf, if_neg (fun z => absurd z.2 (by omega))]; done)
                refine ih_70 (by omega) _ _ ls (by rw [eT_79]; exact hPa) hPw hS ?_
                show lv_has ls 17 [(0, .ref h), (1, .int (nI dd)), (2, .ref (ad 0)), (3, .ref (ad 1)), (4, .ref (ad 2)), (5, .ref (ad 3)), (6, .ref (ad 4)), (7, .ref (ad 5)), (8, .ref (ad 6)), (9, .ref (ad 7)), (10, .ref (ad 8)), (11, .ref (ad 10)), (12, .ref (ad 11)), (13, .int (nI (t_dyn T k))), (14, .int (nI k)), (15, .int (nI q)), (16, .int (nI (kd + 1)))]
                exact lv_sub hl [1, 2, 3, 4, 5, 6, 7, 8, 9, 10, 11, 12, 13, 14, 15, 16, 0] rfl
        · refine lv_goto (tgt := 123) hx hb dL_days_60 (by decide) ?_
          refine n_iinc (k := 15) (lv' := [(15, .int (nI (q + 1))), (0, .ref h), (1, .int (nI dd)), (2, .ref (ad 0)), (3, .ref (ad 1)), (4, .ref (ad 2)), (5, .ref (ad 3)), (6, .ref (ad 4)), (7, .ref (ad 5)), (8, .ref (ad 6)), (9, .ref (ad 7)), (10, .ref (ad 8)), (11, .ref (ad 10)), (12, .ref (ad 11)), (13, .int (nI (t_dyn T k))), (14, .int (nI k))]) hx hb dL_days_123 hl rfl (by decide) rfl (fun ls hl => ?_)
          refine lv_goto (tgt := 23) hx hb dL_days_126 (by decide) ?_
          have eT_80 : t_oqf (mu (t_dyf T k) 11 0 (t_dyf T k 11 0 + 1)) (q + 1) = t_oqf (mu (t_dyf T k) 11 0 (t_dyf T k 11 0 + 1)) q := by first | (rw [t_oqf, if_neg (fun z => absurd z.1 (by omega))]; done) | (rw [t_oqf, if_neg (fun z => absurd z.2 (by assumption))]; done) | (rw [t_oqf, if_pos ⟨by omega, by assumption⟩])
          refine ih_35 (by omega) _ _ ls (by rw [eT_80]; exact hPa) hPw hS ?_
          show lv_has ls 17 [(0, .ref h), (1, .int (nI dd)), (2, .ref (ad 0)), (3, .ref (ad 1)), (4, .ref (ad 2)), (5, .ref (ad 3)), (6, .ref (ad 4)), (7, .ref (ad 5)), (8, .ref (ad 6)), (9, .ref (ad 7)), (10, .ref (ad 8)), (11, .ref (ad 10)), (12, .ref (ad 11)), (13, .int (nI (t_dyn T k))), (14, .int (nI k)), (15, .int (nI (q + 1)))]
          exact lv_sub hl [1, 2, 3, 4, 5, 6, 7, 8, 9, 10, 11, 12, 13, 14, 15, 0] rfl
