/-! a turn of the halls -/
set_option maxHeartbeats 8000000 in
set_option maxRecDepth 100000 in
theorem cb_halls (l : Launch) (hst : l.stackTraces = false) (D : va_G) (ad : Nat → Nat) (cI cO cb : ClassId) (eA mi : Nat) (st : Nat → Nat) (dO dT : Nat) (vF : Value) {A B : Nat → Prop} (hAB : ∀ q, A q → ¬ B q) (hsI : sInj st) (hdB : aDis B ad) (ws : va_W) {h n15 : Nat} {M T : MS} (hc : cSt cI cO eA st A h M ws) (hM : MI M) (hLB : m_LB M) (h15 : M 15 0 ≤ n15) (hR : LR M T) (hT : LT T) (act : Nat) (y : Int32) (z : Int32) (hact : act < 23) (hC : LC T) : Met l yL_halls wsL_halls ({ frames := 12, cells := 40, slots := 1000, locals := 310 }) (va_Pc [.ref h, .int (nI act), .int y, .int z, .ref (ad 1), .ref (ad 2), .ref (ad 3), .ref (ad 4), .ref (ad 5), .ref (ad 6), .ref (ad 7), .ref (ad 8), .ref (ad 9), .ref (ad 11)] (bB D ad cI cO cb eA mi st dO dT vF A B ws T)) (va_Qi (fun (ri : Int32) (u : va_W × MS × MS) => ri = nI 1 ∧ LQ cI cO eA st A h (n15 + 1) u) (fun u U9 => va_P D vwCl u.1 U9.heap ∧ va_P D vwCl (aws ad cI u.2.2) U9.heap) (fun q => A q ∨ B q)) 40 1000 (fun q => A q ∨ B q) := by
  refine Met.ofW (cc := cL_halls) (maxL := 21) (ret := (some .boolean)) (by decide) rfl ?_
  intro p e s m args below meth c s₁ B9 hml hv
  obtain ⟨rfl, hPw, hK, hG, hGT, hA, hN, hPa, hKa⟩ := hv
  have hx := B9.exec
  have hb := B9.bytes
  have hr := B9.returns
  have hts := atoms_spec (ws := wsL_halls) B9.pre
  have hown : s.vm.findClass RL = some m.cls := findClass_of_methodNamed B9.named
  have hlocks := B9.notSynchronized
  have hS : va_S (fun q => A q ∨ B q) s.heap s.heap [] := va_S.rf
  have hl := lv_entry ([.ref h, .int (nI act), .int y, .int z, .ref (ad 1), .ref (ad 2), .ref (ad 3), .ref (ad 4), .ref (ad 5), .ref (ad 6), .ref (ad 7), .ref (ad 8), .ref (ad 9), .ref (ad 11)]) (n := 21) (Nat.le_of_ble_eq_true rfl)
  rw [lg_entry_eq]
  generalize (lg_sl ([.ref h, .int (nI act), .int y, .int z, .ref (ad 1), .ref (ad 2), .ref (ad 3), .ref (ad 4), .ref (ad 5), .ref (ad 6), .ref (ad 7), .ref (ad 8), .ref (ad 9), .ref (ad 11)]) ++ List.replicate (21 - (lg_sl ([.ref h, .int (nI act), .int y, .int z, .ref (ad 1), .ref (ad 2), .ref (ad 3), .ref (ad 4), .ref (ad 5), .ref (ad 6), .ref (ad 7), .ref (ad 8), .ref (ad 9), .ref (ad 11)])).length) Slot.unset).toArray = ls at hl ⊢
  have hl : lv_has ls 21 [(0, .ref h), (1, .int (nI act)), (2, .int y), (3, .int z), (4, .ref (ad 1)), (5, .ref (ad 2)), (6, .ref (ad 3)), (7, .ref (ad 4)), (8, .ref (ad 5)), (9, .ref (ad 6)), (10, .ref (ad 7)), (11, .ref (ad 8)), (12, .ref (ad 9)), (13, .ref (ad 11))] := hl
  obtain ⟨g0, g1, g2, g3, g4, g5, g6⟩ := hR.1
  obtain ⟨C0, C3, C4, C5, C6⟩ := hC
  have hT2 := hT.2
  have hM1 : M 1 0 ≤ 2000 := hM 1 0
  obtain ⟨hU, hRD, hRX, hRS⟩ := hc.inv
  have h16 : M 16 0 ≤ 32 := by omega
  refine lv_iload_n hx hb dL_halls_0 rfl (lv_at hl 1 rfl) ?_
  refine lv_iconst (v := nI 4) hx hb dL_halls_1 (by decide) ?_
  refine n_icmp_ge (tgt := 173) hx hb dL_halls_2 (by decide) (by have f1 := hact; omega) (by decide) (fun c_1 => ?_) (fun c_1 => ?_)
  · refine lv_iload_n hx hb dL_halls_173 rfl (lv_at hl 2 rfl) ?_
    refine lv_aload hx hb dL_halls_174 (lv_at hl 13 rfl) ?_
    refine lv_iconst (v := nI 4) hx hb dL_halls_176 (by decide) ?_
    refine a_iald (f := 11) (n := 7) hx hb hKa hPa rfl (by decide) (by decide) dL_halls_177 ?_
    refine lv_iconst (v := nI 1) hx hb dL_halls_178 (by decide) ?_
    refine n_iadd hx hb dL_halls_179 (z := (T 11 4) + 1) rfl ?_
    refine vp_callSi (W.runS (As := [.int y, .int (nI ((T 11 4) + 1))]) (rest := []) ⟨hx, hb, hml, hown, hts⟩ (ch_low l y ((T 11 4) + 1) (by have f1 : T 11 4 ≤ 2000 := hT.1 11 4; have f2 : T 11 4 ≤ 32 := hT.2.2.2.1; omega) (by have f1 : T 11 4 ≤ 2000 := hT.1 11 4; have f2 : T 11 4 ≤ 32 := hT.2.2.2.1; omega)) (va_cwS 2 hts gL_halls_L_low rfl rfl rfl kd_L_low ⟨Nat.le_of_ble_eq_true rfl, Nat.le_of_ble_eq_true rfl⟩) ⟨fun _ _ _ _ q => q, fun U hU hW => ⟨rfl, trivial⟩⟩ rfl rfl hl.1 rfl (lv_room (Nat.le_of_ble_eq_true rfl)) dL_halls_180 ⟨Nat.le_of_ble_eq_true rfl, Nat.le_of_ble_eq_true rfl⟩) (fun r_2 hr_2 => ?_)
    subst hr_2
    have haw0 : lowN y ((T 11 4) + 1) < ((T 11 4) + 1) := lowN_lt _ (by omega)
    generalize lowN y ((T 11 4) + 1) = aw0 at haw0 ⊢
    refine lv_istore (lv' := [(14, .int (nI aw0)), (0, .ref h), (1, .int (nI act)), (2, .int y), (3, .int z), (4, .ref (ad 1)), (5, .ref (ad 2)), (6, .ref (ad 3)), (7, .ref (ad 4)), (8, .ref (ad 5)), (9, .ref (ad 6)), (10, .ref (ad 7)), (11, .ref (ad 8)), (12, .ref (ad 9)), (13, .ref (ad 11))]) hx hb dL_halls_183 hl (by decide) rfl (fun ls hl => ?_)
    refine w_join (nL := 21) (pc1 := 241) (sk1 := []) (fun a9 => [(14, .int (nI a9)), (0, .ref h), (1, .int (nI act)), (2, .int y), (3, .int z), (4, .ref (ad 1)), (5, .ref (ad 2)), (6, .ref (ad 3)), (7, .ref (ad 4)), (8, .ref (ad 5)), (9, .ref (ad 6)), (10, .ref (ad 7)), (11, .ref (ad 8)), (12, .ref (ad 9)), (13, .ref (ad 11))]) (fun a9 => a9 ≤ T 11 4) (fun a9 ha9 ls hl => ?_) (fun hk_3 => ?_)
    · have h9_a9 := ha9
      refine lv_iload_n hx hb dL_halls_241 rfl (lv_at hl 2 rfl) ?_
      refine lv_bipush (v := nI 9) hx hb dL_halls_242 (by decide) ?_
      refine n_icmp_ge (tgt := 633) hx hb dL_halls_244 (by decide) (by have f1 := hact; omega) (by decide) (fun c_4 => ?_) (fun c_4 => ?_)
      · refine lv_iload_n hx hb dL_halls_633 rfl (lv_at hl 3 rfl) ?_
        refine lv_aload hx hb dL_halls_634 (lv_at hl 14 rfl) ?_
        refine lv_iconst (v := nI 5) hx hb dL_halls_636 (by decide) ?_
        refine a_iald (f := 11) (n := 7) hx hb hKa hPa rfl (by decide) (by decide) dL_halls_637 ?_
        refine lv_iconst (v := nI 1) hx hb dL_halls_638 (by decide) ?_
        refine n_iadd hx hb dL_halls_639 (z := (T 11 5) + 1) rfl ?_
        refine vp_callSi (W.runS (As := [.int y, .int (nI ((T 11 5) + 1))]) (rest := []) ⟨hx, hb, hml, hown, hts⟩ (ch_low l y ((T 11 5) + 1) (by have f1 : T 11 5 ≤ 2000 := hT.1 11 5; have f2 : T 11 5 ≤ 32 := hT.2.2.2.2.1; omega) (by have f1 : T 11 5 ≤ 2000 := hT.1 11 5; have f2 : T 11 5 ≤ 32 := hT.2.2.2.2.1; omega)) (va_cwS 2 hts gL_halls_L_low rfl rfl rfl kd_L_low ⟨Nat.le_of_ble_eq_true rfl, Nat.le_of_ble_eq_true rfl⟩) ⟨fun _ _ _ _ q => q, fun U hU hW => ⟨rfl, trivial⟩⟩ rfl rfl hl.1 rfl (lv_room (Nat.le_of_ble_eq_true rfl)) dL_halls_640 ⟨Nat.le_of_ble_eq_true rfl, Nat.le_of_ble_eq_true rfl⟩) (fun r_5 hr_5 => ?_)
        subst hr_5
        have hcm0 : lowN y ((T 11 5) + 1) < ((T 11 5) + 1) := lowN_lt _ (by omega)
        generalize lowN y ((T 11 5) + 1) = cm0 at hcm0 ⊢
        refine lv_istore (lv' := [(15, .int (nI cm0)), (14, .int (nI a9)), (0, .ref h), (1, .int (nI act)), (2, .int y), (3, .int z), (4, .ref (ad 1)), (5, .ref (ad 2)), (6, .ref (ad 3)), (7, .ref (ad 4)), (8, .ref (ad 5)), (9, .ref (ad 6)), (10, .ref (ad 7)), (11, .ref (ad 8)), (12, .ref (ad 9)), (13, .ref (ad 11))]) hx hb dL_halls_643 hl (by decide) rfl (fun ls hl => ?_)
        refine w_join (nL := 21) (pc1 := 715) (sk1 := []) (fun c9 => [(15, .int (nI c9)), (14, .int (nI a9)), (0, .ref h), (1, .int (nI act)), (2, .int y), (3, .int z), (4, .ref (ad 1)), (5, .ref (ad 2)), (6, .ref (ad 3)), (7, .ref (ad 4)), (8, .ref (ad 5)), (9, .ref (ad 6)), (10, .ref (ad 7)), (11, .ref (ad 8)), (12, .ref (ad 9)), (13, .ref (ad 11))]) (fun c9 => c9 ≤ T 11 5) (fun c9 hc9 ls hl => ?_) (fun hk_6 => ?_)
        · have h9_c9 := hc9
          refine w_join (nL := 21) (pc1 := 773) (sk1 := []) (fun c8 => [(15, .int (nI c8)), (14, .int (nI a9)), (0, .ref h), (1, .int (nI act)), (2, .int y), (3, .int z), (4, .ref (ad 1)), (5, .ref (ad 2)), (6, .ref (ad 3)), (7, .ref (ad 4)), (8, .ref (ad 5)), (9, .ref (ad 6)), (10, .ref (ad 7)), (11, .ref (ad 8)), (12, .ref (ad 9)), (13, .ref (ad 11))]) (fun c8 => c8 ≤ T 11 5 ∧ (act < 16 → c8 < T 11 5)) (fun c8 hc8 ls hl => ?_) (fun hk_7 => ?_)
          · have h9_c8 := hc8
            refine lv_iload_n hx hb dL_halls_773 rfl (lv_at hl 3 rfl) ?_
            refine lv_bipush (v := nI 14) hx hb dL_halls_774 (by decide) ?_
            refine n_icmp_ge (tgt := 1134) hx hb dL_halls_776 (by decide) (by have f1 := hact; omega) (by decide) (fun c_8 => ?_) (fun c_8 => ?_)
            · refine lv_iload_n hx hb dL_halls_1134 rfl (lv_at hl 3 rfl) ?_
              refine lv_bipush (v := nI 16) hx hb dL_halls_1135 (by decide) ?_
              refine n_icmp_ge (tgt := 1257) hx hb dL_halls_1137 (by decide) (by have f1 := hact; omega) (by decide) (fun c_9 => ?_) (fun c_9 => ?_)
              · refine lv_iload_n hx hb dL_halls_1257 rfl (lv_at hl 3 rfl) ?_
                refine lv_bipush (v := nI 20) hx hb dL_halls_1258 (by decide) ?_
                refine n_icmp_ge (tgt := 1404) hx hb dL_halls_1260 (by decide) (by have f1 := hact; omega) (by decide) (fun c_10 => ?_) (fun c_10 => ?_)
                · refine lv_iload_n hx hb dL_halls_1404 rfl (lv_at hl 4 rfl) ?_
                  refine lv_aload hx hb dL_halls_1405 (lv_at hl 15 rfl) ?_
                  refine lv_bipush (v := nI 6) hx hb dL_halls_1407 (by decide) ?_
                  refine a_iald (f := 11) (n := 7) hx hb hKa hPa rfl (by decide) (by decide) dL_halls_1409 ?_
                  refine lv_iconst (v := nI 1) hx hb dL_halls_1410 (by decide) ?_
                  refine n_iadd hx hb dL_halls_1411 (z := (T 11 6) + 1) rfl ?_
                  refine vp_callSi (W.runS (As := [.int y, .int (nI ((T 11 6) + 1))]) (rest := []) ⟨hx, hb, hml, hown, hts⟩ (ch_low l y ((T 11 6) + 1) (by have f1 : T 11 6 ≤ 2000 := hT.1 11 6; have f2 : T 11 6 ≤ 32 := hT.2.2.2.2.2; omega) (by have f1 : T 11 6 ≤ 2000 := hT.1 11 6; have f2 : T 11 6 ≤ 32 := hT.2.2.2.2.2; omega)) (va_cwS 2 hts gL_halls_L_low rfl rfl rfl kd_L_low ⟨Nat.le_of_ble_eq_true rfl, Nat.le_of_ble_eq_true rfl⟩) ⟨fun _ _ _ _ q => q, fun U hU hW => ⟨rfl, trivial⟩⟩ rfl rfl hl.1 rfl (lv_room (Nat.le_of_ble_eq_true rfl)) dL_halls_1412 ⟨Nat.le_of_ble_eq_true rfl, Nat.le_of_ble_eq_true rfl⟩) (fun r_11 hr_11 => ?_)
                  subst hr_11
                  have hk9 : lowN y ((T 11 6) + 1) < ((T 11 6) + 1) := lowN_lt _ (by omega)
                  generalize lowN y ((T 11 6) + 1) = k9 at hk9 ⊢
                  refine lv_istore (lv' := [(16, .int (nI k9)), (15, .int (nI c8)), (14, .int (nI a9)), (0, .ref h), (1, .int (nI act)), (2, .int y), (3, .int z), (4, .ref (ad 1)), (5, .ref (ad 2)), (6, .ref (ad 3)), (7, .ref (ad 4)), (8, .ref (ad 5)), (9, .ref (ad 6)), (10, .ref (ad 7)), (11, .ref (ad 8)), (12, .ref (ad 9)), (13, .ref (ad 11))]) hx hb dL_halls_1415 hl (by decide) rfl (fun ls hl => ?_)
                  refine lv_iload hx hb dL_halls_1417 (lv_at hl 0 rfl) ?_
                  refine lv_aload hx hb dL_halls_1419 (lv_at hl 16 rfl) ?_
                  refine lv_bipush (v := nI 6) hx hb dL_halls_1421 (by decide) ?_
                  refine a_iald (f := 11) (n := 7) hx hb hKa hPa rfl (by decide) (by decide) dL_halls_1423 ?_
                  refine n_icmp_ne (tgt := 1458) hx hb dL_halls_1424 (by decide) (by have f1 := hk9; omega) (by have f1 : T 11 6 ≤ 2000 := hT.1 11 6; have f2 : T 11 6 ≤ 32 := hT.2.2.2.2.2; omega) (fun c_12 => ?_) (fun c_12 => ?_)
                  · have d9 := hR.2.2.2.2.2.2.2.2.1 k9 (by omega)
                    have d30 : T 9 k9 % 32 = M 30 k9 := by omega
                    have d31 : T 9 k9 / 32 = M 31 k9 := by omega
                    have gn9 := hR.gn hM (a := T 9 k9 % 32) (by omega)
                    have bo9 := hR.bo hM (a := T 9 k9 % 32) (by omega)
                    have pr9 := hR.pr (q := t_bo T (T 9 k9 % 32)) bo9.2.1
                    rw [bo9.1] at pr9
                    have cpd : T 9 k9 ≤ 4194303 := hT.1 9 k9
                    refine lv_aload hx hb dL_halls_1458 (lv_at hl 15 rfl) ?_
                    refine lv_iload hx hb dL_halls_1460 (lv_at hl 0 rfl) ?_
                    refine a_iald (f := 9) (n := 32) hx hb hKa hPa rfl (by have f1 := hk9; omega) (by decide) dL_halls_1462 ?_
                    refine lv_bipush (v := nI 31) hx hb dL_halls_1463 (by decide) ?_
                    refine lv_iand hx hb dL_halls_1465 ?_
                    rw [show (nI (T 9 k9)) &&& (nI 31) = nI ((T 9 k9) % 32) from n_andK (k := 5) (by have f1 := hk9; have f2 : T 9 k9 ≤ 4194303 := hT.1 9 k9; omega) (by decide) (by decide) rfl]
                    refine lv_istore (lv' := [(17, .int (nI ((T 9 k9) % 32))), (16, .int (nI k9)), (15, .int (nI c8)), (14, .int (nI a9)), (0, .ref h), (1, .int (nI act)), (2, .int y), (3, .int z), (4, .ref (ad 1)), (5, .ref (ad 2)), (6, .ref (ad 3)), (7, .ref (ad 4)), (8, .ref (ad 5)), (9, .ref (ad 6)), (10, .ref (ad 7)), (11, .ref (ad 8)), (12, .ref (ad 9)), (13, .ref (ad 11))]) hx hb dL_halls_1466 hl (by decide) rfl (fun ls hl => ?_)
                    refine w_join (nL := 21) (pc1 := 1490) (sk1 := []) (fun sm => [(18, .int (nI sm)), (17, .int (nI ((T 9 k9) % 32))), (16, .int (nI k9)), (15, .int (nI c8)), (14, .int (nI a9)), (0, .ref h), (1, .int (nI act)), (2, .int y), (3, .int z), (4, .ref (ad 1)), (5, .ref (ad 2)), (6, .ref (ad 3)), (7, .ref (ad 4)), (8, .ref (ad 5)), (9, .ref (ad 6)), (10, .ref (ad 7)), (11, .ref (ad 8)), (12, .ref (ad 9)), (13, .ref (ad 11))]) (fun sm => 1 ≤ sm ∧ sm ≤ 100000) (fun sm hsm ls hl => ?_) (fun hk_13 => ?_)
                    · have h9_sm := hsm
                      refine lv_aload_n hx hb dL_halls_1490 rfl (lv_at hl 5 rfl) ?_
                      refine lv_iload hx hb dL_halls_1491 (lv_at hl 2 rfl) ?_
                      refine lv_iconst (v := nI 0) hx hb dL_halls_1493 (by decide) ?_
                      refine va_calli (vx_runSW (As := [.ref h, .int (nI k9), .int (nI 0)]) (rest := []) ⟨hx, hb, hml, hown, hts⟩ (cw_call l hst D cI cO cb eA mi st dO dT vF ws hc hM hsI (nI k9) (nI 0)) (vx_cwSW 3 hts gL_halls_L_call rfl rfl rfl kd_L_call ⟨Nat.le_of_ble_eq_true rfl, Nat.le_of_ble_eq_true rfl⟩) ⟨kB_blind, kB_pre hK hG hGT hN (fun q h9 => Or.inl h9) hS (fun q h9 => hA q (Nat.le_trans hS.1 h9)) hPw _⟩ rfl rfl hl.1 rfl (lv_room (Nat.le_of_ble_eq_true rfl)) dL_halls_1494 ⟨by show 0 + 2 ≤ 40; omega, by show 0 + 12 ≤ 1000; omega⟩) hS (fun _ _ h9 => Or.inl h9) (fun _ h9 => Or.inl h9) (fun r_14 ws_15 U8 H_19 locs_20 ht hvm hu_18 hB hz1 hk1 hS1 => ?_)
                      obtain ⟨hr_16, hc_17⟩ := hu_18
                      replace hB : va_P D vwCl ws_15 U8.heap := hB
                      rw [ht] at hB
                      replace hPa := aP_keep hPa hdB hAB hk1
                      clear hPw hS
                      have hPw := hB
                      have hS := hS1
                      clear hB hS1 hz1 hk1 hvm ht U8
                      have hk_21 : k_call M (nI k9) (nI 0) = 2 := by exact cal_2 (by omega) (by omega) (by omega) (Or.inl rfl)
                      rw [keep_call (by rw [hk_21]; decide)] at hc_17
                      rw [hk_21] at hr_16
                      replace hr_16 : r_14 = (-7200) := hr_16
                      subst hr_16
                      refine lv_sipush (v := (-7200)) hx hb dL_halls_1497 (by decide) ?_
                      refine lv_icmp_ne (tgt := 1517) hx hb dL_halls_1500 (by decide)  (fun c9 => absurd c9 (by decide)) (fun _ => ?_)
                      refine lv_aload_n hx hb dL_halls_1503 rfl (lv_at hl 5 rfl) ?_
                      refine lv_iload hx hb dL_halls_1504 (lv_at hl 2 rfl) ?_
                      refine lv_ldc (v := nI 100001) hx hb hown (hts (.constant RL 167 (100001)) (List.mem_of_getElem? (i := 3) rfl)) dL_halls_1506 ?_
                      refine va_calli (vx_runSW (As := [.ref h, .int (nI k9), .int (nI 100001)]) (rest := []) ⟨hx, hb, hml, hown, hts⟩ (cw_call l hst D cI cO cb eA mi st dO dT vF ws_15 hc_17 hM hsI (nI k9) (nI 100001)) (vx_cwSW 3 hts gL_halls_L_call rfl rfl rfl kd_L_call ⟨Nat.le_of_ble_eq_true rfl, Nat.le_of_ble_eq_true rfl⟩) ⟨kB_blind, kB_pre hK hG hGT hN (fun q h9 => Or.inl h9) hS (fun q h9 => hA q (Nat.le_trans hS.1 h9)) hPw _⟩ rfl rfl hl.1 rfl (lv_room (Nat.le_of_ble_eq_true rfl)) dL_halls_1508 ⟨by show 2 + 2 ≤ 40; omega, by show 12 + 12 ≤ 1000; omega⟩) hS (fun _ _ h9 => Or.inl h9) (fun _ h9 => Or.inl h9) (fun r_22 ws_23 U8 H_27 locs_28 ht hvm hu_26 hB hz1 hk1 hS1 => ?_)
                      obtain ⟨hr_24, hc_25⟩ := hu_26
                      replace hB : va_P D vwCl ws_23 U8.heap := hB
                      rw [ht] at hB
                      replace hPa := aP_keep hPa hdB hAB hk1
                      clear hPw hS
                      have hPw := hB
                      have hS := hS1
                      clear hB hS1 hz1 hk1 hvm ht U8
                      have hk_29 : k_call M (nI k9) (nI 100001) = 2 := by exact cal_2 (by omega) (by omega) (by omega) (Or.inr (by omega))
                      rw [keep_call (by rw [hk_29]; decide)] at hc_25
                      rw [hk_29] at hr_24
                      replace hr_24 : r_22 = (-7200) := hr_24
                      subst hr_24
                      refine lv_sipush (v := (-7200)) hx hb dL_halls_1511 (by decide) ?_
                      refine lv_icmp_eq (tgt := 1519) hx hb dL_halls_1514 (by decide)  (fun _ => ?_) (fun c9 => absurd c9 (by decide))
                      refine lv_aload hx hb dL_halls_1519 (lv_at hl 15 rfl) ?_
                      refine lv_iload hx hb dL_halls_1521 (lv_at hl 1 rfl) ?_
                      refine vp_callSi (W.runS (As := [.ref (ad 7), .int (nI ((T 9 k9) % 32))]) (rest := []) ⟨hx, hb, hml, hown, hts⟩ (ch_gone l D ad cI T hT ((T 9 k9) % 32) (by have f1 := hk9; have f2 : T 9 k9 ≤ 4194303 := hT.1 9 k9; omega)) (va_cwS 2 hts gL_halls_L_gone rfl rfl rfl kd_L_gone ⟨Nat.le_of_ble_eq_true rfl, Nat.le_of_ble_eq_true rfl⟩) ⟨aB_blind, a_pre hKa hPa _⟩ rfl rfl hl.1 rfl (lv_room (Nat.le_of_ble_eq_true rfl)) dL_halls_1523 ⟨Nat.le_of_ble_eq_true rfl, Nat.le_of_ble_eq_true rfl⟩) (fun r_30 hr_30 => ?_)
                      subst hr_30
                      refine b_if_ne (tgt := 1566) hx hb dL_halls_1526 (by decide)  (fun c_31 => ?_) (fun c_31 => ?_)
                      · have kgo0 : M 20 (M 30 k9) ≠ 0 := by rw [← d30]; rw [c_31] at gn9; simpa using gn9.symm
                        refine lv_aload_n hx hb dL_halls_1566 rfl (lv_at hl 5 rfl) ?_
                        refine lv_iload hx hb dL_halls_1567 (lv_at hl 2 rfl) ?_
                        refine lv_iload hx hb dL_halls_1569 (lv_at hl 0 rfl) ?_
                        refine va_calli (vx_runSW (As := [.ref h, .int (nI k9), .int (nI sm)]) (rest := []) ⟨hx, hb, hml, hown, hts⟩ (cw_call l hst D cI cO cb eA mi st dO dT vF ws_23 hc_25 hM hsI (nI k9) (nI sm)) (vx_cwSW 3 hts gL_halls_L_call rfl rfl rfl kd_L_call ⟨Nat.le_of_ble_eq_true rfl, Nat.le_of_ble_eq_true rfl⟩) ⟨kB_blind, kB_pre hK hG hGT hN (fun q h9 => Or.inl h9) hS (fun q h9 => hA q (Nat.le_trans hS.1 h9)) hPw _⟩ rfl rfl hl.1 rfl (lv_room (Nat.le_of_ble_eq_true rfl)) dL_halls_1571 ⟨by show 4 + 2 ≤ 40; omega, by show 24 + 12 ≤ 1000; omega⟩) hS (fun _ _ h9 => Or.inl h9) (fun _ h9 => Or.inl h9) (fun r_32 ws_33 U8 H_37 locs_38 ht hvm hu_36 hB hz1 hk1 hS1 => ?_)
                        obtain ⟨hr_34, hc_35⟩ := hu_36
                        replace hB : va_P D vwCl ws_33 U8.heap := hB
                        rw [ht] at hB
                        replace hPa := aP_keep hPa hdB hAB hk1
                        clear hPw hS
                        have hPw := hB
                        have hS := hS1
                        clear hB hS1 hz1 hk1 hvm ht U8
                        have hk_39 : k_call M (nI k9) (nI sm) = 3 := by rw [cal_e (by omega) (by omega) (by omega) (by omega), if_neg (fun z9 => by unfold m_runs at z9; rw [if_neg (fun z8 => kgo0 (by rw [← z8])) ] at z9; exact absurd z9.1 (by decide))]
                        rw [keep_call (by rw [hk_39]; decide)] at hc_35
                        rw [hk_39] at hr_34
                        replace hr_34 : r_32 = (-7300) := hr_34
                        subst hr_34
                        refine lv_sipush (v := (-7300)) hx hb dL_halls_1574 (by decide) ?_
                        refine lv_icmp_ne (tgt := 1584) hx hb dL_halls_1577 (by decide)  (fun c9 => absurd c9 (by decide)) (fun _ => ?_)
                        refine lv_iconst (v := nI 1) hx hb dL_halls_1580 (by decide) ?_
                        refine lv_goto (tgt := 1585) hx hb dL_halls_1581 (by decide) ?_
                        have hLR : LR (M) (T) := by exact hR
                        have hLT : LT (T) := by exact hT
                        refine W.widen (k := 40) (n := 1000) (by omega) (by omega) ?_
                        exact W.zret (v := nI 1) hx hb hr rfl (fun U9 ht9 hW9 => ⟨⟨_, (ws_33, M, T), rfl, ⟨rfl, hc_35, hM, hLB, Nat.le_succ_of_le h15, hLR, hLT⟩, by show va_P D vwCl _ U9.heap ∧ va_P D vwCl _ U9.heap; rw [ht9]; exact ⟨hPw, hPa⟩⟩, hS.F ht9⟩) hS.2.2 dL_halls_1585
                      · have kz20 : M 20 (T 9 k9 % 32) = 0 := by rw [c_31] at gn9; simpa using gn9.symm
                        refine lv_aload hx hb dL_halls_1529 (lv_at hl 16 rfl) ?_
                        refine lv_aload hx hb dL_halls_1531 (lv_at hl 18 rfl) ?_
                        refine lv_iload hx hb dL_halls_1533 (lv_at hl 1 rfl) ?_
                        refine vp_callSi (W.runS (As := [.ref (ad 8), .ref (ad 11), .int (nI ((T 9 k9) % 32))]) (rest := []) ⟨hx, hb, hml, hown, hts⟩ (ch_openOnes l D ad cI T hT ((T 9 k9) % 32) (by have f1 := hk9; have f2 : T 9 k9 ≤ 4194303 := hT.1 9 k9; omega)) (va_cwS 3 hts gL_halls_L_openOnes rfl rfl rfl kd_L_openOnes ⟨Nat.le_of_ble_eq_true rfl, Nat.le_of_ble_eq_true rfl⟩) ⟨aB_blind, a_pre hKa hPa _⟩ rfl rfl hl.1 rfl (lv_room (Nat.le_of_ble_eq_true rfl)) dL_halls_1535 ⟨Nat.le_of_ble_eq_true rfl, Nat.le_of_ble_eq_true rfl⟩) (fun r_40 hr_40 => ?_)
                        subst hr_40
                        refine n_if_gt (tgt := 1566) hx hb dL_halls_1538 (by decide) (by have f1 : t_oo T ((T 9 k9) % 32) ≤ T 11 5 := t_oof_le ((T 9 k9) % 32) (T 11 5); have f2 : T 11 5 ≤ 32 := hT.2.2.2.2.1; omega) (fun c_41 => ?_) (fun c_41 => ?_)
                        · have kop : 0 < t_oo T (T 9 k9 % 32) := c_41
                          refine lv_aload_n hx hb dL_halls_1566 rfl (lv_at hl 5 rfl) ?_
                          refine lv_iload hx hb dL_halls_1567 (lv_at hl 2 rfl) ?_
                          refine lv_iload hx hb dL_halls_1569 (lv_at hl 0 rfl) ?_
                          refine va_calli (vx_runSW (As := [.ref h, .int (nI k9), .int (nI sm)]) (rest := []) ⟨hx, hb, hml, hown, hts⟩ (cw_call l hst D cI cO cb eA mi st dO dT vF ws_23 hc_25 hM hsI (nI k9) (nI sm)) (vx_cwSW 3 hts gL_halls_L_call rfl rfl rfl kd_L_call ⟨Nat.le_of_ble_eq_true rfl, Nat.le_of_ble_eq_true rfl⟩) ⟨kB_blind, kB_pre hK hG hGT hN (fun q h9 => Or.inl h9) hS (fun q h9 => hA q (Nat.le_trans hS.1 h9)) hPw _⟩ rfl rfl hl.1 rfl (lv_room (Nat.le_of_ble_eq_true rfl)) dL_halls_1571 ⟨by show 4 + 2 ≤ 40; omega, by show 24 + 12 ≤ 1000; omega⟩) hS (fun _ _ h9 => Or.inl h9) (fun _ h9 => Or.inl h9) (fun r_42 ws_43 U8 H_47 locs_48 ht hvm hu_46 hB hz1 hk1 hS1 => ?_)
                          obtain ⟨hr_44, hc_45⟩ := hu_46
                          replace hB : va_P D vwCl ws_43 U8.heap := hB
                          rw [ht] at hB
                          replace hPa := aP_keep hPa hdB hAB hk1
                          clear hPw hS
                          have hPw := hB
                          have hS := hS1
                          clear hB hS1 hz1 hk1 hvm ht U8
                          have hk_49 : k_call M (nI k9) (nI sm) = 3 := by rw [cal_e (by omega) (by omega) (by omega) (by omega), if_neg (fun z9 => by unfold m_runs at z9; rw [← d30, kz20] at z9; rw [if_pos rfl, if_pos (by rw [← hR.oo hM h16]; exact kop)] at z9; exact absurd z9.1 (by decide))]
                          rw [keep_call (by rw [hk_49]; decide)] at hc_45
                          rw [hk_49] at hr_44
                          replace hr_44 : r_42 = (-7300) := hr_44
                          subst hr_44
                          refine lv_sipush (v := (-7300)) hx hb dL_halls_1574 (by decide) ?_
                          refine lv_icmp_ne (tgt := 1584) hx hb dL_halls_1577 (by decide)  (fun c9 => absurd c9 (by decide)) (fun _ => ?_)
                          refine lv_iconst (v := nI 1) hx hb dL_halls_1580 (by decide) ?_
                          refine lv_goto (tgt := 1585) hx hb dL_halls_1581 (by decide) ?_
                          have hLR : LR (M) (T) := by exact hR
                          have hLT : LT (T) := by exact hT
                          refine W.widen (k := 40) (n := 1000) (by omega) (by omega) ?_
                          exact W.zret (v := nI 1) hx hb hr rfl (fun U9 ht9 hW9 => ⟨⟨_, (ws_43, M, T), rfl, ⟨rfl, hc_45, hM, hLB, Nat.le_succ_of_le h15, hLR, hLT⟩, by show va_P D vwCl _ U9.heap ∧ va_P D vwCl _ U9.heap; rw [ht9]; exact ⟨hPw, hPa⟩⟩, hS.F ht9⟩) hS.2.2 dL_halls_1585
                        · refine lv_aload hx hb dL_halls_1541 (lv_at hl 17 rfl) ?_
                          refine lv_iload hx hb dL_halls_1543 (lv_at hl 2 rfl) ?_
                          refine a_iald (f := 9) (n := 32) hx hb hKa hPa rfl (by have f1 := hk9; omega) (by decide) dL_halls_1545 ?_
                          refine lv_iconst (v := nI 5) hx hb dL_halls_1546 (by decide) ?_
                          refine lv_ishr hx hb dL_halls_1547 ?_
                          rw [show (nI (T 9 k9)) >>> ((nI 5) &&& 31) = nI ((T 9 k9) / 32) from n_shrK (by have f1 := hk9; have f2 : T 9 k9 ≤ 4194303 := hT.1 9 k9; omega) (by decide) rfl]
                          refine lv_iload hx hb dL_halls_1548 (lv_at hl 0 rfl) ?_
                          refine n_iadd hx hb dL_halls_1550 (z := ((T 9 k9) / 32) + sm) rfl ?_
                          refine lv_aload hx hb dL_halls_1551 (lv_at hl 11 rfl) ?_
                          refine lv_aload hx hb dL_halls_1553 (lv_at hl 15 rfl) ?_
                          refine lv_iload hx hb dL_halls_1555 (lv_at hl 1 rfl) ?_
                          refine vp_callSi (W.runS (As := [.ref (ad 7), .int (nI ((T 9 k9) % 32))]) (rest := [.ref (ad 3), .int (nI (((T 9 k9) / 32) + sm))]) ⟨hx, hb, hml, hown, hts⟩ (ch_bidOf l D ad cI T hT ((T 9 k9) % 32) (by have f1 := hk9; have f2 : T 9 k9 ≤ 4194303 := hT.1 9 k9; omega)) (va_cwS 2 hts gL_halls_L_bidOf rfl rfl rfl kd_L_bidOf ⟨Nat.le_of_ble_eq_true rfl, Nat.le_of_ble_eq_true rfl⟩) ⟨aB_blind, a_pre hKa hPa _⟩ rfl rfl hl.1 rfl (lv_room (Nat.le_of_ble_eq_true rfl)) dL_halls_1557 ⟨Nat.le_of_ble_eq_true rfl, Nat.le_of_ble_eq_true rfl⟩) (fun r_50 hr_50 => ?_)
                          subst hr_50
                          refine vp_callSi (W.runS (As := [.ref (ad 3), .int (nI (t_bo T ((T 9 k9) % 32)))]) (rest := [.int (nI (((T 9 k9) / 32) + sm))]) ⟨hx, hb, hml, hown, hts⟩ (ch_price l D ad cI T hT (t_bo T ((T 9 k9) % 32)) (by omega)) (va_cwS 2 hts gL_halls_L_price rfl rfl rfl kd_L_price ⟨Nat.le_of_ble_eq_true rfl, Nat.le_of_ble_eq_true rfl⟩) ⟨aB_blind, a_pre hKa hPa _⟩ rfl rfl hl.1 rfl (lv_room (Nat.le_of_ble_eq_true rfl)) dL_halls_1560 ⟨Nat.le_of_ble_eq_true rfl, Nat.le_of_ble_eq_true rfl⟩) (fun r_51 hr_51 => ?_)
                          subst hr_51
                          refine n_icmp_le (tgt := 1586) hx hb dL_halls_1563 (by decide) (by have f1 := hk9; have f2 : T 9 k9 ≤ 4194303 := hT.1 9 k9; have f3 := hsm.1; have f4 := hsm.2; omega) (by have f1 : t_pr T (t_bo T ((T 9 k9) % 32)) < 1048576 := Nat.mod_lt _ (by decide); omega) (fun c_52 => ?_) (fun c_52 => ?_)
                          · have h31 : M 31 k9 + sm ≤ 100000 := by have e9 : M 10 (8 * M 17 (T 9 k9 % 32) + M 18 (T 9 k9 % 32)) ≤ 100000 := hM 10 _; omega
                            have hk0 : k_call M (nI k9) (nI sm) = 0 := by rw [cal_e (by omega) (by omega) (by omega) (by omega)]; exact if_pos ⟨by unfold m_runs; rw [← d30, kz20, if_pos rfl, if_neg (by rw [← hR.oo hM h16]; omega)]; decide, by unfold m_pr; rw [← d30]; omega⟩
                            refine lv_aload hx hb dL_halls_1586 (lv_at hl 17 rfl) ?_
                            refine lv_iload hx hb dL_halls_1588 (lv_at hl 2 rfl) ?_
                            refine lv_dup2_11 hx hb dL_halls_1590 rfl rfl ?_
                            refine a_iald (f := 9) (n := 32) hx hb hKa hPa rfl (by have f1 := hk9; omega) (by decide) dL_halls_1591 ?_
                            refine lv_iload hx hb dL_halls_1592 (lv_at hl 0 rfl) ?_
                            refine lv_iconst (v := nI 5) hx hb dL_halls_1594 (by decide) ?_
                            refine lv_ishl hx hb dL_halls_1595 ?_
                            rw [show (nI sm) <<< ((nI 5) &&& 31) = nI (sm * 32) from n_shlK (by decide) rfl (by have f1 := hsm.1; have f2 := hsm.2; omega)]
                            refine n_iadd hx hb dL_halls_1596 (z := (T 9 k9) + (sm * 32)) rfl ?_
                            refine b_iast (f := 9) (n := 32) (v := (T 9 k9) + (sm * 32)) hx hb hKa hPa hPw hdB hc_25.dis hAB hS (by decide) rfl (by have f1 := hk9; omega) (by decide) (aset_9 _ _ _ _ _) dL_halls_1597 (fun H1 locs1 hPa1 hPw1 hS1 => ?_)
                            clear hPa hPw hS
                            have hPa := hPa1; have hPw := hPw1; have hS := hS1; clear hPa1 hPw1 hS1
                            refine lv_aload_n hx hb dL_halls_1598 rfl (lv_at hl 5 rfl) ?_
                            refine lv_iload hx hb dL_halls_1599 (lv_at hl 2 rfl) ?_
                            refine lv_iload hx hb dL_halls_1601 (lv_at hl 0 rfl) ?_
                            refine va_calli (vx_runSW (As := [.ref h, .int (nI k9), .int (nI sm)]) (rest := []) ⟨hx, hb, hml, hown, hts⟩ (cw_call l hst D cI cO cb eA mi st dO dT vF ws_23 hc_25 hM hsI (nI k9) (nI sm)) (vx_cwSW 3 hts gL_halls_L_call rfl rfl rfl kd_L_call ⟨Nat.le_of_ble_eq_true rfl, Nat.le_of_ble_eq_true rfl⟩) ⟨kB_blind, kB_pre hK hG hGT hN (fun q h9 => Or.inl h9) hS (fun q h9 => hA q (Nat.le_trans hS.1 h9)) hPw _⟩ rfl rfl hl.1 rfl (lv_room (Nat.le_of_ble_eq_true rfl)) dL_halls_1603 ⟨by show 4 + 2 ≤ 40; omega, by show 24 + 12 ≤ 1000; omega⟩) hS (fun _ _ h9 => Or.inl h9) (fun _ h9 => Or.inl h9) (fun r_53 ws_54 U8 H_58 locs_59 ht hvm hu_57 hB hz1 hk1 hS1 => ?_)
                            obtain ⟨hr_55, hc_56⟩ := hu_57
                            replace hB : va_P D vwCl ws_54 U8.heap := hB
                            rw [ht] at hB
                            replace hPa := aP_keep hPa hdB hAB hk1
                            clear hPw hS
                            have hPw := hB
                            have hS := hS1
                            clear hB hS1 hz1 hk1 hvm ht U8
                            have hv9 : er (k_call M (nI k9) (nI sm)) (r_call M (nI k9) (nI sm)) = nI (M 31 k9 + sm) := by exact (cal_g hk0 (by omega) (by omega)).2
                            rw [hv9] at hr_55
                            clear hv9
                            subst hr_55
                            have hM_60 : MI (g_call M (nI k9) (nI sm)) := MI_call hM (nI k9) (nI sm)
                            have hLB_61 : m_LB (g_call M (nI k9) (nI sm)) := (LB_call (nI k9) (nI sm)).1 hLB
                            have h15_62 : (g_call M (nI k9) (nI sm)) 15 0 ≤ M 15 0 + 1 := (LB_call (nI k9) (nI sm)).2
                            refine lv_aload hx hb dL_halls_1606 (lv_at hl 17 rfl) ?_
                            refine lv_iload hx hb dL_halls_1608 (lv_at hl 2 rfl) ?_
                            refine a_iald (f := 9) (n := 32) hx hb hKa hPa rfl (by have f1 := hk9; omega) (by decide) dL_halls_1610 ?_
                            rw [show (mu T 9 k9 ((T 9 k9) + (sm * 32))) 9 k9 = T 9 k9 + sm * 32 from (by simp [mu])]
                            refine lv_iconst (v := nI 5) hx hb dL_halls_1611 (by decide) ?_
                            refine lv_ishr hx hb dL_halls_1612 ?_
                            rw [show (nI (T 9 k9 + sm * 32)) >>> ((nI 5) &&& 31) = nI ((T 9 k9 + sm * 32) / 32) from n_shrK (by have f1 := cpd; omega) (by decide) rfl]
                            refine n_icmp_ne (tgt := 1620) hx hb dL_halls_1613 (by decide) (by have f1 := h31; omega) (by have f1 := cpd; omega) (fun c_63 => absurd (by omega) c_63) (fun c_63 => ?_)
                            refine lv_iconst (v := nI 1) hx hb dL_halls_1616 (by decide) ?_
                            refine lv_goto (tgt := 1621) hx hb dL_halls_1617 (by decide) ?_
                            have hLR : LR (g_call M (nI k9) (nI sm)) (mu T 9 k9 ((T 9 k9) + (sm * 32))) := by rw [(cal_g hk0 (by omega) (by omega)).1, Nat.mul_comm sm 32]; exact hR.callS hM (by omega)
                            have hLT : LT (mu T 9 k9 ((T 9 k9) + (sm * 32))) := by obtain ⟨u0, u1, u2, u3, u4, u5⟩ := hT; exact ⟨(LTb_mu u0 (by show _ ≤ 4194303; omega)), by simp [mu]; omega, by simp [mu]; omega, by simp [mu]; omega, by simp [mu]; omega, by simp [mu]; omega⟩
                            refine W.widen (k := 40) (n := 1000) (by omega) (by omega) ?_
                            exact W.zret (v := nI 1) hx hb hr rfl (fun U9 ht9 hW9 => ⟨⟨_, (ws_54, g_call M (nI k9) (nI sm), mu T 9 k9 ((T 9 k9) + (sm * 32))), rfl, ⟨rfl, hc_56, hM_60, hLB_61, Nat.le_trans h15_62 (Nat.succ_le_succ h15), hLR, hLT⟩, by show va_P D vwCl _ U9.heap ∧ va_P D vwCl _ U9.heap; rw [ht9]; exact ⟨hPw, hPa⟩⟩, hS.F ht9⟩) hS.2.2 dL_halls_1621
                          · have kpr := c_52
                            refine lv_aload_n hx hb dL_halls_1566 rfl (lv_at hl 5 rfl) ?_
                            refine lv_iload hx hb dL_halls_1567 (lv_at hl 2 rfl) ?_
                            refine lv_iload hx hb dL_halls_1569 (lv_at hl 0 rfl) ?_
                            refine va_calli (vx_runSW (As := [.ref h, .int (nI k9), .int (nI sm)]) (rest := []) ⟨hx, hb, hml, hown, hts⟩ (cw_call l hst D cI cO cb eA mi st dO dT vF ws_23 hc_25 hM hsI (nI k9) (nI sm)) (vx_cwSW 3 hts gL_halls_L_call rfl rfl rfl kd_L_call ⟨Nat.le_of_ble_eq_true rfl, Nat.le_of_ble_eq_true rfl⟩) ⟨kB_blind, kB_pre hK hG hGT hN (fun q h9 => Or.inl h9) hS (fun q h9 => hA q (Nat.le_trans hS.1 h9)) hPw _⟩ rfl rfl hl.1 rfl (lv_room (Nat.le_of_ble_eq_true rfl)) dL_halls_1571 ⟨by show 4 + 2 ≤ 40; omega, by show 24 + 12 ≤ 1000; omega⟩) hS (fun _ _ h9 => Or.inl h9) (fun _ h9 => Or.inl h9) (fun r_64 ws_65 U8 H_69 locs_70 ht hvm hu_68 hB hz1 hk1 hS1 => ?_)
                            obtain ⟨hr_66, hc_67⟩ := hu_68
                            replace hB : va_P D vwCl ws_65 U8.heap := hB
                            rw [ht] at hB
                            replace hPa := aP_keep hPa hdB hAB hk1
                            clear hPw hS
                            have hPw := hB
                            have hS := hS1
                            clear hB hS1 hz1 hk1 hvm ht U8
                            have hk_71 : k_call M (nI k9) (nI sm) = 3 := by rw [cal_e (by omega) (by omega) (by omega) (by omega), if_neg (fun z9 => absurd z9.2 (by unfold m_pr; rw [← d30]; omega))]
                            rw [keep_call (by rw [hk_71]; decide)] at hc_67
                            rw [hk_71] at hr_66
                            replace hr_66 : r_64 = (-7300) := hr_66
                            subst hr_66
                            refine lv_sipush (v := (-7300)) hx hb dL_halls_1574 (by decide) ?_
                            refine lv_icmp_ne (tgt := 1584) hx hb dL_halls_1577 (by decide)  (fun c9 => absurd c9 (by decide)) (fun _ => ?_)
                            refine lv_iconst (v := nI 1) hx hb dL_halls_1580 (by decide) ?_
                            refine lv_goto (tgt := 1585) hx hb dL_halls_1581 (by decide) ?_
                            have hLR : LR (M) (T) := by exact hR
                            have hLT : LT (T) := by exact hT
                            refine W.widen (k := 40) (n := 1000) (by omega) (by omega) ?_
                            exact W.zret (v := nI 1) hx hb hr rfl (fun U9 ht9 hW9 => ⟨⟨_, (ws_65, M, T), rfl, ⟨rfl, hc_67, hM, hLB, Nat.le_succ_of_le h15, hLR, hLT⟩, by show va_P D vwCl _ U9.heap ∧ va_P D vwCl _ U9.heap; rw [ht9]; exact ⟨hPw, hPa⟩⟩, hS.F ht9⟩) hS.2.2 dL_halls_1585
                    · have hk9 := hk_13
                      refine lv_iconst (v := nI 1) hx hb dL_halls_1468 (by decide) ?_
                      refine lv_iload_n hx hb dL_halls_1469 rfl (lv_at hl 7 rfl) ?_
                      refine lv_iload_n hx hb dL_halls_1470 rfl (lv_at hl 7 rfl) ?_
                      refine lv_bipush (v := nI 96) hx hb dL_halls_1471 (by decide) ?_
                      refine lv_iand hx hb dL_halls_1473 ?_
                      refine lv_if_ne (tgt := 1482) hx hb dL_halls_1474 (by decide)  (fun c_72 => ?_) (fun c_72 => ?_)
                      · refine lv_bipush (v := nI 60) hx hb dL_halls_1482 (by decide) ?_
                        refine vp_callSi (W.runS (As := [.int z, .int (nI 60)]) (rest := [.int (nI 1)]) ⟨hx, hb, hml, hown, hts⟩ (ch_low l z 60 (by omega) (by omega)) (va_cwS 2 hts gL_halls_L_low rfl rfl rfl kd_L_low ⟨Nat.le_of_ble_eq_true rfl, Nat.le_of_ble_eq_true rfl⟩) ⟨fun _ _ _ _ q => q, fun U hU hW => ⟨rfl, trivial⟩⟩ rfl rfl hl.1 rfl (lv_room (Nat.le_of_ble_eq_true rfl)) dL_halls_1484 ⟨Nat.le_of_ble_eq_true rfl, Nat.le_of_ble_eq_true rfl⟩) (fun r_73 hr_73 => ?_)
                        subst hr_73
                        have hs9 : lowN z 60 < 60 := lowN_lt _ (by decide)
                        generalize lowN z 60 = s9 at hs9 ⊢
                        refine n_iadd hx hb dL_halls_1487 (z := 1 + s9) rfl ?_
                        refine lv_istore (lv' := [(18, .int (nI (1 + s9))), (17, .int (nI ((T 9 k9) % 32))), (16, .int (nI k9)), (15, .int (nI c8)), (14, .int (nI a9)), (0, .ref h), (1, .int (nI act)), (2, .int y), (3, .int z), (4, .ref (ad 1)), (5, .ref (ad 2)), (6, .ref (ad 3)), (7, .ref (ad 4)), (8, .ref (ad 5)), (9, .ref (ad 6)), (10, .ref (ad 7)), (11, .ref (ad 8)), (12, .ref (ad 9)), (13, .ref (ad 11))]) hx hb dL_halls_1488 hl (by decide) rfl (fun ls hl => ?_)
                        exact hk_13 (1 + s9) (by have f1 := hs9; omega) ls (lv_sub hl [0, 1, 2, 3, 4, 5, 6, 7, 8, 9, 10, 11, 12, 13, 14, 15, 16, 17, 18] rfl)
                      · refine lv_ldc (v := nI 100000) hx hb hown (hts (.constant RL 166 (100000)) (List.mem_of_getElem? (i := 2) rfl)) dL_halls_1477 ?_
                        refine lv_goto (tgt := 1484) hx hb dL_halls_1479 (by decide) ?_
                        refine vp_callSi (W.runS (As := [.int z, .int (nI 100000)]) (rest := [.int (nI 1)]) ⟨hx, hb, hml, hown, hts⟩ (ch_low l z 100000 (by omega) (by omega)) (va_cwS 2 hts gL_halls_L_low rfl rfl rfl kd_L_low ⟨Nat.le_of_ble_eq_true rfl, Nat.le_of_ble_eq_true rfl⟩) ⟨fun _ _ _ _ q => q, fun U hU hW => ⟨rfl, trivial⟩⟩ rfl rfl hl.1 rfl (lv_room (Nat.le_of_ble_eq_true rfl)) dL_halls_1484 ⟨Nat.le_of_ble_eq_true rfl, Nat.le_of_ble_eq_true rfl⟩) (fun r_74 hr_74 => ?_)
                        subst hr_74
                        have hs9 : lowN z 100000 < 100000 := lowN_lt _ (by decide)
                        generalize lowN z 100000 = s9 at hs9 ⊢
                        refine n_iadd hx hb dL_halls_1487 (z := 1 + s9) rfl ?_
                        refine lv_istore (lv' := [(18, .int (nI (1 + s9))), (17, .int (nI ((T 9 k9) % 32))), (16, .int (nI k9)), (15, .int (nI c8)), (14, .int (nI a9)), (0, .ref h), (1, .int (nI act)), (2, .int y), (3, .int z), (4, .ref (ad 1)), (5, .ref (ad 2)), (6, .ref (ad 3)), (7, .ref (ad 4)), (8, .ref (ad 5)), (9, .ref (ad 6)), (10, .ref (ad 7)), (11, .ref (ad 8)), (12, .ref (ad 9)), (13, .ref (ad 11))]) hx hb dL_halls_1488 hl (by decide) rfl (fun ls hl => ?_)
                        exact hk_13 (1 + s9) (by have f1 := hs9; omega) ls (lv_sub hl [0, 1, 2, 3, 4, 5, 6, 7, 8, 9, 10, 11, 12, 13, 14, 15, 16, 17, 18] rfl)
                  · refine lv_aload_n hx hb dL_halls_1427 rfl (lv_at hl 3 rfl) ?_
                    refine lv_iload hx hb dL_halls_1428 (lv_at hl 0 rfl) ?_
                    refine lv_iconst (v := nI 0) hx hb dL_halls_1430 (by decide) ?_
                    refine va_calli (vx_runSW (As := [.ref h, .int (nI k9), .int (nI 0)]) (rest := []) ⟨hx, hb, hml, hown, hts⟩ (cw_call l hst D cI cO cb eA mi st dO dT vF ws hc hM hsI (nI k9) (nI 0)) (vx_cwSW 3 hts gL_halls_L_call rfl rfl rfl kd_L_call ⟨Nat.le_of_ble_eq_true rfl, Nat.le_of_ble_eq_true rfl⟩) ⟨kB_blind, kB_pre hK hG hGT hN (fun q h9 => Or.inl h9) hS (fun q h9 => hA q (Nat.le_trans hS.1 h9)) hPw _⟩ rfl rfl hl.1 rfl (lv_room (Nat.le_of_ble_eq_true rfl)) dL_halls_1431 ⟨by show 0 + 2 ≤ 40; omega, by show 0 + 12 ≤ 1000; omega⟩) hS (fun _ _ h9 => Or.inl h9) (fun _ h9 => Or.inl h9) (fun r_75 ws_76 U8 H_80 locs_81 ht hvm hu_79 hB hz1 hk1 hS1 => ?_)
                    obtain ⟨hr_77, hc_78⟩ := hu_79
                    replace hB : va_P D vwCl ws_76 U8.heap := hB
                    rw [ht] at hB
                    replace hPa := aP_keep hPa hdB hAB hk1
                    clear hPw hS
                    have hPw := hB
                    have hS := hS1
                    clear hB hS1 hz1 hk1 hvm ht U8
                    have hk_82 : k_call M (nI k9) (nI 0) = 1 := by exact cal_1 (by omega) (by omega) (by omega)
                    rw [keep_call (by rw [hk_82]; decide)] at hc_78
                    rw [hk_82] at hr_77
                    replace hr_77 : r_75 = (-7100) := hr_77
                    subst hr_77
                    refine lv_sipush (v := (-7100)) hx hb dL_halls_1434 (by decide) ?_
                    refine lv_icmp_ne (tgt := 1456) hx hb dL_halls_1437 (by decide)  (fun c9 => absurd c9 (by decide)) (fun _ => ?_)
                    refine lv_aload_n hx hb dL_halls_1440 rfl (lv_at hl 3 rfl) ?_
                    refine lv_iload hx hb dL_halls_1441 (lv_at hl 0 rfl) ?_
                    refine va_calli (vx_runSW (As := [.ref h, .int (nI k9)]) (rest := []) ⟨hx, hb, hml, hown, hts⟩ (cw_running l hst D cI cO cb eA mi st dO dT vF ws_76 hc_78 hM hsI (nI k9)) (vx_cwSW 2 hts gL_halls_L_running rfl rfl rfl kd_L_running ⟨Nat.le_of_ble_eq_true rfl, Nat.le_of_ble_eq_true rfl⟩) ⟨kB_blind, kB_pre hK hG hGT hN (fun q h9 => Or.inl h9) hS (fun q h9 => hA q (Nat.le_trans hS.1 h9)) hPw _⟩ rfl rfl hl.1 rfl (lv_room (Nat.le_of_ble_eq_true rfl)) dL_halls_1443 ⟨by show 2 + 1 ≤ 40; omega, by show 12 + 6 ≤ 1000; omega⟩) hS (fun _ _ h9 => Or.inl h9) (fun _ h9 => Or.inl h9) (fun r_83 ws_84 U8 H_88 locs_89 ht hvm hu_87 hB hz1 hk1 hS1 => ?_)
                    obtain ⟨hr_85, hc_86⟩ := hu_87
                    replace hB : va_P D vwCl ws_84 U8.heap := hB
                    rw [ht] at hB
                    replace hPa := aP_keep hPa hdB hAB hk1
                    clear hPw hS
                    have hPw := hB
                    have hS := hS1
                    clear hB hS1 hz1 hk1 hvm ht U8
                    have hk_90 : k_ct M (nI k9) = 1 := by exact ct_1 (by omega) (by omega) (by omega)
                    rw [hk_90] at hr_85
                    replace hr_85 : r_83 = (-7100) := hr_85
                    subst hr_85
                    refine lv_sipush (v := (-7100)) hx hb dL_halls_1446 (by decide) ?_
                    refine lv_icmp_ne (tgt := 1456) hx hb dL_halls_1449 (by decide)  (fun c9 => absurd c9 (by decide)) (fun _ => ?_)
                    refine lv_iconst (v := nI 1) hx hb dL_halls_1452 (by decide) ?_
                    refine lv_goto (tgt := 1457) hx hb dL_halls_1453 (by decide) ?_
                    have hLR : LR (M) (T) := by exact hR
                    have hLT : LT (T) := by exact hT
                    refine W.widen (k := 40) (n := 1000) (by omega) (by omega) ?_
                    exact W.zret (v := nI 1) hx hb hr rfl (fun U9 ht9 hW9 => ⟨⟨_, (ws_84, M, T), rfl, ⟨rfl, hc_86, hM, hLB, Nat.le_succ_of_le h15, hLR, hLT⟩, by show va_P D vwCl _ U9.heap ∧ va_P D vwCl _ U9.heap; rw [ht9]; exact ⟨hPw, hPa⟩⟩, hS.F ht9⟩) hS.2.2 dL_halls_1457
                · refine lv_iload hx hb dL_halls_1263 (lv_at hl 1 rfl) ?_
                  refine lv_aload hx hb dL_halls_1265 (lv_at hl 15 rfl) ?_
                  refine lv_iconst (v := nI 4) hx hb dL_halls_1267 (by decide) ?_
                  refine a_iald (f := 11) (n := 7) hx hb hKa hPa rfl (by decide) (by decide) dL_halls_1268 ?_
                  refine n_icmp_ne (tgt := 1302) hx hb dL_halls_1269 (by decide) (by have f1 := ha9; omega) (by have f1 : T 11 4 ≤ 2000 := hT.1 11 4; have f2 : T 11 4 ≤ 32 := hT.2.2.2.1; omega) (fun c_91 => ?_) (fun c_91 => ?_)
                  · refine lv_aload hx hb dL_halls_1302 (lv_at hl 12 rfl) ?_
                    refine lv_iload hx hb dL_halls_1304 (lv_at hl 1 rfl) ?_
                    refine a_iald (f := 7) (n := 32) hx hb hKa hPa rfl (by have f1 := ha9; omega) (by decide) dL_halls_1306 ?_
                    refine lv_bipush (v := nI 17) hx hb dL_halls_1307 (by decide) ?_
                    refine lv_ishr hx hb dL_halls_1309 ?_
                    rw [show (nI (T 7 a9)) >>> ((nI 17) &&& 31) = nI ((T 7 a9) / 131072) from n_shrK (by have f1 := ha9; have f2 : T 7 a9 ≤ 16777215 := hT.1 7 a9; omega) (by decide) rfl]
                    refine n_if_gt (tgt := 1329) hx hb dL_halls_1310 (by decide) (by have f1 := ha9; have f2 : T 7 a9 ≤ 16777215 := hT.1 7 a9; omega) (fun c_92 => ?_) (fun c_92 => ?_)
                    · refine lv_aload_n hx hb dL_halls_1329 rfl (lv_at hl 2 rfl) ?_
                      refine lv_iload hx hb dL_halls_1330 (lv_at hl 1 rfl) ?_
                      refine va_calli (vx_runSW (As := [.ref h, .int (nI a9)]) (rest := []) ⟨hx, hb, hml, hown, hts⟩ (cw_sign l hst D cI cO cb eA mi st dO dT vF ws hc hM hsI (nI a9)) (vx_cwSW 2 hts gL_halls_L_sign rfl rfl rfl kd_L_sign ⟨Nat.le_of_ble_eq_true rfl, Nat.le_of_ble_eq_true rfl⟩) ⟨kB_blind, kB_pre hK hG hGT hN (fun q h9 => Or.inl h9) hS (fun q h9 => hA q (Nat.le_trans hS.1 h9)) hPw _⟩ rfl rfl hl.1 rfl (lv_room (Nat.le_of_ble_eq_true rfl)) dL_halls_1332 ⟨by show 0 + 4 ≤ 40; omega, by show 0 + 120 ≤ 1000; omega⟩) hS (fun _ _ h9 => Or.inl h9) (fun _ h9 => Or.inl h9) (fun r_93 ws_94 U8 H_98 locs_99 ht hvm hu_97 hB hz1 hk1 hS1 => ?_)
                      obtain ⟨hr_95, hc_96⟩ := hu_97
                      replace hB : va_P D vwCl ws_94 U8.heap := hB
                      rw [ht] at hB
                      replace hPa := aP_keep hPa hdB hAB hk1
                      clear hPw hS
                      have hPw := hB
                      have hS := hS1
                      clear hB hS1 hz1 hk1 hvm ht U8
                      have hk_100 : k_sign M (nI a9) = 2 := by rw [sig_e (by omega) (by omega), if_neg (fun z9 => absurd z9.2 (by have e9 := (hR.aw hM (a := a9) (by omega)).2.2.2.1; omega))]
                      rw [keep_sign (by rw [hk_100]; decide)] at hc_96
                      rw [hk_100] at hr_95
                      replace hr_95 : r_93 = (-7300) := hr_95
                      subst hr_95
                      refine lv_sipush (v := (-7300)) hx hb dL_halls_1335 (by decide) ?_
                      refine lv_icmp_ne (tgt := 1345) hx hb dL_halls_1338 (by decide)  (fun c9 => absurd c9 (by decide)) (fun _ => ?_)
                      refine lv_iconst (v := nI 1) hx hb dL_halls_1341 (by decide) ?_
                      refine lv_goto (tgt := 1346) hx hb dL_halls_1342 (by decide) ?_
                      have hLR : LR (M) (T) := by exact hR
                      have hLT : LT (T) := by exact hT
                      refine W.widen (k := 40) (n := 1000) (by omega) (by omega) ?_
                      exact W.zret (v := nI 1) hx hb hr rfl (fun U9 ht9 hW9 => ⟨⟨_, (ws_94, M, T), rfl, ⟨rfl, hc_96, hM, hLB, Nat.le_succ_of_le h15, hLR, hLT⟩, by show va_P D vwCl _ U9.heap ∧ va_P D vwCl _ U9.heap; rw [ht9]; exact ⟨hPw, hPa⟩⟩, hS.F ht9⟩) hS.2.2 dL_halls_1346
                    · refine lv_aload hx hb dL_halls_1313 (lv_at hl 6 rfl) ?_
                      refine lv_aload hx hb dL_halls_1315 (lv_at hl 12 rfl) ?_
                      refine lv_aload hx hb dL_halls_1317 (lv_at hl 13 rfl) ?_
                      refine lv_aload hx hb dL_halls_1319 (lv_at hl 15 rfl) ?_
                      refine lv_iload hx hb dL_halls_1321 (lv_at hl 1 rfl) ?_
                      refine vp_callSi (W.runS (As := [.ref (ad 1), .ref (ad 7), .ref (ad 8), .ref (ad 11), .int (nI a9)]) (rest := []) ⟨hx, hb, hml, hown, hts⟩ (ch_settled l D ad cI T hT a9 (by have f1 := ha9; omega)) (va_cwS 5 hts gL_halls_L_settled rfl rfl rfl kd_L_settled ⟨Nat.le_of_ble_eq_true rfl, Nat.le_of_ble_eq_true rfl⟩) ⟨aB_blind, a_pre hKa hPa _⟩ rfl rfl hl.1 rfl (lv_room (Nat.le_of_ble_eq_true rfl)) dL_halls_1323 ⟨Nat.le_of_ble_eq_true rfl, Nat.le_of_ble_eq_true rfl⟩) (fun r_101 hr_101 => ?_)
                      subst hr_101
                      refine b_if_ne (tgt := 1347) hx hb dL_halls_1326 (by decide)  (fun c_102 => ?_) (fun c_102 => ?_)
                      · have kse2 : t_se T a9 = true := c_102
                        have aw9 := hR.aw hM (a := a9) (by omega)
                        have hk0 : k_sign M (nI a9) = 0 := by rw [sig_e (by omega) (by omega), if_pos ⟨(hR.se hM h16 (a := a9) (by omega)).symm.trans kse2, by omega⟩]
                        refine lv_aload hx hb dL_halls_1347 (lv_at hl 14 rfl) ?_
                        refine lv_aload hx hb dL_halls_1349 (lv_at hl 15 rfl) ?_
                        refine lv_bipush (v := nI 6) hx hb dL_halls_1351 (by decide) ?_
                        refine a_iald (f := 11) (n := 7) hx hb hKa hPa rfl (by decide) (by decide) dL_halls_1353 ?_
                        refine lv_iload hx hb dL_halls_1354 (lv_at hl 1 rfl) ?_
                        refine b_iast (f := 9) (n := 32) (v := a9) hx hb hKa hPa hPw hdB hc.dis hAB hS (by decide) rfl (by have f1 : T 11 6 ≤ 2000 := hT.1 11 6; have f2 : T 11 6 ≤ 32 := hT.2.2.2.2.2; omega) (by decide) (aset_9 _ _ _ _ _) dL_halls_1356 (fun H1 locs1 hPa1 hPw1 hS1 => ?_)
                        clear hPa hPw hS
                        have hPa := hPa1; have hPw := hPw1; have hS := hS1; clear hPa1 hPw1 hS1
                        refine lv_aload hx hb dL_halls_1357 (lv_at hl 15 rfl) ?_
                        refine lv_bipush (v := nI 6) hx hb dL_halls_1359 (by decide) ?_
                        refine lv_dup2_11 hx hb dL_halls_1361 rfl rfl ?_
                        refine a_iald (f := 11) (n := 7) hx hb hKa hPa rfl (by decide) (by decide) dL_halls_1362 ?_
                        rw [show (mu T 9 (T 11 6) a9) 11 6 = T 11 6 from (by simp [mu])]
                        refine lv_iconst (v := nI 1) hx hb dL_halls_1363 (by decide) ?_
                        refine n_iadd hx hb dL_halls_1364 (z := (T 11 6) + 1) rfl ?_
                        refine b_iast (f := 11) (n := 7) (v := (T 11 6) + 1) hx hb hKa hPa hPw hdB hc.dis hAB hS (by decide) rfl (by decide) (by decide) (aset_11 _ _ _ _ _) dL_halls_1365 (fun H1 locs1 hPa1 hPw1 hS1 => ?_)
                        clear hPa hPw hS
                        have hPa := hPa1; have hPw := hPw1; have hS := hS1; clear hPa1 hPw1 hS1
                        refine lv_aload hx hb dL_halls_1366 (lv_at hl 12 rfl) ?_
                        refine lv_iload hx hb dL_halls_1368 (lv_at hl 1 rfl) ?_
                        refine lv_dup2_11 hx hb dL_halls_1370 rfl rfl ?_
                        refine a_iald (f := 7) (n := 32) hx hb hKa hPa rfl (by have f1 := ha9; omega) (by decide) dL_halls_1371 ?_
                        rw [show (mu (mu T 9 (T 11 6) a9) 11 6 ((T 11 6) + 1)) 7 a9 = T 7 a9 from (by simp [mu])]
                        refine lv_aload hx hb dL_halls_1372 (lv_at hl 15 rfl) ?_
                        refine lv_bipush (v := nI 6) hx hb dL_halls_1374 (by decide) ?_
                        refine a_iald (f := 11) (n := 7) hx hb hKa hPa rfl (by decide) (by decide) dL_halls_1376 ?_
                        rw [show (mu (mu T 9 (T 11 6) a9) 11 6 ((T 11 6) + 1)) 11 6 = T 11 6 + 1 from (by simp [mu])]
                        refine lv_bipush (v := nI 17) hx hb dL_halls_1377 (by decide) ?_
                        refine lv_ishl hx hb dL_halls_1379 ?_
                        rw [show (nI (T 11 6 + 1)) <<< ((nI 17) &&& 31) = nI ((T 11 6 + 1) * 131072) from n_shlK (by decide) rfl (by have f1 := C6; omega)]
                        refine lv_ior hx hb dL_halls_1380 ?_
                        rw [show (nI (T 7 a9)) ||| (nI ((T 11 6 + 1) * 131072)) = nI (T 7 a9 + 131072 * (T 11 6 + 1)) from (by rw [n_or]; exact congrArg nI (or_hi (k := 17) (by decide) (by omega)))]
                        refine b_iast (f := 7) (n := 32) (v := T 7 a9 + 131072 * (T 11 6 + 1)) hx hb hKa hPa hPw hdB hc.dis hAB hS (by decide) rfl (by have f1 := ha9; omega) (by decide) (aset_7 _ _ _ _ _) dL_halls_1381 (fun H1 locs1 hPa1 hPw1 hS1 => ?_)
                        clear hPa hPw hS
                        have hPa := hPa1; have hPw := hPw1; have hS := hS1; clear hPa1 hPw1 hS1
                        refine lv_aload_n hx hb dL_halls_1382 rfl (lv_at hl 2 rfl) ?_
                        refine lv_iload hx hb dL_halls_1383 (lv_at hl 1 rfl) ?_
                        refine va_calli (vx_runSW (As := [.ref h, .int (nI a9)]) (rest := []) ⟨hx, hb, hml, hown, hts⟩ (cw_sign l hst D cI cO cb eA mi st dO dT vF ws hc hM hsI (nI a9)) (vx_cwSW 2 hts gL_halls_L_sign rfl rfl rfl kd_L_sign ⟨Nat.le_of_ble_eq_true rfl, Nat.le_of_ble_eq_true rfl⟩) ⟨kB_blind, kB_pre hK hG hGT hN (fun q h9 => Or.inl h9) hS (fun q h9 => hA q (Nat.le_trans hS.1 h9)) hPw _⟩ rfl rfl hl.1 rfl (lv_room (Nat.le_of_ble_eq_true rfl)) dL_halls_1385 ⟨by show 0 + 4 ≤ 40; omega, by show 0 + 120 ≤ 1000; omega⟩) hS (fun _ _ h9 => Or.inl h9) (fun _ h9 => Or.inl h9) (fun r_103 ws_104 U8 H_108 locs_109 ht hvm hu_107 hB hz1 hk1 hS1 => ?_)
                        obtain ⟨hr_105, hc_106⟩ := hu_107
                        replace hB : va_P D vwCl ws_104 U8.heap := hB
                        rw [ht] at hB
                        replace hPa := aP_keep hPa hdB hAB hk1
                        clear hPw hS
                        have hPw := hB
                        have hS := hS1
                        clear hB hS1 hz1 hk1 hvm ht U8
                        have hv9 : e13 (k_sign M (nI a9)) (r_sign M (nI a9)) = nI (T 11 6) := by rw [(sig_g hk0 (by omega)).2, g6]
                        rw [hv9] at hr_105
                        clear hv9
                        subst hr_105
                        have hM_110 : MI (g_sign M (nI a9)) := MI_sign hM (fun a9 _ _ => by omega) (nI a9)
                        have hLB_111 : m_LB (g_sign M (nI a9)) := (LB_sign (nI a9)).1 hLB
                        have h15_112 : (g_sign M (nI a9)) 15 0 ≤ M 15 0 + 1 := (LB_sign (nI a9)).2
                        refine lv_aload hx hb dL_halls_1388 (lv_at hl 15 rfl) ?_
                        refine lv_bipush (v := nI 6) hx hb dL_halls_1390 (by decide) ?_
                        refine a_iald (f := 11) (n := 7) hx hb hKa hPa rfl (by decide) (by decide) dL_halls_1392 ?_
                        rw [show (mu (mu (mu T 9 (T 11 6) a9) 11 6 ((T 11 6) + 1)) 7 a9 (T 7 a9 + 131072 * (T 11 6 + 1))) 11 6 = T 11 6 + 1 from (by simp [mu])]
                        refine lv_iconst (v := nI 1) hx hb dL_halls_1393 (by decide) ?_
                        refine n_isub hx hb dL_halls_1394 (z := (T 11 6 + 1) - 1) (by have f1 := C6; omega) rfl ?_
                        refine n_icmp_ne (tgt := 1402) hx hb dL_halls_1395 (by decide) (by have f1 := C6; omega) (by have f1 := C6; omega) (fun c_113 => absurd (by omega) c_113) (fun c_113 => ?_)
                        refine lv_iconst (v := nI 1) hx hb dL_halls_1398 (by decide) ?_
                        refine lv_goto (tgt := 1403) hx hb dL_halls_1399 (by decide) ?_
                        have hLR : LR (g_sign M (nI a9)) (mu (mu (mu T 9 (T 11 6) a9) 11 6 ((T 11 6) + 1)) 7 a9 (T 7 a9 + 131072 * (T 11 6 + 1))) := by rw [(sig_g hk0 (by omega)).1]; exact hR.signS hM (by omega) (by omega)
                        have hLT : LT (mu (mu (mu T 9 (T 11 6) a9) 11 6 ((T 11 6) + 1)) 7 a9 (T 7 a9 + 131072 * (T 11 6 + 1))) := by obtain ⟨u0, u1, u2, u3, u4, u5⟩ := hT; exact ⟨(LTb_mu (LTb_mu (LTb_mu u0 (by show _ ≤ 4194303; omega)) (by show _ ≤ 2000; omega)) (by show _ ≤ 16777215; omega)), by simp [mu]; omega, by simp [mu]; omega, by simp [mu]; omega, by simp [mu]; omega, by simp [mu]; omega⟩
                        refine W.widen (k := 40) (n := 1000) (by omega) (by omega) ?_
                        exact W.zret (v := nI 1) hx hb hr rfl (fun U9 ht9 hW9 => ⟨⟨_, (ws_104, g_sign M (nI a9), mu (mu (mu T 9 (T 11 6) a9) 11 6 ((T 11 6) + 1)) 7 a9 (T 7 a9 + 131072 * (T 11 6 + 1))), rfl, ⟨rfl, hc_106, hM_110, hLB_111, Nat.le_trans h15_112 (Nat.succ_le_succ h15), hLR, hLT⟩, by show va_P D vwCl _ U9.heap ∧ va_P D vwCl _ U9.heap; rw [ht9]; exact ⟨hPw, hPa⟩⟩, hS.F ht9⟩) hS.2.2 dL_halls_1403
                      · have kse : t_se T a9 = false := c_102
                        refine lv_aload_n hx hb dL_halls_1329 rfl (lv_at hl 2 rfl) ?_
                        refine lv_iload hx hb dL_halls_1330 (lv_at hl 1 rfl) ?_
                        refine va_calli (vx_runSW (As := [.ref h, .int (nI a9)]) (rest := []) ⟨hx, hb, hml, hown, hts⟩ (cw_sign l hst D cI cO cb eA mi st dO dT vF ws hc hM hsI (nI a9)) (vx_cwSW 2 hts gL_halls_L_sign rfl rfl rfl kd_L_sign ⟨Nat.le_of_ble_eq_true rfl, Nat.le_of_ble_eq_true rfl⟩) ⟨kB_blind, kB_pre hK hG hGT hN (fun q h9 => Or.inl h9) hS (fun q h9 => hA q (Nat.le_trans hS.1 h9)) hPw _⟩ rfl rfl hl.1 rfl (lv_room (Nat.le_of_ble_eq_true rfl)) dL_halls_1332 ⟨by show 0 + 4 ≤ 40; omega, by show 0 + 120 ≤ 1000; omega⟩) hS (fun _ _ h9 => Or.inl h9) (fun _ h9 => Or.inl h9) (fun r_114 ws_115 U8 H_119 locs_120 ht hvm hu_118 hB hz1 hk1 hS1 => ?_)
                        obtain ⟨hr_116, hc_117⟩ := hu_118
                        replace hB : va_P D vwCl ws_115 U8.heap := hB
                        rw [ht] at hB
                        replace hPa := aP_keep hPa hdB hAB hk1
                        clear hPw hS
                        have hPw := hB
                        have hS := hS1
                        clear hB hS1 hz1 hk1 hvm ht U8
                        have hk_121 : k_sign M (nI a9) = 2 := by rw [sig_e (by omega) (by omega), if_neg (fun z9 => absurd (z9.1.symm.trans ((hR.se hM h16 (a := a9) (by omega)).symm.trans kse)) (by decide))]
                        rw [keep_sign (by rw [hk_121]; decide)] at hc_117
                        rw [hk_121] at hr_116
                        replace hr_116 : r_114 = (-7300) := hr_116
                        subst hr_116
                        refine lv_sipush (v := (-7300)) hx hb dL_halls_1335 (by decide) ?_
                        refine lv_icmp_ne (tgt := 1345) hx hb dL_halls_1338 (by decide)  (fun c9 => absurd c9 (by decide)) (fun _ => ?_)
                        refine lv_iconst (v := nI 1) hx hb dL_halls_1341 (by decide) ?_
                        refine lv_goto (tgt := 1346) hx hb dL_halls_1342 (by decide) ?_
                        have hLR : LR (M) (T) := by exact hR
                        have hLT : LT (T) := by exact hT
                        refine W.widen (k := 40) (n := 1000) (by omega) (by omega) ?_
                        exact W.zret (v := nI 1) hx hb hr rfl (fun U9 ht9 hW9 => ⟨⟨_, (ws_115, M, T), rfl, ⟨rfl, hc_117, hM, hLB, Nat.le_succ_of_le h15, hLR, hLT⟩, by show va_P D vwCl _ U9.heap ∧ va_P D vwCl _ U9.heap; rw [ht9]; exact ⟨hPw, hPa⟩⟩, hS.F ht9⟩) hS.2.2 dL_halls_1346
                  · refine lv_aload_n hx hb dL_halls_1272 rfl (lv_at hl 2 rfl) ?_
                    refine lv_iload hx hb dL_halls_1273 (lv_at hl 1 rfl) ?_
                    refine va_calli (vx_runSW (As := [.ref h, .int (nI a9)]) (rest := []) ⟨hx, hb, hml, hown, hts⟩ (cw_sign l hst D cI cO cb eA mi st dO dT vF ws hc hM hsI (nI a9)) (vx_cwSW 2 hts gL_halls_L_sign rfl rfl rfl kd_L_sign ⟨Nat.le_of_ble_eq_true rfl, Nat.le_of_ble_eq_true rfl⟩) ⟨kB_blind, kB_pre hK hG hGT hN (fun q h9 => Or.inl h9) hS (fun q h9 => hA q (Nat.le_trans hS.1 h9)) hPw _⟩ rfl rfl hl.1 rfl (lv_room (Nat.le_of_ble_eq_true rfl)) dL_halls_1275 ⟨by show 0 + 4 ≤ 40; omega, by show 0 + 120 ≤ 1000; omega⟩) hS (fun _ _ h9 => Or.inl h9) (fun _ h9 => Or.inl h9) (fun r_122 ws_123 U8 H_127 locs_128 ht hvm hu_126 hB hz1 hk1 hS1 => ?_)
                    obtain ⟨hr_124, hc_125⟩ := hu_126
                    replace hB : va_P D vwCl ws_123 U8.heap := hB
                    rw [ht] at hB
                    replace hPa := aP_keep hPa hdB hAB hk1
                    clear hPw hS
                    have hPw := hB
                    have hS := hS1
                    clear hB hS1 hz1 hk1 hvm ht U8
                    have hk_129 : k_sign M (nI a9) = 1 := by exact sig_1 (by omega) (by omega) (by omega)
                    rw [keep_sign (by rw [hk_129]; decide)] at hc_125
                    rw [hk_129] at hr_124
                    replace hr_124 : r_122 = (-7100) := hr_124
                    subst hr_124
                    refine lv_sipush (v := (-7100)) hx hb dL_halls_1278 (by decide) ?_
                    refine lv_icmp_ne (tgt := 1300) hx hb dL_halls_1281 (by decide)  (fun c9 => absurd c9 (by decide)) (fun _ => ?_)
                    refine lv_aload_n hx hb dL_halls_1284 rfl (lv_at hl 2 rfl) ?_
                    refine lv_iload hx hb dL_halls_1285 (lv_at hl 1 rfl) ?_
                    refine va_calli (vx_runSW (As := [.ref h, .int (nI a9)]) (rest := []) ⟨hx, hb, hml, hown, hts⟩ (cw_winner l hst D cI cO cb eA mi st dO dT vF ws_123 hc_125 hM hsI (nI a9)) (vx_cwSW 2 hts gL_halls_L_winner rfl rfl rfl kd_L_winner ⟨Nat.le_of_ble_eq_true rfl, Nat.le_of_ble_eq_true rfl⟩) ⟨kB_blind, kB_pre hK hG hGT hN (fun q h9 => Or.inl h9) hS (fun q h9 => hA q (Nat.le_trans hS.1 h9)) hPw _⟩ rfl rfl hl.1 rfl (lv_room (Nat.le_of_ble_eq_true rfl)) dL_halls_1287 ⟨by show 4 + 1 ≤ 40; omega, by show 120 + 6 ≤ 1000; omega⟩) hS (fun _ _ h9 => Or.inl h9) (fun _ h9 => Or.inl h9) (fun r_130 ws_131 U8 H_135 locs_136 ht hvm hu_134 hB hz1 hk1 hS1 => ?_)
                    obtain ⟨hr_132, hc_133⟩ := hu_134
                    replace hB : va_P D vwCl ws_131 U8.heap := hB
                    rw [ht] at hB
                    replace hPa := aP_keep hPa hdB hAB hk1
                    clear hPw hS
                    have hPw := hB
                    have hS := hS1
                    clear hB hS1 hz1 hk1 hvm ht U8
                    have hk_137 : k_aw M (nI a9) = 1 := by exact aw_1 (by omega) (by omega) (by omega)
                    rw [hk_137] at hr_132
                    replace hr_132 : r_130 = (-7100) := hr_132
                    subst hr_132
                    refine lv_sipush (v := (-7100)) hx hb dL_halls_1290 (by decide) ?_
                    refine lv_icmp_ne (tgt := 1300) hx hb dL_halls_1293 (by decide)  (fun c9 => absurd c9 (by decide)) (fun _ => ?_)
                    refine lv_iconst (v := nI 1) hx hb dL_halls_1296 (by decide) ?_
                    refine lv_goto (tgt := 1301) hx hb dL_halls_1297 (by decide) ?_
                    have hLR : LR (M) (T) := by exact hR
                    have hLT : LT (T) := by exact hT
                    refine W.widen (k := 40) (n := 1000) (by omega) (by omega) ?_
                    exact W.zret (v := nI 1) hx hb hr rfl (fun U9 ht9 hW9 => ⟨⟨_, (ws_131, M, T), rfl, ⟨rfl, hc_133, hM, hLB, Nat.le_succ_of_le h15, hLR, hLT⟩, by show va_P D vwCl _ U9.heap ∧ va_P D vwCl _ U9.heap; rw [ht9]; exact ⟨hPw, hPa⟩⟩, hS.F ht9⟩) hS.2.2 dL_halls_1301
              · have ab9 := hR.ab hM h16 (c := c8) (by omega)
                have cb9 := hR.c8 hM h16 c8 (by omega)
                refine lv_aload hx hb dL_halls_1140 (lv_at hl 13 rfl) ?_
                refine lv_iload hx hb dL_halls_1142 (lv_at hl 0 rfl) ?_
                refine a_iald (f := 8) (n := 32) hx hb hKa hPa rfl (by have f1 := hc8.1; omega) (by decide) dL_halls_1144 ?_
                refine lv_istore (lv' := [(16, .int (nI (T 8 c8))), (15, .int (nI c8)), (14, .int (nI a9)), (0, .ref h), (1, .int (nI act)), (2, .int y), (3, .int z), (4, .ref (ad 1)), (5, .ref (ad 2)), (6, .ref (ad 3)), (7, .ref (ad 4)), (8, .ref (ad 5)), (9, .ref (ad 6)), (10, .ref (ad 7)), (11, .ref (ad 8)), (12, .ref (ad 9)), (13, .ref (ad 11))]) hx hb dL_halls_1145 hl (by decide) rfl (fun ls hl => ?_)
                refine lv_iload hx hb dL_halls_1147 (lv_at hl 0 rfl) ?_
                refine lv_bipush (v := nI 9) hx hb dL_halls_1149 (by decide) ?_
                refine lv_ishr hx hb dL_halls_1151 ?_
                rw [show (nI (T 8 c8)) >>> ((nI 9) &&& 31) = nI ((T 8 c8) / 512) from n_shrK (by have f1 := hc8.1; have f2 : T 8 c8 ≤ 16777215 := hT.1 8 c8; omega) (by decide) rfl]
                refine lv_iconst (v := nI 3) hx hb dL_halls_1152 (by decide) ?_
                refine lv_iand hx hb dL_halls_1153 ?_
                rw [show (nI ((T 8 c8) / 512)) &&& (nI 3) = nI (((T 8 c8) / 512) % 4) from n_andK (k := 2) (by have f1 := hc8.1; have f2 : T 8 c8 ≤ 16777215 := hT.1 8 c8; omega) (by decide) (by decide) rfl]
                refine lv_iconst (v := nI 2) hx hb dL_halls_1154 (by decide) ?_
                refine n_icmp_ne (tgt := 1197) hx hb dL_halls_1155 (by decide) (by have f1 := hc8.1; have f2 : T 8 c8 ≤ 16777215 := hT.1 8 c8; omega) (by decide) (fun c_138 => ?_) (fun c_138 => ?_)
                · refine lv_aload_n hx hb dL_halls_1197 rfl (lv_at hl 3 rfl) ?_
                  refine lv_iload hx hb dL_halls_1198 (lv_at hl 1 rfl) ?_
                  refine va_calli (vx_runSW (As := [.ref h, .int (nI c8)]) (rest := []) ⟨hx, hb, hml, hown, hts⟩ (cw_appeal l hst D cI cO cb eA mi st dO dT vF ws hc hM hsI (nI c8)) (vx_cwSW 2 hts gL_halls_L_appeal rfl rfl rfl kd_L_appeal ⟨Nat.le_of_ble_eq_true rfl, Nat.le_of_ble_eq_true rfl⟩) ⟨kB_blind, kB_pre hK hG hGT hN (fun q h9 => Or.inl h9) hS (fun q h9 => hA q (Nat.le_trans hS.1 h9)) hPw _⟩ rfl rfl hl.1 rfl (lv_room (Nat.le_of_ble_eq_true rfl)) dL_halls_1200 ⟨by show 0 + 2 ≤ 40; omega, by show 0 + 12 ≤ 1000; omega⟩) hS (fun _ _ h9 => Or.inl h9) (fun _ h9 => Or.inl h9) (fun r_139 ws_140 U8 H_144 locs_145 ht hvm hu_143 hB hz1 hk1 hS1 => ?_)
                  obtain ⟨hr_141, hc_142⟩ := hu_143
                  replace hB : va_P D vwCl ws_140 U8.heap := hB
                  rw [ht] at hB
                  replace hPa := aP_keep hPa hdB hAB hk1
                  clear hPw hS
                  have hPw := hB
                  have hS := hS1
                  clear hB hS1 hz1 hk1 hvm ht U8
                  have hk_146 : k_appeal M (nI c8) = 2 := by rw [app_e (by omega) (by omega), if_neg (fun z9 => absurd z9.1 (by omega))]
                  rw [keep_appeal (by rw [hk_146]; decide)] at hc_142
                  rw [hk_146] at hr_141
                  replace hr_141 : r_139 = (-7300) := hr_141
                  subst hr_141
                  refine lv_sipush (v := (-7300)) hx hb dL_halls_1203 (by decide) ?_
                  refine lv_icmp_ne (tgt := 1213) hx hb dL_halls_1206 (by decide)  (fun c9 => absurd c9 (by decide)) (fun _ => ?_)
                  refine lv_iconst (v := nI 1) hx hb dL_halls_1209 (by decide) ?_
                  refine lv_goto (tgt := 1214) hx hb dL_halls_1210 (by decide) ?_
                  have hLR : LR (M) (T) := by exact hR
                  have hLT : LT (T) := by exact hT
                  refine W.widen (k := 40) (n := 1000) (by omega) (by omega) ?_
                  exact W.zret (v := nI 1) hx hb hr rfl (fun U9 ht9 hW9 => ⟨⟨_, (ws_140, M, T), rfl, ⟨rfl, hc_142, hM, hLB, Nat.le_succ_of_le h15, hLR, hLT⟩, by show va_P D vwCl _ U9.heap ∧ va_P D vwCl _ U9.heap; rw [ht9]; exact ⟨hPw, hPa⟩⟩, hS.F ht9⟩) hS.2.2 dL_halls_1214
                · refine lv_iload hx hb dL_halls_1158 (lv_at hl 0 rfl) ?_
                  refine lv_bipush (v := nI 11) hx hb dL_halls_1160 (by decide) ?_
                  refine lv_ishr hx hb dL_halls_1162 ?_
                  rw [show (nI (T 8 c8)) >>> ((nI 11) &&& 31) = nI ((T 8 c8) / 2048) from n_shrK (by have f1 := hc8.1; have f2 : T 8 c8 ≤ 16777215 := hT.1 8 c8; omega) (by decide) rfl]
                  refine lv_iconst (v := nI 1) hx hb dL_halls_1163 (by decide) ?_
                  refine lv_iand hx hb dL_halls_1164 ?_
                  rw [show (nI ((T 8 c8) / 2048)) &&& (nI 1) = nI (((T 8 c8) / 2048) % 2) from n_andK (k := 1) (by have f1 := hc8.1; have f2 : T 8 c8 ≤ 16777215 := hT.1 8 c8; omega) (by decide) (by decide) rfl]
                  refine lv_iconst (v := nI 1) hx hb dL_halls_1165 (by decide) ?_
                  refine n_icmp_eq (tgt := 1197) hx hb dL_halls_1166 (by decide) (by have f1 := hc8.1; have f2 : T 8 c8 ≤ 16777215 := hT.1 8 c8; omega) (by decide) (fun c_147 => ?_) (fun c_147 => ?_)
                  · refine lv_aload_n hx hb dL_halls_1197 rfl (lv_at hl 3 rfl) ?_
                    refine lv_iload hx hb dL_halls_1198 (lv_at hl 1 rfl) ?_
                    refine va_calli (vx_runSW (As := [.ref h, .int (nI c8)]) (rest := []) ⟨hx, hb, hml, hown, hts⟩ (cw_appeal l hst D cI cO cb eA mi st dO dT vF ws hc hM hsI (nI c8)) (vx_cwSW 2 hts gL_halls_L_appeal rfl rfl rfl kd_L_appeal ⟨Nat.le_of_ble_eq_true rfl, Nat.le_of_ble_eq_true rfl⟩) ⟨kB_blind, kB_pre hK hG hGT hN (fun q h9 => Or.inl h9) hS (fun q h9 => hA q (Nat.le_trans hS.1 h9)) hPw _⟩ rfl rfl hl.1 rfl (lv_room (Nat.le_of_ble_eq_true rfl)) dL_halls_1200 ⟨by show 0 + 2 ≤ 40; omega, by show 0 + 12 ≤ 1000; omega⟩) hS (fun _ _ h9 => Or.inl h9) (fun _ h9 => Or.inl h9) (fun r_148 ws_149 U8 H_153 locs_154 ht hvm hu_152 hB hz1 hk1 hS1 => ?_)
                    obtain ⟨hr_150, hc_151⟩ := hu_152
                    replace hB : va_P D vwCl ws_149 U8.heap := hB
                    rw [ht] at hB
                    replace hPa := aP_keep hPa hdB hAB hk1
                    clear hPw hS
                    have hPw := hB
                    have hS := hS1
                    clear hB hS1 hz1 hk1 hvm ht U8
                    have hk_155 : k_appeal M (nI c8) = 2 := by rw [app_e (by omega) (by omega), if_neg (fun z9 => absurd z9.2.1 (by omega))]
                    rw [keep_appeal (by rw [hk_155]; decide)] at hc_151
                    rw [hk_155] at hr_150
                    replace hr_150 : r_148 = (-7300) := hr_150
                    subst hr_150
                    refine lv_sipush (v := (-7300)) hx hb dL_halls_1203 (by decide) ?_
                    refine lv_icmp_ne (tgt := 1213) hx hb dL_halls_1206 (by decide)  (fun c9 => absurd c9 (by decide)) (fun _ => ?_)
                    refine lv_iconst (v := nI 1) hx hb dL_halls_1209 (by decide) ?_
                    refine lv_goto (tgt := 1214) hx hb dL_halls_1210 (by decide) ?_
                    have hLR : LR (M) (T) := by exact hR
                    have hLT : LT (T) := by exact hT
                    refine W.widen (k := 40) (n := 1000) (by omega) (by omega) ?_
                    exact W.zret (v := nI 1) hx hb hr rfl (fun U9 ht9 hW9 => ⟨⟨_, (ws_149, M, T), rfl, ⟨rfl, hc_151, hM, hLB, Nat.le_succ_of_le h15, hLR, hLT⟩, by show va_P D vwCl _ U9.heap ∧ va_P D vwCl _ U9.heap; rw [ht9]; exact ⟨hPw, hPa⟩⟩, hS.F ht9⟩) hS.2.2 dL_halls_1214
                  · refine lv_aload hx hb dL_halls_1169 (lv_at hl 16 rfl) ?_
                    refine lv_iconst (v := nI 0) hx hb dL_halls_1171 (by decide) ?_
                    refine a_iald (f := 11) (n := 7) hx hb hKa hPa rfl (by decide) (by decide) dL_halls_1172 ?_
                    refine lv_iload hx hb dL_halls_1173 (lv_at hl 0 rfl) ?_
                    refine lv_bipush (v := nI 12) hx hb dL_halls_1175 (by decide) ?_
                    refine lv_ishr hx hb dL_halls_1177 ?_
                    rw [show (nI (T 8 c8)) >>> ((nI 12) &&& 31) = nI ((T 8 c8) / 4096) from n_shrK (by have f1 := hc8.1; have f2 : T 8 c8 ≤ 16777215 := hT.1 8 c8; omega) (by decide) rfl]
                    refine n_isub hx hb dL_halls_1178 (z := (T 11 0) - ((T 8 c8) / 4096)) (by have f1 : T 11 0 ≤ 2000 := hT.1 11 0; have f2 := hc8.1; have f3 : T 8 c8 ≤ 16777215 := hT.1 8 c8; omega) rfl ?_
                    refine lv_bipush (v := nI 10) hx hb dL_halls_1179 (by decide) ?_
                    refine n_icmp_gt (tgt := 1197) hx hb dL_halls_1181 (by decide) (by have f1 : T 11 0 ≤ 2000 := hT.1 11 0; have f2 := hc8.1; have f3 : T 8 c8 ≤ 16777215 := hT.1 8 c8; omega) (by decide) (fun c_156 => ?_) (fun c_156 => ?_)
                    · refine lv_aload_n hx hb dL_halls_1197 rfl (lv_at hl 3 rfl) ?_
                      refine lv_iload hx hb dL_halls_1198 (lv_at hl 1 rfl) ?_
                      refine va_calli (vx_runSW (As := [.ref h, .int (nI c8)]) (rest := []) ⟨hx, hb, hml, hown, hts⟩ (cw_appeal l hst D cI cO cb eA mi st dO dT vF ws hc hM hsI (nI c8)) (vx_cwSW 2 hts gL_halls_L_appeal rfl rfl rfl kd_L_appeal ⟨Nat.le_of_ble_eq_true rfl, Nat.le_of_ble_eq_true rfl⟩) ⟨kB_blind, kB_pre hK hG hGT hN (fun q h9 => Or.inl h9) hS (fun q h9 => hA q (Nat.le_trans hS.1 h9)) hPw _⟩ rfl rfl hl.1 rfl (lv_room (Nat.le_of_ble_eq_true rfl)) dL_halls_1200 ⟨by show 0 + 2 ≤ 40; omega, by show 0 + 12 ≤ 1000; omega⟩) hS (fun _ _ h9 => Or.inl h9) (fun _ h9 => Or.inl h9) (fun r_157 ws_158 U8 H_162 locs_163 ht hvm hu_161 hB hz1 hk1 hS1 => ?_)
                      obtain ⟨hr_159, hc_160⟩ := hu_161
                      replace hB : va_P D vwCl ws_158 U8.heap := hB
                      rw [ht] at hB
                      replace hPa := aP_keep hPa hdB hAB hk1
                      clear hPw hS
                      have hPw := hB
                      have hS := hS1
                      clear hB hS1 hz1 hk1 hvm ht U8
                      have hk_164 : k_appeal M (nI c8) = 2 := by rw [app_e (by omega) (by omega), if_neg (fun z9 => absurd z9.2.2.1 (by have e9 := ab9.2.2.2.2.2.1; rw [if_pos z9.1] at e9; omega))]
                      rw [keep_appeal (by rw [hk_164]; decide)] at hc_160
                      rw [hk_164] at hr_159
                      replace hr_159 : r_157 = (-7300) := hr_159
                      subst hr_159
                      refine lv_sipush (v := (-7300)) hx hb dL_halls_1203 (by decide) ?_
                      refine lv_icmp_ne (tgt := 1213) hx hb dL_halls_1206 (by decide)  (fun c9 => absurd c9 (by decide)) (fun _ => ?_)
                      refine lv_iconst (v := nI 1) hx hb dL_halls_1209 (by decide) ?_
                      refine lv_goto (tgt := 1214) hx hb dL_halls_1210 (by decide) ?_
                      have hLR : LR (M) (T) := by exact hR
                      have hLT : LT (T) := by exact hT
                      refine W.widen (k := 40) (n := 1000) (by omega) (by omega) ?_
                      exact W.zret (v := nI 1) hx hb hr rfl (fun U9 ht9 hW9 => ⟨⟨_, (ws_158, M, T), rfl, ⟨rfl, hc_160, hM, hLB, Nat.le_succ_of_le h15, hLR, hLT⟩, by show va_P D vwCl _ U9.heap ∧ va_P D vwCl _ U9.heap; rw [ht9]; exact ⟨hPw, hPa⟩⟩, hS.F ht9⟩) hS.2.2 dL_halls_1214
                    · refine lv_aload hx hb dL_halls_1184 (lv_at hl 13 rfl) ?_
                      refine lv_iload hx hb dL_halls_1186 (lv_at hl 0 rfl) ?_
                      refine lv_bipush (v := nI 31) hx hb dL_halls_1188 (by decide) ?_
                      refine lv_iand hx hb dL_halls_1190 ?_
                      rw [show (nI (T 8 c8)) &&& (nI 31) = nI ((T 8 c8) % 32) from n_andK (k := 5) (by have f1 := hc8.1; have f2 : T 8 c8 ≤ 16777215 := hT.1 8 c8; omega) (by decide) (by decide) rfl]
                      refine vp_callSi (W.runS (As := [.ref (ad 7), .int (nI ((T 8 c8) % 32))]) (rest := []) ⟨hx, hb, hml, hown, hts⟩ (ch_gone l D ad cI T hT ((T 8 c8) % 32) (by have f1 := hc8.1; have f2 : T 8 c8 ≤ 16777215 := hT.1 8 c8; omega)) (va_cwS 2 hts gL_halls_L_gone rfl rfl rfl kd_L_gone ⟨Nat.le_of_ble_eq_true rfl, Nat.le_of_ble_eq_true rfl⟩) ⟨aB_blind, a_pre hKa hPa _⟩ rfl rfl hl.1 rfl (lv_room (Nat.le_of_ble_eq_true rfl)) dL_halls_1191 ⟨Nat.le_of_ble_eq_true rfl, Nat.le_of_ble_eq_true rfl⟩) (fun r_165 hr_165 => ?_)
                      subst hr_165
                      refine b_if_eq (tgt := 1215) hx hb dL_halls_1194 (by decide)  (fun c_166 => ?_) (fun c_166 => ?_)
                      · have kgo2 : t_gn T (T 8 c8 % 32) = false := c_166
                        have hk0 : k_appeal M (nI c8) = 0 := by rw [app_e (by omega) (by omega)]; have e9 := ab9.2.2.2.2.2.1; rw [if_pos (by omega : M 26 c8 = 2)] at e9; exact if_pos ⟨by omega, by omega, by omega, by have e8 := hR.gn hM (a := M 23 c8) (by omega); rw [← ab9.1] at e8 ⊢; rw [kgo2] at e8; simpa using e8.symm⟩
                        have Lap := hR.appealS hM h16 (c := c8) (by omega)
                        refine lv_aload hx hb dL_halls_1215 (lv_at hl 14 rfl) ?_
                        refine lv_iload hx hb dL_halls_1217 (lv_at hl 1 rfl) ?_
                        refine lv_iload hx hb dL_halls_1219 (lv_at hl 0 rfl) ?_
                        refine lv_sipush (v := nI 511) hx hb dL_halls_1221 (by decide) ?_
                        refine lv_iand hx hb dL_halls_1224 ?_
                        rw [show (nI (T 8 c8)) &&& (nI 511) = nI ((T 8 c8) % 512) from n_andK (k := 9) (by have f1 := hc8.1; have f2 : T 8 c8 ≤ 16777215 := hT.1 8 c8; omega) (by decide) (by decide) rfl]
                        refine lv_sipush (v := nI 2048) hx hb dL_halls_1225 (by decide) ?_
                        refine lv_ior hx hb dL_halls_1228 ?_
                        rw [show (nI ((T 8 c8) % 512)) ||| (nI 2048) = nI (T 8 c8 % 512 + 2048) from (by rw [n_or]; exact congrArg nI (or_2k (by omega)))]
                        refine b_iast (f := 8) (n := 32) (v := T 8 c8 % 512 + 2048) hx hb hKa hPa hPw hdB hc.dis hAB hS (by decide) rfl (by have f1 := hc8.1; omega) (by decide) (aset_8 _ _ _ _ _) dL_halls_1229 (fun H1 locs1 hPa1 hPw1 hS1 => ?_)
                        clear hPa hPw hS
                        have hPa := hPa1; have hPw := hPw1; have hS := hS1; clear hPa1 hPw1 hS1
                        have hTa : LT (mu T 8 c8 (T 8 c8 % 512 + 2048)) := by obtain ⟨u0, u1, u2, u3, u4, u5⟩ := hT; exact ⟨LTb_mu u0 (by show _ ≤ 16777215; omega), by simpa [mu] using u1, by simpa [mu] using u2, by simpa [mu] using u3, by simpa [mu] using u4, by simpa [mu] using u5⟩
                        rw [← (app_g hk0 (by omega)).1] at Lap
                        have hM_AP : MI (g_appeal M (nI c8)) := MI_appeal hM (nI c8)
                        have oo8 : m_oo (g_appeal M (nI c8)) (M 23 c8) = t_oo (mu T 8 c8 (T 8 c8 % 512 + 2048)) (T 8 c8 % 32) := by rw [ab9.1]; exact (Lap.oo hM_AP (by rw [show g_appeal M (nI c8) 16 = M 16 from by rw [(app_g hk0 (by omega)).1]; funext k9; simp [mu]]; omega) _).symm
                        have oo9 : m_oo (g_appeal M (nI c8)) (M 23 c8) ≤ 60 := Nat.le_trans (m_oof_le _ _ _) (hM_AP 22 0)
                        refine lv_aload_n hx hb dL_halls_1230 rfl (lv_at hl 3 rfl) ?_
                        refine lv_iload hx hb dL_halls_1231 (lv_at hl 1 rfl) ?_
                        refine va_calli (vx_runSW (As := [.ref h, .int (nI c8)]) (rest := []) ⟨hx, hb, hml, hown, hts⟩ (cw_appeal l hst D cI cO cb eA mi st dO dT vF ws hc hM hsI (nI c8)) (vx_cwSW 2 hts gL_halls_L_appeal rfl rfl rfl kd_L_appeal ⟨Nat.le_of_ble_eq_true rfl, Nat.le_of_ble_eq_true rfl⟩) ⟨kB_blind, kB_pre hK hG hGT hN (fun q h9 => Or.inl h9) hS (fun q h9 => hA q (Nat.le_trans hS.1 h9)) hPw _⟩ rfl rfl hl.1 rfl (lv_room (Nat.le_of_ble_eq_true rfl)) dL_halls_1233 ⟨by show 0 + 2 ≤ 40; omega, by show 0 + 12 ≤ 1000; omega⟩) hS (fun _ _ h9 => Or.inl h9) (fun _ h9 => Or.inl h9) (fun r_167 ws_168 U8 H_172 locs_173 ht hvm hu_171 hB hz1 hk1 hS1 => ?_)
                        obtain ⟨hr_169, hc_170⟩ := hu_171
                        replace hB : va_P D vwCl ws_168 U8.heap := hB
                        rw [ht] at hB
                        replace hPa := aP_keep hPa hdB hAB hk1
                        clear hPw hS
                        have hPw := hB
                        have hS := hS1
                        clear hB hS1 hz1 hk1 hvm ht U8
                        have hv9 : e13 (k_appeal M (nI c8)) (r_appeal M (nI c8)) = nI (m_oo (g_appeal M (nI c8)) (M 23 c8)) := by exact (app_g hk0 (by omega)).2
                        rw [hv9] at hr_169
                        clear hv9
                        subst hr_169
                        have hM_174 : MI (g_appeal M (nI c8)) := MI_appeal hM (nI c8)
                        have hLB_175 : m_LB (g_appeal M (nI c8)) := (LB_appeal (nI c8)).1 hLB
                        have h15_176 : (g_appeal M (nI c8)) 15 0 ≤ M 15 0 + 1 := (LB_appeal (nI c8)).2
                        refine lv_aload hx hb dL_halls_1236 (lv_at hl 14 rfl) ?_
                        refine lv_aload hx hb dL_halls_1238 (lv_at hl 16 rfl) ?_
                        refine lv_iload hx hb dL_halls_1240 (lv_at hl 0 rfl) ?_
                        refine lv_bipush (v := nI 31) hx hb dL_halls_1242 (by decide) ?_
                        refine lv_iand hx hb dL_halls_1244 ?_
                        rw [show (nI (T 8 c8)) &&& (nI 31) = nI ((T 8 c8) % 32) from n_andK (k := 5) (by have f1 := hc8.1; have f2 : T 8 c8 ≤ 16777215 := hT.1 8 c8; omega) (by decide) (by decide) rfl]
                        refine vp_callSi (W.runS (As := [.ref (ad 8), .ref (ad 11), .int (nI ((T 8 c8) % 32))]) (rest := [.int (nI (m_oo (g_appeal M (nI c8)) (M 23 c8)))]) ⟨hx, hb, hml, hown, hts⟩ (ch_openOnes l D ad cI (mu T 8 c8 (T 8 c8 % 512 + 2048)) hTa ((T 8 c8) % 32) (by have f1 := hc8.1; have f2 : T 8 c8 ≤ 16777215 := hT.1 8 c8; omega)) (va_cwS 3 hts gL_halls_L_openOnes rfl rfl rfl kd_L_openOnes ⟨Nat.le_of_ble_eq_true rfl, Nat.le_of_ble_eq_true rfl⟩) ⟨aB_blind, a_pre hKa hPa _⟩ rfl rfl hl.1 rfl (lv_room (Nat.le_of_ble_eq_true rfl)) dL_halls_1245 ⟨Nat.le_of_ble_eq_true rfl, Nat.le_of_ble_eq_true rfl⟩) (fun r_177 hr_177 => ?_)
                        subst hr_177
                        refine n_icmp_ne (tgt := 1255) hx hb dL_halls_1248 (by decide) (by have f1 := oo9; omega) (by have f1 : t_oo (mu T 8 c8 (T 8 c8 % 512 + 2048)) ((T 8 c8) % 32) ≤ (mu T 8 c8 (T 8 c8 % 512 + 2048)) 11 5 := t_oof_le ((T 8 c8) % 32) ((mu T 8 c8 (T 8 c8 % 512 + 2048)) 11 5); have f2 : (mu T 8 c8 (T 8 c8 % 512 + 2048)) 11 5 ≤ 32 := hTa.2.2.2.2.1; omega) (fun c_178 => absurd oo8 c_178) (fun c_178 => ?_)
                        refine lv_iconst (v := nI 1) hx hb dL_halls_1251 (by decide) ?_
                        refine lv_goto (tgt := 1256) hx hb dL_halls_1252 (by decide) ?_
                        have hLR : LR (g_appeal M (nI c8)) (mu T 8 c8 (T 8 c8 % 512 + 2048)) := by exact Lap
                        have hLT : LT (mu T 8 c8 (T 8 c8 % 512 + 2048)) := by exact hTa
                        refine W.widen (k := 40) (n := 1000) (by omega) (by omega) ?_
                        exact W.zret (v := nI 1) hx hb hr rfl (fun U9 ht9 hW9 => ⟨⟨_, (ws_168, g_appeal M (nI c8), mu T 8 c8 (T 8 c8 % 512 + 2048)), rfl, ⟨rfl, hc_170, hM_174, hLB_175, Nat.le_trans h15_176 (Nat.succ_le_succ h15), hLR, hLT⟩, by show va_P D vwCl _ U9.heap ∧ va_P D vwCl _ U9.heap; rw [ht9]; exact ⟨hPw, hPa⟩⟩, hS.F ht9⟩) hS.2.2 dL_halls_1256
                      · have kgo : t_gn T (T 8 c8 % 32) = true := c_166
                        refine lv_aload_n hx hb dL_halls_1197 rfl (lv_at hl 3 rfl) ?_
                        refine lv_iload hx hb dL_halls_1198 (lv_at hl 1 rfl) ?_
                        refine va_calli (vx_runSW (As := [.ref h, .int (nI c8)]) (rest := []) ⟨hx, hb, hml, hown, hts⟩ (cw_appeal l hst D cI cO cb eA mi st dO dT vF ws hc hM hsI (nI c8)) (vx_cwSW 2 hts gL_halls_L_appeal rfl rfl rfl kd_L_appeal ⟨Nat.le_of_ble_eq_true rfl, Nat.le_of_ble_eq_true rfl⟩) ⟨kB_blind, kB_pre hK hG hGT hN (fun q h9 => Or.inl h9) hS (fun q h9 => hA q (Nat.le_trans hS.1 h9)) hPw _⟩ rfl rfl hl.1 rfl (lv_room (Nat.le_of_ble_eq_true rfl)) dL_halls_1200 ⟨by show 0 + 2 ≤ 40; omega, by show 0 + 12 ≤ 1000; omega⟩) hS (fun _ _ h9 => Or.inl h9) (fun _ h9 => Or.inl h9) (fun r_179 ws_180 U8 H_184 locs_185 ht hvm hu_183 hB hz1 hk1 hS1 => ?_)
                        obtain ⟨hr_181, hc_182⟩ := hu_183
                        replace hB : va_P D vwCl ws_180 U8.heap := hB
                        rw [ht] at hB
                        replace hPa := aP_keep hPa hdB hAB hk1
                        clear hPw hS
                        have hPw := hB
                        have hS := hS1
                        clear hB hS1 hz1 hk1 hvm ht U8
                        have hk_186 : k_appeal M (nI c8) = 2 := by rw [app_e (by omega) (by omega), if_neg (fun z9 => absurd z9.2.2.2 (by have e9 := hR.gn hM (a := M 23 c8) (by omega); rw [← ab9.1] at e9 ⊢; rw [kgo] at e9; intro z8; rw [z8] at e9; cases e9))]
                        rw [keep_appeal (by rw [hk_186]; decide)] at hc_182
                        rw [hk_186] at hr_181
                        replace hr_181 : r_179 = (-7300) := hr_181
                        subst hr_181
                        refine lv_sipush (v := (-7300)) hx hb dL_halls_1203 (by decide) ?_
                        refine lv_icmp_ne (tgt := 1213) hx hb dL_halls_1206 (by decide)  (fun c9 => absurd c9 (by decide)) (fun _ => ?_)
                        refine lv_iconst (v := nI 1) hx hb dL_halls_1209 (by decide) ?_
                        refine lv_goto (tgt := 1214) hx hb dL_halls_1210 (by decide) ?_
                        have hLR : LR (M) (T) := by exact hR
                        have hLT : LT (T) := by exact hT
                        refine W.widen (k := 40) (n := 1000) (by omega) (by omega) ?_
                        exact W.zret (v := nI 1) hx hb hr rfl (fun U9 ht9 hW9 => ⟨⟨_, (ws_180, M, T), rfl, ⟨rfl, hc_182, hM, hLB, Nat.le_succ_of_le h15, hLR, hLT⟩, by show va_P D vwCl _ U9.heap ∧ va_P D vwCl _ U9.heap; rw [ht9]; exact ⟨hPw, hPa⟩⟩, hS.F ht9⟩) hS.2.2 dL_halls_1214
            · have ab9 := hR.ab hM h16 (c := c8) (by omega)
              have cb9 := hR.c8 hM h16 c8 (by omega)
              refine lv_aload hx hb dL_halls_779 (lv_at hl 13 rfl) ?_
              refine lv_iload hx hb dL_halls_781 (lv_at hl 0 rfl) ?_
              refine a_iald (f := 8) (n := 32) hx hb hKa hPa rfl (by have f1 := hc8.1; omega) (by decide) dL_halls_783 ?_
              refine lv_bipush (v := nI 31) hx hb dL_halls_784 (by decide) ?_
              refine lv_iand hx hb dL_halls_786 ?_
              rw [show (nI (T 8 c8)) &&& (nI 31) = nI ((T 8 c8) % 32) from n_andK (k := 5) (by have f1 := hc8.1; have f2 : T 8 c8 ≤ 16777215 := hT.1 8 c8; omega) (by decide) (by decide) rfl]
              refine lv_istore (lv' := [(16, .int (nI ((T 8 c8) % 32))), (15, .int (nI c8)), (14, .int (nI a9)), (0, .ref h), (1, .int (nI act)), (2, .int y), (3, .int z), (4, .ref (ad 1)), (5, .ref (ad 2)), (6, .ref (ad 3)), (7, .ref (ad 4)), (8, .ref (ad 5)), (9, .ref (ad 6)), (10, .ref (ad 7)), (11, .ref (ad 8)), (12, .ref (ad 9)), (13, .ref (ad 11))]) hx hb dL_halls_787 hl (by decide) rfl (fun ls hl => ?_)
              refine w_joinB (nL := 21) (pc1 := 804) (sk1 := []) (fun up => [(17, .int (bi up)), (16, .int (nI ((T 8 c8) % 32))), (15, .int (nI c8)), (14, .int (nI a9)), (0, .ref h), (1, .int (nI act)), (2, .int y), (3, .int z), (4, .ref (ad 1)), (5, .ref (ad 2)), (6, .ref (ad 3)), (7, .ref (ad 4)), (8, .ref (ad 5)), (9, .ref (ad 6)), (10, .ref (ad 7)), (11, .ref (ad 8)), (12, .ref (ad 9)), (13, .ref (ad 11))]) (fun up => up = up) (fun up hup ls hl => ?_) (fun hk_187 => ?_)
              · have hup9 := hup
                refine lv_iload_n hx hb dL_halls_804 rfl (lv_at hl 7 rfl) ?_
                refine lv_iconst (v := nI 4) hx hb dL_halls_805 (by decide) ?_
                refine lv_ishr hx hb dL_halls_806 ?_
                refine lv_bipush (v := nI 101) hx hb dL_halls_807 (by decide) ?_
                refine vp_callSi (W.runS (As := [.int (z >>> ((nI 4) &&& 31)), .int (nI 101)]) (rest := []) ⟨hx, hb, hml, hown, hts⟩ (ch_low l (z >>> ((nI 4) &&& 31)) 101 (by omega) (by omega)) (va_cwS 2 hts gL_halls_L_low rfl rfl rfl kd_L_low ⟨Nat.le_of_ble_eq_true rfl, Nat.le_of_ble_eq_true rfl⟩) ⟨fun _ _ _ _ q => q, fun U hU hW => ⟨rfl, trivial⟩⟩ rfl rfl hl.1 rfl (lv_room (Nat.le_of_ble_eq_true rfl)) dL_halls_809 ⟨Nat.le_of_ble_eq_true rfl, Nat.le_of_ble_eq_true rfl⟩) (fun r_188 hr_188 => ?_)
                subst hr_188
                have hq9 : lowN (z >>> ((nI 4) &&& 31)) 101 < 101 := lowN_lt _ (by decide)
                generalize lowN (z >>> ((nI 4) &&& 31)) 101 = q9 at hq9 ⊢
                refine lv_istore (lv' := [(18, .int (nI q9)), (17, .int (bi up)), (16, .int (nI ((T 8 c8) % 32))), (15, .int (nI c8)), (14, .int (nI a9)), (0, .ref h), (1, .int (nI act)), (2, .int y), (3, .int z), (4, .ref (ad 1)), (5, .ref (ad 2)), (6, .ref (ad 3)), (7, .ref (ad 4)), (8, .ref (ad 5)), (9, .ref (ad 6)), (10, .ref (ad 7)), (11, .ref (ad 8)), (12, .ref (ad 9)), (13, .ref (ad 11))]) hx hb dL_halls_812 hl (by decide) rfl (fun ls hl => ?_)
                refine lv_aload_n hx hb dL_halls_814 rfl (lv_at hl 5 rfl) ?_
                refine lv_iload hx hb dL_halls_815 (lv_at hl 3 rfl) ?_
                refine lv_iload hx hb dL_halls_817 (lv_at hl 1 rfl) ?_
                refine lv_bipush (v := nI 101) hx hb dL_halls_819 (by decide) ?_
                refine va_calli (vx_runSW (As := [.ref h, .int (nI c8), .int (bi up), .int (nI 101)]) (rest := []) ⟨hx, hb, hml, hown, hts⟩ (cw_rule l hst D cI cO cb eA mi st dO dT vF ws hc hM hsI (nI c8) up (nI 101)) (vx_cwSW 4 hts gL_halls_L_rule rfl rfl rfl kd_L_rule ⟨Nat.le_of_ble_eq_true rfl, Nat.le_of_ble_eq_true rfl⟩) ⟨kB_blind, kB_pre hK hG hGT hN (fun q h9 => Or.inl h9) hS (fun q h9 => hA q (Nat.le_trans hS.1 h9)) hPw _⟩ rfl rfl hl.1 rfl (lv_room (Nat.le_of_ble_eq_true rfl)) dL_halls_821 ⟨by show 0 + 6 ≤ 40; omega, by show 0 + 214 ≤ 1000; omega⟩) hS (fun _ _ h9 => Or.inl h9) (fun _ h9 => Or.inl h9) (fun r_189 ws_190 U8 H_194 locs_195 ht hvm hu_193 hB hz1 hk1 hS1 => ?_)
                obtain ⟨hr_191, hc_192⟩ := hu_193
                replace hB : va_P D vwCl ws_190 U8.heap := hB
                rw [ht] at hB
                replace hPa := aP_keep hPa hdB hAB hk1
                clear hPw hS
                have hPw := hB
                have hS := hS1
                clear hB hS1 hz1 hk1 hvm ht U8
                have hk_196 : k_rule M (nI c8) up (nI 101) = 2 := by exact rul_2 (by omega) (by omega) (ii_f (a := 101) (lo := 0) (hi := 100) (by omega) (by omega) (by omega) (by omega))
                rw [keep_rule (by rw [hk_196]; decide)] at hc_192
                rw [hk_196] at hr_191
                replace hr_191 : r_189 = (-7200) := hr_191
                subst hr_191
                refine lv_sipush (v := (-7200)) hx hb dL_halls_824 (by decide) ?_
                refine lv_icmp_ne (tgt := 845) hx hb dL_halls_827 (by decide)  (fun c9 => absurd c9 (by decide)) (fun _ => ?_)
                refine lv_aload_n hx hb dL_halls_830 rfl (lv_at hl 5 rfl) ?_
                refine lv_iload hx hb dL_halls_831 (lv_at hl 3 rfl) ?_
                refine lv_iload hx hb dL_halls_833 (lv_at hl 1 rfl) ?_
                refine lv_iconst (v := (-1)) hx hb dL_halls_835 (by decide) ?_
                refine va_calli (vx_runSW (As := [.ref h, .int (nI c8), .int (bi up), .int (-1)]) (rest := []) ⟨hx, hb, hml, hown, hts⟩ (cw_rule l hst D cI cO cb eA mi st dO dT vF ws_190 hc_192 hM hsI (nI c8) up (-1)) (vx_cwSW 4 hts gL_halls_L_rule rfl rfl rfl kd_L_rule ⟨Nat.le_of_ble_eq_true rfl, Nat.le_of_ble_eq_true rfl⟩) ⟨kB_blind, kB_pre hK hG hGT hN (fun q h9 => Or.inl h9) hS (fun q h9 => hA q (Nat.le_trans hS.1 h9)) hPw _⟩ rfl rfl hl.1 rfl (lv_room (Nat.le_of_ble_eq_true rfl)) dL_halls_836 ⟨by show 6 + 6 ≤ 40; omega, by show 214 + 214 ≤ 1000; omega⟩) hS (fun _ _ h9 => Or.inl h9) (fun _ h9 => Or.inl h9) (fun r_197 ws_198 U8 H_202 locs_203 ht hvm hu_201 hB hz1 hk1 hS1 => ?_)
                obtain ⟨hr_199, hc_200⟩ := hu_201
                replace hB : va_P D vwCl ws_198 U8.heap := hB
                rw [ht] at hB
                replace hPa := aP_keep hPa hdB hAB hk1
                clear hPw hS
                have hPw := hB
                have hS := hS1
                clear hB hS1 hz1 hk1 hvm ht U8
                have hk_204 : k_rule M (nI c8) up (-1) = 2 := by exact rul_2 (by omega) (by omega) (i_in_neg (by decide) (by decide) (by decide))
                rw [keep_rule (by rw [hk_204]; decide)] at hc_200
                rw [hk_204] at hr_199
                replace hr_199 : r_197 = (-7200) := hr_199
                subst hr_199
                refine lv_sipush (v := (-7200)) hx hb dL_halls_839 (by decide) ?_
                refine lv_icmp_eq (tgt := 847) hx hb dL_halls_842 (by decide)  (fun _ => ?_) (fun c9 => absurd c9 (by decide))
                refine lv_aload hx hb dL_halls_847 (lv_at hl 16 rfl) ?_
                refine lv_iload hx hb dL_halls_849 (lv_at hl 3 rfl) ?_
                refine a_iald (f := 8) (n := 32) hx hb hKa hPa rfl (by have f1 := hc8.1; omega) (by decide) dL_halls_851 ?_
                refine lv_bipush (v := nI 9) hx hb dL_halls_852 (by decide) ?_
                refine lv_ishr hx hb dL_halls_854 ?_
                rw [show (nI (T 8 c8)) >>> ((nI 9) &&& 31) = nI ((T 8 c8) / 512) from n_shrK (by have f1 := hc8.1; have f2 : T 8 c8 ≤ 16777215 := hT.1 8 c8; omega) (by decide) rfl]
                refine lv_iconst (v := nI 3) hx hb dL_halls_855 (by decide) ?_
                refine lv_iand hx hb dL_halls_856 ?_
                rw [show (nI ((T 8 c8) / 512)) &&& (nI 3) = nI (((T 8 c8) / 512) % 4) from n_andK (k := 2) (by have f1 := hc8.1; have f2 : T 8 c8 ≤ 16777215 := hT.1 8 c8; omega) (by decide) (by decide) rfl]
                refine n_if_eq (tgt := 882) hx hb dL_halls_857 (by decide) (by have f1 := hc8.1; have f2 : T 8 c8 ≤ 16777215 := hT.1 8 c8; omega) (fun c_205 => ?_) (fun c_205 => ?_)
                · refine lv_iload hx hb dL_halls_882 (lv_at hl 1 rfl) ?_
                  refine b_if_ne (tgt := 932) hx hb dL_halls_884 (by decide)  (fun c_206 => ?_) (fun c_206 => ?_)
                  · have ko : M 26 c8 = 0 := by omega
                    have hk0 : k_rule M (nI c8) true (nI q9) = 0 := by rw [rul_e (by omega) (by omega) (by omega), if_pos ⟨ko, Or.inr (by omega)⟩]
                    obtain ⟨rd1, rd2⟩ := hRD c8 (by omega)
                    have kv := rd1 ko
                    have aw9 := hR.aw hM (a := M 23 c8) (by omega)
                    have lot9 := hR.2.2.2.2.2.2.1 (M 23 c8) (by omega)
                    have bo9 := hR.bo hM (a := M 23 c8) (by omega)
                    have e23 := ab9.1
                    rw [← e23] at aw9 lot9 bo9 kv
                    have cp7 : T 7 (T 8 c8 % 32) ≤ 16777215 := hT.1 7 _
                    refine lv_aload hx hb dL_halls_932 (lv_at hl 16 rfl) ?_
                    refine lv_iload hx hb dL_halls_934 (lv_at hl 3 rfl) ?_
                    refine a_iald (f := 8) (n := 32) hx hb hKa hPa rfl (by have f1 := hc8.1; omega) (by decide) dL_halls_936 ?_
                    refine lv_bipush (v := nI 7) hx hb dL_halls_937 (by decide) ?_
                    refine lv_ishr hx hb dL_halls_939 ?_
                    rw [show (nI (T 8 c8)) >>> ((nI 7) &&& 31) = nI ((T 8 c8) / 128) from n_shrK (by have f1 := hc8.1; have f2 : T 8 c8 ≤ 16777215 := hT.1 8 c8; omega) (by decide) rfl]
                    refine lv_iconst (v := nI 3) hx hb dL_halls_940 (by decide) ?_
                    refine lv_iand hx hb dL_halls_941 ?_
                    rw [show (nI ((T 8 c8) / 128)) &&& (nI 3) = nI (((T 8 c8) / 128) % 4) from n_andK (k := 2) (by have f1 := hc8.1; have f2 : T 8 c8 ≤ 16777215 := hT.1 8 c8; omega) (by decide) (by decide) rfl]
                    refine lv_istore (lv' := [(19, .int (nI (((T 8 c8) / 128) % 4))), (18, .int (nI q9)), (17, .int (bi up)), (16, .int (nI ((T 8 c8) % 32))), (15, .int (nI c8)), (14, .int (nI a9)), (0, .ref h), (1, .int (nI act)), (2, .int y), (3, .int z), (4, .ref (ad 1)), (5, .ref (ad 2)), (6, .ref (ad 3)), (7, .ref (ad 4)), (8, .ref (ad 5)), (9, .ref (ad 6)), (10, .ref (ad 7)), (11, .ref (ad 8)), (12, .ref (ad 9)), (13, .ref (ad 11))]) hx hb dL_halls_942 hl (by decide) rfl (fun ls hl => ?_)
                    refine lv_aload hx hb dL_halls_944 (lv_at hl 15 rfl) ?_
                    refine lv_aload hx hb dL_halls_946 (lv_at hl 19 rfl) ?_
                    refine lv_iconst (v := nI 3) hx hb dL_halls_948 (by decide) ?_
                    refine a_iald (f := 11) (n := 7) hx hb hKa hPa rfl (by decide) (by decide) dL_halls_949 ?_
                    refine lv_iload hx hb dL_halls_950 (lv_at hl 0 rfl) ?_
                    refine lv_iconst (v := nI 4) hx hb dL_halls_952 (by decide) ?_
                    refine lv_iload hx hb dL_halls_953 (lv_at hl 0 rfl) ?_
                    refine lv_iconst (v := nI 2) hx hb dL_halls_955 (by decide) ?_
                    refine n_icmp_ge (tgt := 969) hx hb dL_halls_956 (by decide) (by have f1 := hc8.1; have f2 : T 8 c8 ≤ 16777215 := hT.1 8 c8; omega) (by decide) (fun c_207 => ?_) (fun c_207 => ?_)
                    · refine lv_iconst (v := nI 4) hx hb dL_halls_969 (by decide) ?_
                      refine lv_aload hx hb dL_halls_970 (lv_at hl 16 rfl) ?_
                      refine lv_iload hx hb dL_halls_972 (lv_at hl 3 rfl) ?_
                      refine a_iald (f := 7) (n := 32) hx hb hKa hPa rfl (by have f1 := hc8.1; have f2 : T 8 c8 ≤ 16777215 := hT.1 8 c8; omega) (by decide) dL_halls_974 ?_
                      refine lv_iconst (v := nI 3) hx hb dL_halls_975 (by decide) ?_
                      refine lv_iand hx hb dL_halls_976 ?_
                      rw [show (nI (T 7 ((T 8 c8) % 32))) &&& (nI 3) = nI ((T 7 ((T 8 c8) % 32)) % 4) from n_andK (k := 2) (by have f1 := hc8.1; have f2 : T 8 c8 ≤ 16777215 := hT.1 8 c8; have f3 : T 7 ((T 8 c8) % 32) ≤ 16777215 := hT.1 7 ((T 8 c8) % 32); omega) (by decide) (by decide) rfl]
                      refine n_imul hx hb dL_halls_977 (z := 4 * ((T 7 ((T 8 c8) % 32)) % 4)) rfl ?_
                      refine lv_aload hx hb dL_halls_978 (lv_at hl 17 rfl) ?_
                      refine lv_iload hx hb dL_halls_980 (lv_at hl 4 rfl) ?_
                      refine a_iald (f := 8) (n := 32) hx hb hKa hPa rfl (by have f1 := hc8.1; omega) (by decide) dL_halls_982 ?_
                      refine lv_iconst (v := nI 5) hx hb dL_halls_983 (by decide) ?_
                      refine lv_ishr hx hb dL_halls_984 ?_
                      rw [show (nI (T 8 c8)) >>> ((nI 5) &&& 31) = nI ((T 8 c8) / 32) from n_shrK (by have f1 := hc8.1; have f2 : T 8 c8 ≤ 16777215 := hT.1 8 c8; omega) (by decide) rfl]
                      refine lv_iconst (v := nI 3) hx hb dL_halls_985 (by decide) ?_
                      refine lv_iand hx hb dL_halls_986 ?_
                      rw [show (nI ((T 8 c8) / 32)) &&& (nI 3) = nI (((T 8 c8) / 32) % 4) from n_andK (k := 2) (by have f1 := hc8.1; have f2 : T 8 c8 ≤ 16777215 := hT.1 8 c8; omega) (by decide) (by decide) rfl]
                      refine n_iadd hx hb dL_halls_987 (z := (4 * ((T 7 ((T 8 c8) % 32)) % 4)) + (((T 8 c8) / 32) % 4)) rfl ?_
                      refine n_imul hx hb dL_halls_988 (z := 4 * ((4 * ((T 7 ((T 8 c8) % 32)) % 4)) + (((T 8 c8) / 32) % 4))) rfl ?_
                      refine n_iadd hx hb dL_halls_989 (z := (((T 8 c8) / 128) % 4) + (4 * ((4 * ((T 7 ((T 8 c8) % 32)) % 4)) + (((T 8 c8) / 32) % 4)))) rfl ?_
                      refine lv_iload hx hb dL_halls_990 (lv_at hl 0 rfl) ?_
                      refine lv_iconst (v := nI 1) hx hb dL_halls_992 (by decide) ?_
                      refine n_icmp_ne (tgt := 1004) hx hb dL_halls_993 (by decide) (by have f1 := hc8.1; have f2 : T 8 c8 ≤ 16777215 := hT.1 8 c8; omega) (by decide) (fun c_208 => ?_) (fun c_208 => ?_)
                      · refine lv_iconst (v := nI 0) hx hb dL_halls_1004 (by decide) ?_
                        refine n_iadd hx hb dL_halls_1005 (z := ((((T 8 c8) / 128) % 4) + (4 * ((4 * ((T 7 ((T 8 c8) % 32)) % 4)) + (((T 8 c8) / 32) % 4)))) + 0) rfl ?_
                        refine b_iast (f := 6) (n := 60) (v := ((((T 8 c8) / 128) % 4) + (4 * ((4 * ((T 7 ((T 8 c8) % 32)) % 4)) + (((T 8 c8) / 32) % 4)))) + 0) hx hb hKa hPa hPw hdB hc_200.dis hAB hS (by decide) rfl (by have f1 : T 11 3 ≤ 2000 := hT.1 11 3; have f2 : T 11 3 ≤ 60 := hT.2.2.1; omega) (by decide) (aset_6 _ _ _ _ _) dL_halls_1006 (fun H1 locs1 hPa1 hPw1 hS1 => ?_)
                        clear hPa hPw hS
                        have hPa := hPa1; have hPw := hPw1; have hS := hS1; clear hPa1 hPw1 hS1
                        refine lv_aload hx hb dL_halls_1007 (lv_at hl 19 rfl) ?_
                        refine lv_iconst (v := nI 3) hx hb dL_halls_1009 (by decide) ?_
                        refine lv_dup2_11 hx hb dL_halls_1010 rfl rfl ?_
                        refine a_iald (f := 11) (n := 7) hx hb hKa hPa rfl (by decide) (by decide) dL_halls_1011 ?_
                        rw [show (mu T 6 (T 11 3) (((((T 8 c8) / 128) % 4) + (4 * ((4 * ((T 7 ((T 8 c8) % 32)) % 4)) + (((T 8 c8) / 32) % 4)))) + 0)) 11 3 = T 11 3 from (by simp [mu])]
                        refine lv_iconst (v := nI 1) hx hb dL_halls_1012 (by decide) ?_
                        refine n_iadd hx hb dL_halls_1013 (z := (T 11 3) + 1) rfl ?_
                        refine b_iast (f := 11) (n := 7) (v := (T 11 3) + 1) hx hb hKa hPa hPw hdB hc_200.dis hAB hS (by decide) rfl (by decide) (by decide) (aset_11 _ _ _ _ _) dL_halls_1014 (fun H1 locs1 hPa1 hPw1 hS1 => ?_)
                        clear hPa hPw hS
                        have hPa := hPa1; have hPw := hPw1; have hS := hS1; clear hPa1 hPw1 hS1
                        have Lup := hR.upS hM h16 (c := c8) (q0 := (4 * (T 7 (T 8 c8 % 32) % 4) + T 8 c8 / 32 % 4)) (qv := 0) (qx := q9) (by omega) ko (by rw [← e23]; exact kv) (by omega) (by rw [← ab9.2.2.1]; first | rw [if_pos (by assumption)] | rw [if_neg (by omega)]) (by rw [← ab9.2.2.1, ← e23, ← ab9.2.1]; first | rw [if_pos (by omega)] | rw [if_neg (by omega)]) (fun z9 => rd2 z9 (by rw [← e23]; exact kv)) hRX.x2
                        rw [← ab9.2.2.1, ← e23] at Lup
                        have eE : mu (mu T 6 (T 11 3) (((((T 8 c8) / 128) % 4) + (4 * ((4 * ((T 7 ((T 8 c8) % 32)) % 4)) + (((T 8 c8) / 32) % 4)))) + 0)) 11 3 ((T 11 3) + 1) = mu (mu T 6 (T 11 3) (T 8 c8 / 128 % 4 + 4 * (4 * (T 7 (T 8 c8 % 32) % 4) + T 8 c8 / 32 % 4) + 64 * 0)) 11 3 (T 11 3 + 1) := by first | rfl | (congr 2; omega)
                        rw [eE] at hPa
                        have hTe : LT (mu (mu T 6 (T 11 3) (T 8 c8 / 128 % 4 + 4 * (4 * (T 7 (T 8 c8 % 32) % 4) + T 8 c8 / 32 % 4) + 64 * 0)) 11 3 (T 11 3 + 1)) := ⟨LTb_mu (LTb_mu hT.1 (by show _ ≤ 8191; omega)) (by show _ ≤ 2000; omega), by simp [mu]; omega, by simp [mu]; omega, by simp [mu]; omega, by simp [mu]; omega, by simp [mu]; omega⟩
                        have h8e : ∀ k, k < T 11 5 → (mu (mu T 6 (T 11 3) (T 8 c8 / 128 % 4 + 4 * (4 * (T 7 (T 8 c8 % 32) % 4) + T 8 c8 / 32 % 4) + 64 * 0)) 11 3 (T 11 3 + 1)) 8 k ≤ 10000000 := fun k hk => by simpa [mu] using hR.c8 hM h16 k hk
                        refine lv_iconst (v := nI 0) hx hb dL_halls_1015 (by decide) ?_
                        refine lv_istore (lv' := [(20, .int (nI 0)), (19, .int (nI (((T 8 c8) / 128) % 4))), (18, .int (nI q9)), (17, .int (bi up)), (16, .int (nI ((T 8 c8) % 32))), (15, .int (nI c8)), (14, .int (nI a9)), (0, .ref h), (1, .int (nI act)), (2, .int y), (3, .int z), (4, .ref (ad 1)), (5, .ref (ad 2)), (6, .ref (ad 3)), (7, .ref (ad 4)), (8, .ref (ad 5)), (9, .ref (ad 6)), (10, .ref (ad 7)), (11, .ref (ad 8)), (12, .ref (ad 9)), (13, .ref (ad 11))]) hx hb dL_halls_1016 hl (by decide) rfl (fun ls hl => ?_)
                        have eI_209 : T 8 c8 % 32 = (T 8 c8) % 32 := by rfl
                        have eI_210 : T 8 c8 / 128 % 4 = ((T 8 c8) / 128) % 4 := by rfl
                        replace hPa : va_P D vwCl (aws ad cI (t_moo (mu (mu T 6 (T 11 3) (T 8 c8 / 128 % 4 + 4 * (4 * (T 7 (T 8 c8 % 32) % 4) + T 8 c8 / 32 % 4) + 64 * 0)) 11 3 (T 11 3 + 1)) (T 8 c8 % 32) c8 0)) _ := hPa
                        refine b_loop (D := D) (ad := ad) (cI := cI) (A := fun q => A q ∨ B q) (ws := ws_198) (n := T 11 5) (nL := 21) (fun k => [(0, .ref h), (1, .int (nI act)), (2, .int y), (3, .int z), (4, .ref (ad 1)), (5, .ref (ad 2)), (6, .ref (ad 3)), (7, .ref (ad 4)), (8, .ref (ad 5)), (9, .ref (ad 6)), (10, .ref (ad 7)), (11, .ref (ad 8)), (12, .ref (ad 9)), (13, .ref (ad 11)), (14, .int (nI a9)), (15, .int (nI c8)), (16, .int (nI (T 8 c8 % 32))), (17, .int (bi up)), (18, .int (nI q9)), (19, .int (nI (T 8 c8 / 128 % 4))), (20, .int (nI k))]) (fun k => t_moo (mu (mu T 6 (T 11 3) (T 8 c8 / 128 % 4 + 4 * (4 * (T 7 (T 8 c8 % 32) % 4) + T 8 c8 / 32 % 4) + 64 * 0)) 11 3 (T 11 3 + 1)) (T 8 c8 % 32) c8 k) (fun k hb_211 ih_212 H_213 locs_214 ls hPa9 hPw9 hS9 hl => ?_) 0 (by omega) _ _ ls hPa hPw hS (lv_sub hl [7, 8, 9, 10, 11, 12, 13, 14, 15, 16, 17, 18, 19, 20, 6, 5, 4, 3, 2, 1, 0] (by show lv_pick _ _ = [(0, .ref h), (1, .int (nI act)), (2, .int y), (3, .int z), (4, .ref (ad 1)), (5, .ref (ad 2)), (6, .ref (ad 3)), (7, .ref (ad 4)), (8, .ref (ad 5)), (9, .ref (ad 6)), (10, .ref (ad 7)), (11, .ref (ad 8)), (12, .ref (ad 9)), (13, .ref (ad 11)), (14, .int (nI a9)), (15, .int (nI c8)), (16, .int (nI (T 8 c8 % 32))), (17, .int (bi up)), (18, .int (nI q9)), (19, .int (nI (T 8 c8 / 128 % 4))), (20, .int (nI 0))]; rw [eI_209, eI_210]; rfl))
                        clear hPa hPw hS
                        have hPa := hPa9; have hPw := hPw9; have hS := hS9; clear hPa9 hPw9 hS9
                        have hTk : LT (t_moo (mu (mu T 6 (T 11 3) (T 8 c8 / 128 % 4 + 4 * (4 * (T 7 (T 8 c8 % 32) % 4) + T 8 c8 / 32 % 4) + 64 * 0)) 11 3 (T 11 3 + 1)) (T 8 c8 % 32) c8 k) := LT_moo hTe k (fun k9 hk9 => h8e k9 (by omega))
                        refine lv_iload hx hb dL_halls_1018 (lv_at hl 20 rfl) ?_
                        refine lv_aload hx hb dL_halls_1020 (lv_at hl 13 rfl) ?_
                        refine lv_iconst (v := nI 5) hx hb dL_halls_1022 (by decide) ?_
                        refine a_iald (f := 11) (n := 7) hx hb hKa hPa rfl (by decide) (by decide) dL_halls_1023 ?_
                        rw [show (t_moo (mu (mu T 6 (T 11 3) (T 8 c8 / 128 % 4 + 4 * (4 * (T 7 (T 8 c8 % 32) % 4) + T 8 c8 / 32 % 4) + 64 * 0)) 11 3 (T 11 3 + 1)) (T 8 c8 % 32) c8 k) 11 5 = T 11 5 from (by rw [t_moo_nf _ _ _ (by decide)]; simp [mu])]
                        refine n_icmp_ge (tgt := 1082) hx hb dL_halls_1024 (by decide) (by omega) (by have f1 := C5; omega) (fun c_215 => ?_) (fun c_215 => ?_)
                        · obtain rfl : T 11 5 = k := by omega
                          have hTm : LT (t_moo (mu (mu T 6 (T 11 3) (T 8 c8 / 128 % 4 + 4 * (4 * (T 7 (T 8 c8 % 32) % 4) + T 8 c8 / 32 % 4) + 64 * 0)) 11 3 (T 11 3 + 1)) (T 8 c8 % 32) c8 (T 11 5)) := LT_moo hTe _ h8e
                          refine lv_aload hx hb dL_halls_1082 (lv_at hl 10 rfl) ?_
                          refine lv_iload hx hb dL_halls_1084 (lv_at hl 16 rfl) ?_
                          refine lv_dup2_11 hx hb dL_halls_1086 rfl rfl ?_
                          refine a_iald (f := 7) (n := 32) hx hb hKa hPa rfl (by omega) (by decide) dL_halls_1087 ?_
                          rw [show (t_moo (mu (mu T 6 (T 11 3) (T 8 c8 / 128 % 4 + 4 * (4 * (T 7 (T 8 c8 % 32) % 4) + T 8 c8 / 32 % 4) + 64 * 0)) 11 3 (T 11 3 + 1)) (T 8 c8 % 32) c8 (T 11 5)) 7 (T 8 c8 % 32) = T 7 (T 8 c8 % 32) from (by rw [t_moo_nf _ _ _ (by decide)]; simp [mu])]
                          refine lv_ldc (v := nI 65536) hx hb hown (hts (.constant RL 172 (65536)) (List.mem_of_getElem? (i := 1) rfl)) dL_halls_1088 ?_
                          refine lv_ior hx hb dL_halls_1090 ?_
                          rw [show (nI (T 7 (T 8 c8 % 32))) ||| (nI 65536) = nI (T 7 (T 8 c8 % 32) + 65536) from (by rw [n_or]; exact congrArg nI (or_16 (by omega)))]
                          refine b_iast (f := 7) (n := 32) (v := T 7 (T 8 c8 % 32) + 65536) hx hb hKa hPa hPw hdB hc_200.dis hAB hS (by decide) rfl (by omega) (by decide) (aset_7 _ _ _ _ _) dL_halls_1091 (fun H1 locs1 hPa1 hPw1 hS1 => ?_)
                          clear hPa hPw hS
                          have hPa := hPa1; have hPw := hPw1; have hS := hS1; clear hPa1 hPw1 hS1
                          have hTu : LT (mu (t_moo (mu (mu T 6 (T 11 3) (T 8 c8 / 128 % 4 + 4 * (4 * (T 7 (T 8 c8 % 32) % 4) + T 8 c8 / 32 % 4) + 64 * 0)) 11 3 (T 11 3 + 1)) (T 8 c8 % 32) c8 (T 11 5)) 7 (T 8 c8 % 32) (T 7 (T 8 c8 % 32) + 65536)) := by obtain ⟨u0, u1, u2, u3, u4, u5⟩ := hTm; exact ⟨LTb_mu u0 (by show _ ≤ 16777215; have f2 := lot9.2.1; have f3 : M 19 (T 8 c8 % 32) ≤ 2000 := hM 19 _; have f4 : M 21 (T 8 c8 % 32) ≤ 60 := hM 21 _; omega), by simpa [mu] using u1, by simpa [mu] using u2, by simpa [mu] using u3, by simpa [mu] using u4, by simpa [mu] using u5⟩
                          have Mup := MI_up2 hM c8 (show q9 ≤ 100 by omega)
                          have x3 : m_up2 M c8 q9 3 = M 3 := m_up2_nf M c8 q9 (by decide)
                          have x8 : m_up2 M c8 q9 8 = M 8 := m_up2_nf M c8 q9 (by decide)
                          have hgv := Lup.gv Mup (j := T 7 (T 8 c8 % 32) % 4) (by omega) (by rw [x8]; exact lot9.2.2.2.2.1) (by rw [x3]; exact lot9.2.2.2.1)
                          have eU : m_up M c8 q9 = m_gv (m_up2 M c8 q9) (ml (T 7 (T 8 c8 % 32) % 4)) ∧ m_upr M c8 q9 = m_gvr (m_up2 M c8 q9) (ml (T 7 (T 8 c8 % 32) % 4)) := by rw [← lot9.1, e23]; exact ⟨rfl, rfl⟩
                          refine lv_aload_n hx hb dL_halls_1092 rfl (lv_at hl 0 rfl) ?_
                          refine lv_iload hx hb dL_halls_1093 (lv_at hl 15 rfl) ?_
                          refine lv_iconst (v := nI 1) hx hb dL_halls_1095 (by decide) ?_
                          refine lv_iload hx hb dL_halls_1096 (lv_at hl 18 rfl) ?_
                          refine va_calli (vx_runSW (As := [.ref h, .int (nI c8), .int (bi true), .int (nI q9)]) (rest := []) ⟨hx, hb, hml, hown, hts⟩ (cw_rule l hst D cI cO cb eA mi st dO dT vF ws_198 hc_200 hM hsI (nI c8) true (nI q9)) (vx_cwSW 4 hts gL_halls_L_rule rfl rfl rfl kd_L_rule ⟨Nat.le_of_ble_eq_true rfl, Nat.le_of_ble_eq_true rfl⟩) ⟨kB_blind, kB_pre hK hG hGT hN (fun q h9 => Or.inl h9) hS (fun q h9 => hA q (Nat.le_trans hS.1 h9)) hPw _⟩ rfl rfl hl.1 rfl (lv_room (Nat.le_of_ble_eq_true rfl)) dL_halls_1098 ⟨by show 12 + 6 ≤ 40; omega, by show 428 + 214 ≤ 1000; omega⟩) hS (fun _ _ h9 => Or.inl h9) (fun _ h9 => Or.inl h9) (fun r_216 ws_217 U8 H_221 locs_222 ht hvm hu_220 hB hz1 hk1 hS1 => ?_)
                          obtain ⟨hr_218, hc_219⟩ := hu_220
                          replace hB : va_P D vwCl ws_217 U8.heap := hB
                          rw [ht] at hB
                          replace hPa := aP_keep hPa hdB hAB hk1
                          clear hPw hS
                          have hPw := hB
                          have hS := hS1
                          clear hB hS1 hz1 hk1 hvm ht U8
                          have hv9 : er (k_rule M (nI c8) true (nI q9)) (r_rule M (nI c8) true (nI q9)) = m_upr M c8 q9 := by exact (rul_gt hk0 (by omega) (by omega)).2
                          rw [hv9] at hr_218
                          clear hv9
                          subst hr_218
                          have hM_223 : MI (g_rule M (nI c8) true (nI q9)) := MI_rule hM (nI c8) true (nI q9)
                          have hLB_224 : m_LB (g_rule M (nI c8) true (nI q9)) := (LB_rule (nI c8) true (nI q9)).1 hLB
                          have h15_225 : (g_rule M (nI c8) true (nI q9)) 15 0 ≤ M 15 0 + 1 := (LB_rule (nI c8) true (nI q9)).2
                          refine lv_aload hx hb dL_halls_1101 (lv_at hl 4 rfl) ?_
                          refine lv_aload hx hb dL_halls_1103 (lv_at hl 6 rfl) ?_
                          refine lv_aload hx hb dL_halls_1105 (lv_at hl 7 rfl) ?_
                          refine lv_aload hx hb dL_halls_1107 (lv_at hl 8 rfl) ?_
                          refine lv_aload hx hb dL_halls_1109 (lv_at hl 9 rfl) ?_
                          refine lv_aload hx hb dL_halls_1111 (lv_at hl 10 rfl) ?_
                          refine lv_aload hx hb dL_halls_1113 (lv_at hl 13 rfl) ?_
                          refine lv_aload hx hb dL_halls_1115 (lv_at hl 10 rfl) ?_
                          refine lv_iload hx hb dL_halls_1117 (lv_at hl 16 rfl) ?_
                          refine a_iald (f := 7) (n := 32) hx hb hKa hPa rfl (by omega) (by decide) dL_halls_1119 ?_
                          rw [show (mu (t_moo (mu (mu T 6 (T 11 3) (T 8 c8 / 128 % 4 + 4 * (4 * (T 7 (T 8 c8 % 32) % 4) + T 8 c8 / 32 % 4) + 64 * 0)) 11 3 (T 11 3 + 1)) (T 8 c8 % 32) c8 (T 11 5)) 7 (T 8 c8 % 32) (T 7 (T 8 c8 % 32) + 65536)) 7 (T 8 c8 % 32) = T 7 (T 8 c8 % 32) + 65536 from (by simp [mu])]
                          refine lv_iconst (v := nI 3) hx hb dL_halls_1120 (by decide) ?_
                          refine lv_iand hx hb dL_halls_1121 ?_
                          rw [show (nI (T 7 (T 8 c8 % 32) + 65536)) &&& (nI 3) = nI (T 7 (T 8 c8 % 32) % 4) from (by rw [n_andK (k := 2) (by omega) (by decide) (by decide) rfl]; exact congrArg nI (by omega))]
                          refine va_calli (va_runS (As := [.ref (ad 1), .ref (ad 3), .ref (ad 4), .ref (ad 5), .ref (ad 6), .ref (ad 7), .ref (ad 11), .int (nI (T 7 (T 8 c8 % 32) % 4))]) (rest := [.int (m_upr M c8 q9)]) ⟨hx, hb, hml, hown, hts⟩ (ch_give l D ad cI (mu (t_moo (mu (mu T 6 (T 11 3) (T 8 c8 / 128 % 4 + 4 * (4 * (T 7 (T 8 c8 % 32) % 4) + T 8 c8 / 32 % 4) + 64 * 0)) 11 3 (T 11 3 + 1)) (T 8 c8 % 32) c8 (T 11 5)) 7 (T 8 c8 % 32) (T 7 (T 8 c8 % 32) + 65536)) hTu hdB (T 7 (T 8 c8 % 32) % 4) (by omega) (by exact Lup.w100 Mup (by rw [x3]; exact lot9.2.2.2.1)) (by exact Lup.tp) (by rw [mu_nf _ (by decide), t_moo_nf _ _ _ (by decide)]; simp [mu]; omega)) (va_cwS 8 hts gL_halls_L_give rfl rfl rfl kd_L_give ⟨Nat.le_of_ble_eq_true rfl, Nat.le_of_ble_eq_true rfl⟩) ⟨aB_blind, a_pre hKa hPa _⟩ rfl rfl hl.1 rfl (lv_room (Nat.le_of_ble_eq_true rfl)) dL_halls_1122 ⟨by show 18 + 0 ≤ 40; omega, by show 642 + 0 ≤ 1000; omega⟩) hS (fun _ _ h9 => Or.inr h9) (fun _ h9 => Or.inr h9) (fun r_226 u9 U8 H_228 locs_229 ht hvm hr_227 hB hz1 hk1 hS1 => ?_)
                          replace hB : va_P D vwCl (aws ad cI (t_gv (mu (t_moo (mu (mu T 6 (T 11 3) (T 8 c8 / 128 % 4 + 4 * (4 * (T 7 (T 8 c8 % 32) % 4) + T 8 c8 / 32 % 4) + 64 * 0)) 11 3 (T 11 3 + 1)) (T 8 c8 % 32) c8 (T 11 5)) 7 (T 8 c8 % 32) (T 7 (T 8 c8 % 32) + 65536)) (T 7 (T 8 c8 % 32) % 4))) U8.heap := hB
                          rw [ht] at hB
                          replace hPw := cP_keepB hPw hc_219.dis hAB hk1
                          clear hPa hS
                          have hPa := hB
                          have hS := hS1
                          clear hB hS1 hz1 hk1 hvm ht U8
                          subst hr_227
                          refine W.widen (k := 18) (n := 642) (by omega) (by omega) ?_
                          refine lv_icmp_ne (tgt := 1132) hx hb dL_halls_1125 (by decide)  (fun c_230 => absurd (eU.2.trans hgv.2.symm) c_230) (fun c_230 => ?_)
                          refine lv_iconst (v := nI 1) hx hb dL_halls_1128 (by decide) ?_
                          refine lv_goto (tgt := 1133) hx hb dL_halls_1129 (by decide) ?_
                          have hLR : LR (g_rule M (nI c8) true (nI q9)) (t_gv (mu (t_moo (mu (mu T 6 (T 11 3) (T 8 c8 / 128 % 4 + 4 * (4 * (T 7 (T 8 c8 % 32) % 4) + T 8 c8 / 32 % 4) + 64 * 0)) 11 3 (T 11 3 + 1)) (T 8 c8 % 32) c8 (T 11 5)) 7 (T 8 c8 % 32) (T 7 (T 8 c8 % 32) + 65536)) (T 7 (T 8 c8 % 32) % 4)) := by rw [(rul_gt hk0 (by omega) (by omega)).1, eU.1]; exact hgv.1
                          have hLT : LT (t_gv (mu (t_moo (mu (mu T 6 (T 11 3) (T 8 c8 / 128 % 4 + 4 * (4 * (T 7 (T 8 c8 % 32) % 4) + T 8 c8 / 32 % 4) + 64 * 0)) 11 3 (T 11 3 + 1)) (T 8 c8 % 32) c8 (T 11 5)) 7 (T 8 c8 % 32) (T 7 (T 8 c8 % 32) + 65536)) (T 7 (T 8 c8 % 32) % 4)) := by exact LT_gv hTu (by omega) (by rw [mu_nf _ (by decide), t_moo_nf _ _ _ (by decide)]; simp [mu]; omega)
                          refine W.widen (k := 40) (n := 1000) (by omega) (by omega) ?_
                          exact W.zret (v := nI 1) hx hb hr rfl (fun U9 ht9 hW9 => ⟨⟨_, (ws_217, g_rule M (nI c8) true (nI q9), t_gv (mu (t_moo (mu (mu T 6 (T 11 3) (T 8 c8 / 128 % 4 + 4 * (4 * (T 7 (T 8 c8 % 32) % 4) + T 8 c8 / 32 % 4) + 64 * 0)) 11 3 (T 11 3 + 1)) (T 8 c8 % 32) c8 (T 11 5)) 7 (T 8 c8 % 32) (T 7 (T 8 c8 % 32) + 65536)) (T 7 (T 8 c8 % 32) % 4)), rfl, ⟨rfl, hc_219, hM_223, hLB_224, Nat.le_trans h15_225 (Nat.succ_le_succ h15), hLR, hLT⟩, by show va_P D vwCl _ U9.heap ∧ va_P D vwCl _ U9.heap; rw [ht9]; exact ⟨hPw, hPa⟩⟩, hS.F ht9⟩) hS.2.2 dL_halls_1133
                        · refine lv_aload hx hb dL_halls_1027 (lv_at hl 11 rfl) ?_
                          refine lv_iload hx hb dL_halls_1029 (lv_at hl 20 rfl) ?_
                          refine a_iald (f := 8) (n := 32) hx hb hKa hPa rfl (by omega) (by decide) dL_halls_1031 ?_
                          refine lv_bipush (v := nI 31) hx hb dL_halls_1032 (by decide) ?_
                          refine lv_iand hx hb dL_halls_1034 ?_
                          rw [show (nI ((t_moo (mu (mu T 6 (T 11 3) (T 8 c8 / 128 % 4 + 4 * (4 * (T 7 (T 8 c8 % 32) % 4) + T 8 c8 / 32 % 4) + 64 * 0)) 11 3 (T 11 3 + 1)) (T 8 c8 % 32) c8 k) 8 k)) &&& (nI 31) = nI (((t_moo (mu (mu T 6 (T 11 3) (T 8 c8 / 128 % 4 + 4 * (4 * (T 7 (T 8 c8 % 32) % 4) + T 8 c8 / 32 % 4) + 64 * 0)) 11 3 (T 11 3 + 1)) (T 8 c8 % 32) c8 k) 8 k) % 32) from n_andK (k := 5) (by have f1 : (t_moo (mu (mu T 6 (T 11 3) (T 8 c8 / 128 % 4 + 4 * (4 * (T 7 (T 8 c8 % 32) % 4) + T 8 c8 / 32 % 4) + 64 * 0)) 11 3 (T 11 3 + 1)) (T 8 c8 % 32) c8 k) 8 k ≤ 16777215 := hTk.1 8 k; omega) (by decide) (by decide) rfl]
                          refine lv_iload hx hb dL_halls_1035 (lv_at hl 16 rfl) ?_
                          refine n_icmp_ne (tgt := 1076) hx hb dL_halls_1037 (by decide) (by have f1 : (t_moo (mu (mu T 6 (T 11 3) (T 8 c8 / 128 % 4 + 4 * (4 * (T 7 (T 8 c8 % 32) % 4) + T 8 c8 / 32 % 4) + 64 * 0)) 11 3 (T 11 3 + 1)) (T 8 c8 % 32) c8 k) 8 k ≤ 16777215 := hTk.1 8 k; omega) (by omega) (fun c_231 => ?_) (fun c_231 => ?_)
                          · refine n_iinc (k := 20) (lv' := [(20, .int (nI (k + 1))), (0, .ref h), (1, .int (nI act)), (2, .int y), (3, .int z), (4, .ref (ad 1)), (5, .ref (ad 2)), (6, .ref (ad 3)), (7, .ref (ad 4)), (8, .ref (ad 5)), (9, .ref (ad 6)), (10, .ref (ad 7)), (11, .ref (ad 8)), (12, .ref (ad 9)), (13, .ref (ad 11)), (14, .int (nI a9)), (15, .int (nI c8)), (16, .int (nI (T 8 c8 % 32))), (17, .int (bi up)), (18, .int (nI q9)), (19, .int (nI (T 8 c8 / 128 % 4)))]) hx hb dL_halls_1076 hl rfl (by decide) rfl (fun ls hl => ?_)
                            refine lv_goto (tgt := 1018) hx hb dL_halls_1079 (by decide) ?_
                            have eT_232 : t_moo (mu (mu T 6 (T 11 3) (T 8 c8 / 128 % 4 + 4 * (4 * (T 7 (T 8 c8 % 32) % 4) + T 8 c8 / 32 % 4) + 64 * 0)) 11 3 (T 11 3 + 1)) (T 8 c8 % 32) c8 (k + 1) = t_moo (mu (mu T 6 (T 11 3) (T 8 c8 / 128 % 4 + 4 * (4 * (T 7 (T 8 c8 % 32) % 4) + T 8 c8 / 32 % 4) + 64 * 0)) 11 3 (T 11 3 + 1)) (T 8 c8 % 32) c8 k := by first | (rw [t_moo, if_pos ⟨by assumption, by assumption⟩, if_pos (by assumption)]; done) | (rw [t_moo, if_pos ⟨by assumption, by assumption⟩, if_neg (by assumption)]; done) | (rw [t_moo, if_neg (fun z9 => absurd z9.1 (by assumption))]; done) | (rw [t_moo, if_neg (fun z9 => absurd z9.2 (by assumption))]; done)
                            refine ih_212 (by omega) _ _ ls (by rw [eT_232]; exact hPa) hPw hS ?_
                            show lv_has ls 21 [(0, .ref h), (1, .int (nI act)), (2, .int y), (3, .int z), (4, .ref (ad 1)), (5, .ref (ad 2)), (6, .ref (ad 3)), (7, .ref (ad 4)), (8, .ref (ad 5)), (9, .ref (ad 6)), (10, .ref (ad 7)), (11, .ref (ad 8)), (12, .ref (ad 9)), (13, .ref (ad 11)), (14, .int (nI a9)), (15, .int (nI c8)), (16, .int (nI (T 8 c8 % 32))), (17, .int (bi up)), (18, .int (nI q9)), (19, .int (nI (T 8 c8 / 128 % 4))), (20, .int (nI (k + 1)))]
                            exact lv_sub hl [1, 2, 3, 4, 5, 6, 7, 8, 9, 10, 11, 12, 13, 14, 15, 16, 17, 18, 19, 20, 0] rfl
                          · refine lv_aload hx hb dL_halls_1040 (lv_at hl 11 rfl) ?_
                            refine lv_iload hx hb dL_halls_1042 (lv_at hl 20 rfl) ?_
                            refine a_iald (f := 8) (n := 32) hx hb hKa hPa rfl (by omega) (by decide) dL_halls_1044 ?_
                            refine lv_bipush (v := nI 9) hx hb dL_halls_1045 (by decide) ?_
                            refine lv_ishr hx hb dL_halls_1047 ?_
                            rw [show (nI ((t_moo (mu (mu T 6 (T 11 3) (T 8 c8 / 128 % 4 + 4 * (4 * (T 7 (T 8 c8 % 32) % 4) + T 8 c8 / 32 % 4) + 64 * 0)) 11 3 (T 11 3 + 1)) (T 8 c8 % 32) c8 k) 8 k)) >>> ((nI 9) &&& 31) = nI (((t_moo (mu (mu T 6 (T 11 3) (T 8 c8 / 128 % 4 + 4 * (4 * (T 7 (T 8 c8 % 32) % 4) + T 8 c8 / 32 % 4) + 64 * 0)) 11 3 (T 11 3 + 1)) (T 8 c8 % 32) c8 k) 8 k) / 512) from n_shrK (by have f1 : (t_moo (mu (mu T 6 (T 11 3) (T 8 c8 / 128 % 4 + 4 * (4 * (T 7 (T 8 c8 % 32) % 4) + T 8 c8 / 32 % 4) + 64 * 0)) 11 3 (T 11 3 + 1)) (T 8 c8 % 32) c8 k) 8 k ≤ 16777215 := hTk.1 8 k; omega) (by decide) rfl]
                            refine lv_iconst (v := nI 3) hx hb dL_halls_1048 (by decide) ?_
                            refine lv_iand hx hb dL_halls_1049 ?_
                            rw [show (nI (((t_moo (mu (mu T 6 (T 11 3) (T 8 c8 / 128 % 4 + 4 * (4 * (T 7 (T 8 c8 % 32) % 4) + T 8 c8 / 32 % 4) + 64 * 0)) 11 3 (T 11 3 + 1)) (T 8 c8 % 32) c8 k) 8 k) / 512)) &&& (nI 3) = nI ((((t_moo (mu (mu T 6 (T 11 3) (T 8 c8 / 128 % 4 + 4 * (4 * (T 7 (T 8 c8 % 32) % 4) + T 8 c8 / 32 % 4) + 64 * 0)) 11 3 (T 11 3 + 1)) (T 8 c8 % 32) c8 k) 8 k) / 512) % 4) from n_andK (k := 2) (by have f1 : (t_moo (mu (mu T 6 (T 11 3) (T 8 c8 / 128 % 4 + 4 * (4 * (T 7 (T 8 c8 % 32) % 4) + T 8 c8 / 32 % 4) + 64 * 0)) 11 3 (T 11 3 + 1)) (T 8 c8 % 32) c8 k) 8 k ≤ 16777215 := hTk.1 8 k; omega) (by decide) (by decide) rfl]
                            refine n_if_ne (tgt := 1076) hx hb dL_halls_1050 (by decide) (by have f1 : (t_moo (mu (mu T 6 (T 11 3) (T 8 c8 / 128 % 4 + 4 * (4 * (T 7 (T 8 c8 % 32) % 4) + T 8 c8 / 32 % 4) + 64 * 0)) 11 3 (T 11 3 + 1)) (T 8 c8 % 32) c8 k) 8 k ≤ 16777215 := hTk.1 8 k; omega) (fun c_233 => ?_) (fun c_233 => ?_)
                            · refine n_iinc (k := 20) (lv' := [(20, .int (nI (k + 1))), (0, .ref h), (1, .int (nI act)), (2, .int y), (3, .int z), (4, .ref (ad 1)), (5, .ref (ad 2)), (6, .ref (ad 3)), (7, .ref (ad 4)), (8, .ref (ad 5)), (9, .ref (ad 6)), (10, .ref (ad 7)), (11, .ref (ad 8)), (12, .ref (ad 9)), (13, .ref (ad 11)), (14, .int (nI a9)), (15, .int (nI c8)), (16, .int (nI (T 8 c8 % 32))), (17, .int (bi up)), (18, .int (nI q9)), (19, .int (nI (T 8 c8 / 128 % 4)))]) hx hb dL_halls_1076 hl rfl (by decide) rfl (fun ls hl => ?_)
                              refine lv_goto (tgt := 1018) hx hb dL_halls_1079 (by decide) ?_
                              have eT_234 : t_moo (mu (mu T 6 (T 11 3) (T 8 c8 / 128 % 4 + 4 * (4 * (T 7 (T 8 c8 % 32) % 4) + T 8 c8 / 32 % 4) + 64 * 0)) 11 3 (T 11 3 + 1)) (T 8 c8 % 32) c8 (k + 1) = t_moo (mu (mu T 6 (T 11 3) (T 8 c8 / 128 % 4 + 4 * (4 * (T 7 (T 8 c8 % 32) % 4) + T 8 c8 / 32 % 4) + 64 * 0)) 11 3 (T 11 3 + 1)) (T 8 c8 % 32) c8 k := by first | (rw [t_moo, if_pos ⟨by assumption, by assumption⟩, if_pos (by assumption)]; done) | (rw [t_moo, if_pos ⟨by assumption, by assumption⟩, if_neg (by assumption)]; done) | (rw [t_moo, if_neg (fun z9 => absurd z9.1 (by assumption))]; done) | (rw [t_moo, if_neg (fun z9 => absurd z9.2 (by assumption))]; done)
                              refine ih_212 (by omega) _ _ ls (by rw [eT_234]; exact hPa) hPw hS ?_
                              show lv_has ls 21 [(0, .ref h), (1, .int (nI act)), (2, .int y), (3, .int z), (4, .ref (ad 1)), (5, .ref (ad 2)), (6, .ref (ad 3)), (7, .ref (ad 4)), (8, .ref (ad 5)), (9, .ref (ad 6)), (10, .ref (ad 7)), (11, .ref (ad 8)), (12, .ref (ad 9)), (13, .ref (ad 11)), (14, .int (nI a9)), (15, .int (nI c8)), (16, .int (nI (T 8 c8 % 32))), (17, .int (bi up)), (18, .int (nI q9)), (19, .int (nI (T 8 c8 / 128 % 4))), (20, .int (nI (k + 1)))]
                              exact lv_sub hl [1, 2, 3, 4, 5, 6, 7, 8, 9, 10, 11, 12, 13, 14, 15, 16, 17, 18, 19, 20, 0] rfl
                            · refine lv_aload hx hb dL_halls_1053 (lv_at hl 11 rfl) ?_
                              refine lv_iload hx hb dL_halls_1055 (lv_at hl 20 rfl) ?_
                              refine lv_dup2_11 hx hb dL_halls_1057 rfl rfl ?_
                              refine a_iald (f := 8) (n := 32) hx hb hKa hPa rfl (by omega) (by decide) dL_halls_1058 ?_
                              refine lv_iload hx hb dL_halls_1059 (lv_at hl 20 rfl) ?_
                              refine lv_iload hx hb dL_halls_1061 (lv_at hl 15 rfl) ?_
                              refine n_icmp_ne (tgt := 1070) hx hb dL_halls_1063 (by decide) (by omega) (by have f1 := hc8.1; omega) (fun c_235 => ?_) (fun c_235 => ?_)
                              · refine lv_iconst (v := nI 3) hx hb dL_halls_1070 (by decide) ?_
                                refine lv_bipush (v := nI 9) hx hb dL_halls_1071 (by decide) ?_
                                refine lv_ishl hx hb dL_halls_1073 ?_
                                rw [show (nI 3) <<< ((nI 9) &&& 31) = nI 1536 from n_shlK (by decide) rfl (by decide)]
                                refine lv_ior hx hb dL_halls_1074 ?_
                                rw [show (nI ((t_moo (mu (mu T 6 (T 11 3) (T 8 c8 / 128 % 4 + 4 * (4 * (T 7 (T 8 c8 % 32) % 4) + T 8 c8 / 32 % 4) + 64 * 0)) 11 3 (T 11 3 + 1)) (T 8 c8 % 32) c8 k) 8 k)) ||| (nI 1536) = nI (((t_moo (mu (mu T 6 (T 11 3) (T 8 c8 / 128 % 4 + 4 * (4 * (T 7 (T 8 c8 % 32) % 4) + T 8 c8 / 32 % 4) + 64 * 0)) 11 3 (T 11 3 + 1)) (T 8 c8 % 32) c8 k) 8 k) + 1536) from (by rw [n_or]; exact congrArg nI (or_st (v := 3) (by assumption) (by decide)))]
                                refine b_iast (f := 8) (n := 32) (v := ((t_moo (mu (mu T 6 (T 11 3) (T 8 c8 / 128 % 4 + 4 * (4 * (T 7 (T 8 c8 % 32) % 4) + T 8 c8 / 32 % 4) + 64 * 0)) 11 3 (T 11 3 + 1)) (T 8 c8 % 32) c8 k) 8 k) + 1536) hx hb hKa hPa hPw hdB hc_200.dis hAB hS (by decide) rfl (by omega) (by decide) (aset_8 _ _ _ _ _) dL_halls_1075 (fun H1 locs1 hPa1 hPw1 hS1 => ?_)
                                clear hPa hPw hS
                                have hPa := hPa1; have hPw := hPw1; have hS := hS1; clear hPa1 hPw1 hS1
                                refine n_iinc (k := 20) (lv' := [(20, .int (nI (k + 1))), (0, .ref h), (1, .int (nI act)), (2, .int y), (3, .int z), (4, .ref (ad 1)), (5, .ref (ad 2)), (6, .ref (ad 3)), (7, .ref (ad 4)), (8, .ref (ad 5)), (9, .ref (ad 6)), (10, .ref (ad 7)), (11, .ref (ad 8)), (12, .ref (ad 9)), (13, .ref (ad 11)), (14, .int (nI a9)), (15, .int (nI c8)), (16, .int (nI (T 8 c8 % 32))), (17, .int (bi up)), (18, .int (nI q9)), (19, .int (nI (T 8 c8 / 128 % 4)))]) hx hb dL_halls_1076 hl rfl (by decide) rfl (fun ls hl => ?_)
                                refine lv_goto (tgt := 1018) hx hb dL_halls_1079 (by decide) ?_
                                have eT_236 : t_moo (mu (mu T 6 (T 11 3) (T 8 c8 / 128 % 4 + 4 * (4 * (T 7 (T 8 c8 % 32) % 4) + T 8 c8 / 32 % 4) + 64 * 0)) 11 3 (T 11 3 + 1)) (T 8 c8 % 32) c8 (k + 1) = mu (t_moo (mu (mu T 6 (T 11 3) (T 8 c8 / 128 % 4 + 4 * (4 * (T 7 (T 8 c8 % 32) % 4) + T 8 c8 / 32 % 4) + 64 * 0)) 11 3 (T 11 3 + 1)) (T 8 c8 % 32) c8 k) 8 k (((t_moo (mu (mu T 6 (T 11 3) (T 8 c8 / 128 % 4 + 4 * (4 * (T 7 (T 8 c8 % 32) % 4) + T 8 c8 / 32 % 4) + 64 * 0)) 11 3 (T 11 3 + 1)) (T 8 c8 % 32) c8 k) 8 k) + 1536) := by first | (rw [t_moo, if_pos ⟨by assumption, by assumption⟩, if_pos (by assumption)]; done) | (rw [t_moo, if_pos ⟨by assumption, by assumption⟩, if_neg (by assumption)]; done) | (rw [t_moo, if_neg (fun z9 => absurd z9.1 (by assumption))]; done) | (rw [t_moo, if_neg (fun z9 => absurd z9.2 (by assumption))]; done)
                                refine ih_212 (by omega) _ _ ls (by rw [eT_236]; exact hPa) hPw hS ?_
                                show lv_has ls 21 [(0, .ref h), (1, .int (nI act)), (2, .int y), (3, .int z), (4, .ref (ad 1)), (5, .ref (ad 2)), (6, .ref (ad 3)), (7, .ref (ad 4)), (8, .ref (ad 5)), (9, .ref (ad 6)), (10, .ref (ad 7)), (11, .ref (ad 8)), (12, .ref (ad 9)), (13, .ref (ad 11)), (14, .int (nI a9)), (15, .int (nI c8)), (16, .int (nI (T 8 c8 % 32))), (17, .int (bi up)), (18, .int (nI q9)), (19, .int (nI (T 8 c8 / 128 % 4))), (20, .int (nI (k + 1)))]
                                exact lv_sub hl [1, 2, 3, 4, 5, 6, 7, 8, 9, 10, 11, 12, 13, 14, 15, 16, 17, 18, 19, 20, 0] rfl
                              · refine lv_iconst (v := nI 1) hx hb dL_halls_1066 (by decide) ?_
                                refine lv_goto (tgt := 1071) hx hb dL_halls_1067 (by decide) ?_
                                refine lv_bipush (v := nI 9) hx hb dL_halls_1071 (by decide) ?_
                                refine lv_ishl hx hb dL_halls_1073 ?_
                                rw [show (nI 1) <<< ((nI 9) &&& 31) = nI 512 from n_shlK (by decide) rfl (by decide)]
                                refine lv_ior hx hb dL_halls_1074 ?_
                                rw [show (nI ((t_moo (mu (mu T 6 (T 11 3) (T 8 c8 / 128 % 4 + 4 * (4 * (T 7 (T 8 c8 % 32) % 4) + T 8 c8 / 32 % 4) + 64 * 0)) 11 3 (T 11 3 + 1)) (T 8 c8 % 32) c8 k) 8 k)) ||| (nI 512) = nI (((t_moo (mu (mu T 6 (T 11 3) (T 8 c8 / 128 % 4 + 4 * (4 * (T 7 (T 8 c8 % 32) % 4) + T 8 c8 / 32 % 4) + 64 * 0)) 11 3 (T 11 3 + 1)) (T 8 c8 % 32) c8 k) 8 k) + 512) from (by rw [n_or]; exact congrArg nI (or_st (v := 1) (by assumption) (by decide)))]
                                refine b_iast (f := 8) (n := 32) (v := ((t_moo (mu (mu T 6 (T 11 3) (T 8 c8 / 128 % 4 + 4 * (4 * (T 7 (T 8 c8 % 32) % 4) + T 8 c8 / 32 % 4) + 64 * 0)) 11 3 (T 11 3 + 1)) (T 8 c8 % 32) c8 k) 8 k) + 512) hx hb hKa hPa hPw hdB hc_200.dis hAB hS (by decide) rfl (by omega) (by decide) (aset_8 _ _ _ _ _) dL_halls_1075 (fun H1 locs1 hPa1 hPw1 hS1 => ?_)
                                clear hPa hPw hS
                                have hPa := hPa1; have hPw := hPw1; have hS := hS1; clear hPa1 hPw1 hS1
                                refine n_iinc (k := 20) (lv' := [(20, .int (nI (k + 1))), (0, .ref h), (1, .int (nI act)), (2, .int y), (3, .int z), (4, .ref (ad 1)), (5, .ref (ad 2)), (6, .ref (ad 3)), (7, .ref (ad 4)), (8, .ref (ad 5)), (9, .ref (ad 6)), (10, .ref (ad 7)), (11, .ref (ad 8)), (12, .ref (ad 9)), (13, .ref (ad 11)), (14, .int (nI a9)), (15, .int (nI c8)), (16, .int (nI (T 8 c8 % 32))), (17, .int (bi up)), (18, .int (nI q9)), (19, .int (nI (T 8 c8 / 128 % 4)))]) hx hb dL_halls_1076 hl rfl (by decide) rfl (fun ls hl => ?_)
                                refine lv_goto (tgt := 1018) hx hb dL_halls_1079 (by decide) ?_
                                have eT_237 : t_moo (mu (mu T 6 (T 11 3) (T 8 c8 / 128 % 4 + 4 * (4 * (T 7 (T 8 c8 % 32) % 4) + T 8 c8 / 32 % 4) + 64 * 0)) 11 3 (T 11 3 + 1)) (T 8 c8 % 32) c8 (k + 1) = mu (t_moo (mu (mu T 6 (T 11 3) (T 8 c8 / 128 % 4 + 4 * (4 * (T 7 (T 8 c8 % 32) % 4) + T 8 c8 / 32 % 4) + 64 * 0)) 11 3 (T 11 3 + 1)) (T 8 c8 % 32) c8 k) 8 k (((t_moo (mu (mu T 6 (T 11 3) (T 8 c8 / 128 % 4 + 4 * (4 * (T 7 (T 8 c8 % 32) % 4) + T 8 c8 / 32 % 4) + 64 * 0)) 11 3 (T 11 3 + 1)) (T 8 c8 % 32) c8 k) 8 k) + 512) := by first | (rw [t_moo, if_pos ⟨by assumption, by assumption⟩, if_pos (by assumption)]; done) | (rw [t_moo, if_pos ⟨by assumption, by assumption⟩, if_neg (by assumption)]; done) | (rw [t_moo, if_neg (fun z9 => absurd z9.1 (by assumption))]; done) | (rw [t_moo, if_neg (fun z9 => absurd z9.2 (by assumption))]; done)
                                refine ih_212 (by omega) _ _ ls (by rw [eT_237]; exact hPa) hPw hS ?_
                                show lv_has ls 21 [(0, .ref h), (1, .int (nI act)), (2, .int y), (3, .int z), (4, .ref (ad 1)), (5, .ref (ad 2)), (6, .ref (ad 3)), (7, .ref (ad 4)), (8, .ref (ad 5)), (9, .ref (ad 6)), (10, .ref (ad 7)), (11, .ref (ad 8)), (12, .ref (ad 9)), (13, .ref (ad 11)), (14, .int (nI a9)), (15, .int (nI c8)), (16, .int (nI (T 8 c8 % 32))), (17, .int (bi up)), (18, .int (nI q9)), (19, .int (nI (T 8 c8 / 128 % 4))), (20, .int (nI (k + 1)))]
                                exact lv_sub hl [1, 2, 3, 4, 5, 6, 7, 8, 9, 10, 11, 12, 13, 14, 15, 16, 17, 18, 19, 20, 0] rfl
                      · exfalso; omega
                    · refine lv_aload hx hb dL_halls_959 (lv_at hl 16 rfl) ?_
                      refine lv_iload hx hb dL_halls_961 (lv_at hl 3 rfl) ?_
                      refine vp_callSi (W.runS (As := [.ref (ad 7), .int (nI ((T 8 c8) % 32))]) (rest := [.int (nI 4), .int (nI (((T 8 c8) / 128) % 4)), .int (nI (T 11 3)), .ref (ad 6)]) ⟨hx, hb, hml, hown, hts⟩ (ch_bidOf l D ad cI T hT ((T 8 c8) % 32) (by have f1 := hc8.1; have f2 : T 8 c8 ≤ 16777215 := hT.1 8 c8; omega)) (va_cwS 2 hts gL_halls_L_bidOf rfl rfl rfl kd_L_bidOf ⟨Nat.le_of_ble_eq_true rfl, Nat.le_of_ble_eq_true rfl⟩) ⟨aB_blind, a_pre hKa hPa _⟩ rfl rfl hl.1 rfl (lv_room (Nat.le_of_ble_eq_true rfl)) dL_halls_963 ⟨Nat.le_of_ble_eq_true rfl, Nat.le_of_ble_eq_true rfl⟩) (fun r_238 hr_238 => ?_)
                      subst hr_238
                      refine lv_goto (tgt := 988) hx hb dL_halls_966 (by decide) ?_
                      refine n_imul hx hb dL_halls_988 (z := 4 * (t_bo T ((T 8 c8) % 32))) rfl ?_
                      refine n_iadd hx hb dL_halls_989 (z := (((T 8 c8) / 128) % 4) + (4 * (t_bo T ((T 8 c8) % 32)))) rfl ?_
                      refine lv_iload hx hb dL_halls_990 (lv_at hl 0 rfl) ?_
                      refine lv_iconst (v := nI 1) hx hb dL_halls_992 (by decide) ?_
                      refine n_icmp_ne (tgt := 1004) hx hb dL_halls_993 (by decide) (by have f1 := hc8.1; have f2 : T 8 c8 ≤ 16777215 := hT.1 8 c8; omega) (by decide) (fun c_239 => ?_) (fun c_239 => ?_)
                      · refine lv_iconst (v := nI 0) hx hb dL_halls_1004 (by decide) ?_
                        refine n_iadd hx hb dL_halls_1005 (z := ((((T 8 c8) / 128) % 4) + (4 * (t_bo T ((T 8 c8) % 32)))) + 0) rfl ?_
                        refine b_iast (f := 6) (n := 60) (v := ((((T 8 c8) / 128) % 4) + (4 * (t_bo T ((T 8 c8) % 32)))) + 0) hx hb hKa hPa hPw hdB hc_200.dis hAB hS (by decide) rfl (by have f1 : T 11 3 ≤ 2000 := hT.1 11 3; have f2 : T 11 3 ≤ 60 := hT.2.2.1; omega) (by decide) (aset_6 _ _ _ _ _) dL_halls_1006 (fun H1 locs1 hPa1 hPw1 hS1 => ?_)
                        clear hPa hPw hS
                        have hPa := hPa1; have hPw := hPw1; have hS := hS1; clear hPa1 hPw1 hS1
                        refine lv_aload hx hb dL_halls_1007 (lv_at hl 19 rfl) ?_
                        refine lv_iconst (v := nI 3) hx hb dL_halls_1009 (by decide) ?_
                        refine lv_dup2_11 hx hb dL_halls_1010 rfl rfl ?_
                        refine a_iald (f := 11) (n := 7) hx hb hKa hPa rfl (by decide) (by decide) dL_halls_1011 ?_
                        rw [show (mu T 6 (T 11 3) (((((T 8 c8) / 128) % 4) + (4 * (t_bo T ((T 8 c8) % 32)))) + 0)) 11 3 = T 11 3 from (by simp [mu])]
                        refine lv_iconst (v := nI 1) hx hb dL_halls_1012 (by decide) ?_
                        refine n_iadd hx hb dL_halls_1013 (z := (T 11 3) + 1) rfl ?_
                        refine b_iast (f := 11) (n := 7) (v := (T 11 3) + 1) hx hb hKa hPa hPw hdB hc_200.dis hAB hS (by decide) rfl (by decide) (by decide) (aset_11 _ _ _ _ _) dL_halls_1014 (fun H1 locs1 hPa1 hPw1 hS1 => ?_)
                        clear hPa hPw hS
                        have hPa := hPa1; have hPw := hPw1; have hS := hS1; clear hPa1 hPw1 hS1
                        have Lup := hR.upS hM h16 (c := c8) (q0 := (t_bo T (T 8 c8 % 32))) (qv := 0) (qx := q9) (by omega) ko (by rw [← e23]; exact kv) (by omega) (by rw [← ab9.2.2.1]; first | rw [if_pos (by assumption)] | rw [if_neg (by omega)]) (by rw [← ab9.2.2.1, ← e23, ← ab9.2.1]; first | rw [if_pos (by omega)] | rw [if_neg (by omega)]) (fun z9 => rd2 z9 (by rw [← e23]; exact kv)) hRX.x2
                        rw [← ab9.2.2.1, ← e23] at Lup
                        have eE : mu (mu T 6 (T 11 3) (((((T 8 c8) / 128) % 4) + (4 * (t_bo T ((T 8 c8) % 32)))) + 0)) 11 3 ((T 11 3) + 1) = mu (mu T 6 (T 11 3) (T 8 c8 / 128 % 4 + 4 * (t_bo T (T 8 c8 % 32)) + 64 * 0)) 11 3 (T 11 3 + 1) := by first | rfl | (congr 2; omega)
                        rw [eE] at hPa
                        have hTe : LT (mu (mu T 6 (T 11 3) (T 8 c8 / 128 % 4 + 4 * (t_bo T (T 8 c8 % 32)) + 64 * 0)) 11 3 (T 11 3 + 1)) := ⟨LTb_mu (LTb_mu hT.1 (by show _ ≤ 8191; omega)) (by show _ ≤ 2000; omega), by simp [mu]; omega, by simp [mu]; omega, by simp [mu]; omega, by simp [mu]; omega, by simp [mu]; omega⟩
                        have h8e : ∀ k, k < T 11 5 → (mu (mu T 6 (T 11 3) (T 8 c8 / 128 % 4 + 4 * (t_bo T (T 8 c8 % 32)) + 64 * 0)) 11 3 (T 11 3 + 1)) 8 k ≤ 10000000 := fun k hk => by simpa [mu] using hR.c8 hM h16 k hk
                        refine lv_iconst (v := nI 0) hx hb dL_halls_1015 (by decide) ?_
                        refine lv_istore (lv' := [(20, .int (nI 0)), (19, .int (nI (((T 8 c8) / 128) % 4))), (18, .int (nI q9)), (17, .int (bi up)), (16, .int (nI ((T 8 c8) % 32))), (15, .int (nI c8)), (14, .int (nI a9)), (0, .ref h), (1, .int (nI act)), (2, .int y), (3, .int z), (4, .ref (ad 1)), (5, .ref (ad 2)), (6, .ref (ad 3)), (7, .ref (ad 4)), (8, .ref (ad 5)), (9, .ref (ad 6)), (10, .ref (ad 7)), (11, .ref (ad 8)), (12, .ref (ad 9)), (13, .ref (ad 11))]) hx hb dL_halls_1016 hl (by decide) rfl (fun ls hl => ?_)
                        have eI_240 : T 8 c8 % 32 = (T 8 c8) % 32 := by rfl
                        have eI_241 : T 8 c8 / 128 % 4 = ((T 8 c8) / 128) % 4 := by rfl
                        replace hPa : va_P D vwCl (aws ad cI (t_moo (mu (mu T 6 (T 11 3) (T 8 c8 / 128 % 4 + 4 * (t_bo T (T 8 c8 % 32)) + 64 * 0)) 11 3 (T 11 3 + 1)) (T 8 c8 % 32) c8 0)) _ := hPa
                        refine b_loop (D := D) (ad := ad) (cI := cI) (A := fun q => A q ∨ B q) (ws := ws_198) (n := T 11 5) (nL := 21) (fun k => [(0, .ref h), (1, .int (nI act)), (2, .int y), (3, .int z), (4, .ref (ad 1)), (5, .ref (ad 2)), (6, .ref (ad 3)), (7, .ref (ad 4)), (8, .ref (ad 5)), (9, .ref (ad 6)), (10, .ref (ad 7)), (11, .ref (ad 8)), (12, .ref (ad 9)), (13, .ref (ad 11)), (14, .int (nI a9)), (15, .int (nI c8)), (16, .int (nI (T 8 c8 % 32))), (17, .int (bi up)), (18, .int (nI q9)), (19, .int (nI (T 8 c8 / 128 % 4))), (20, .int (nI k))]) (fun k => t_moo (mu (mu T 6 (T 11 3) (T 8 c8 / 128 % 4 + 4 * (t_bo T (T 8 c8 % 32)) + 64 * 0)) 11 3 (T 11 3 + 1)) (T 8 c8 % 32) c8 k) (fun k hb_242 ih_243 H_244 locs_245 ls hPa9 hPw9 hS9 hl => ?_) 0 (by omega) _ _ ls hPa hPw hS (lv_sub hl [7, 8, 9, 10, 11, 12, 13, 14, 15, 16, 17, 18, 19, 20, 6, 5, 4, 3, 2, 1, 0] (by show lv_pick _ _ = [(0, .ref h), (1, .int (nI act)), (2, .int y), (3, .int z), (4, .ref (ad 1)), (5, .ref (ad 2)), (6, .ref (ad 3)), (7, .ref (ad 4)), (8, .ref (ad 5)), (9, .ref (ad 6)), (10, .ref (ad 7)), (11, .ref (ad 8)), (12, .ref (ad 9)), (13, .ref (ad 11)), (14, .int (nI a9)), (15, .int (nI c8)), (16, .int (nI (T 8 c8 % 32))), (17, .int (bi up)), (18, .int (nI q9)), (19, .int (nI (T 8 c8 / 128 % 4))), (20, .int (nI 0))]; rw [eI_240, eI_241]; rfl))
                        clear hPa hPw hS
                        have hPa := hPa9; have hPw := hPw9; have hS := hS9; clear hPa9 hPw9 hS9
                        have hTk : LT (t_moo (mu (mu T 6 (T 11 3) (T 8 c8 / 128 % 4 + 4 * (t_bo T (T 8 c8 % 32)) + 64 * 0)) 11 3 (T 11 3 + 1)) (T 8 c8 % 32) c8 k) := LT_moo hTe k (fun k9 hk9 => h8e k9 (by omega))
                        refine lv_iload hx hb dL_halls_1018 (lv_at hl 20 rfl) ?_
                        refine lv_aload hx hb dL_halls_1020 (lv_at hl 13 rfl) ?_
                        refine lv_iconst (v := nI 5) hx hb dL_halls_1022 (by decide) ?_
                        refine a_iald (f := 11) (n := 7) hx hb hKa hPa rfl (by decide) (by decide) dL_halls_1023 ?_
                        rw [show (t_moo (mu (mu T 6 (T 11 3) (T 8 c8 / 128 % 4 + 4 * (t_bo T (T 8 c8 % 32)) + 64 * 0)) 11 3 (T 11 3 + 1)) (T 8 c8 % 32) c8 k) 11 5 = T 11 5 from (by rw [t_moo_nf _ _ _ (by decide)]; simp [mu])]
                        refine n_icmp_ge (tgt := 1082) hx hb dL_halls_1024 (by decide) (by omega) (by have f1 := C5; omega) (fun c_246 => ?_) (fun c_246 => ?_)
                        · obtain rfl : T 11 5 = k := by omega
                          have hTm : LT (t_moo (mu (mu T 6 (T 11 3) (T 8 c8 / 128 % 4 + 4 * (t_bo T (T 8 c8 % 32)) + 64 * 0)) 11 3 (T 11 3 + 1)) (T 8 c8 % 32) c8 (T 11 5)) := LT_moo hTe _ h8e
                          refine lv_aload hx hb dL_halls_1082 (lv_at hl 10 rfl) ?_
                          refine lv_iload hx hb dL_halls_1084 (lv_at hl 16 rfl) ?_
                          refine lv_dup2_11 hx hb dL_halls_1086 rfl rfl ?_
                          refine a_iald (f := 7) (n := 32) hx hb hKa hPa rfl (by omega) (by decide) dL_halls_1087 ?_
                          rw [show (t_moo (mu (mu T 6 (T 11 3) (T 8 c8 / 128 % 4 + 4 * (t_bo T (T 8 c8 % 32)) + 64 * 0)) 11 3 (T 11 3 + 1)) (T 8 c8 % 32) c8 (T 11 5)) 7 (T 8 c8 % 32) = T 7 (T 8 c8 % 32) from (by rw [t_moo_nf _ _ _ (by decide)]; simp [mu])]
                          refine lv_ldc (v := nI 65536) hx hb hown (hts (.constant RL 172 (65536)) (List.mem_of_getElem? (i := 1) rfl)) dL_halls_1088 ?_
                          refine lv_ior hx hb dL_halls_1090 ?_
                          rw [show (nI (T 7 (T 8 c8 % 32))) ||| (nI 65536) = nI (T 7 (T 8 c8 % 32) + 65536) from (by rw [n_or]; exact congrArg nI (or_16 (by omega)))]
                          refine b_iast (f := 7) (n := 32) (v := T 7 (T 8 c8 % 32) + 65536) hx hb hKa hPa hPw hdB hc_200.dis hAB hS (by decide) rfl (by omega) (by decide) (aset_7 _ _ _ _ _) dL_halls_1091 (fun H1 locs1 hPa1 hPw1 hS1 => ?_)
                          clear hPa hPw hS
                          have hPa := hPa1; have hPw := hPw1; have hS := hS1; clear hPa1 hPw1 hS1
                          have hTu : LT (mu (t_moo (mu (mu T 6 (T 11 3) (T 8 c8 / 128 % 4 + 4 * (t_bo T (T 8 c8 % 32)) + 64 * 0)) 11 3 (T 11 3 + 1)) (T 8 c8 % 32) c8 (T 11 5)) 7 (T 8 c8 % 32) (T 7 (T 8 c8 % 32) + 65536)) := by obtain ⟨u0, u1, u2, u3, u4, u5⟩ := hTm; exact ⟨LTb_mu u0 (by show _ ≤ 16777215; have f2 := lot9.2.1; have f3 : M 19 (T 8 c8 % 32) ≤ 2000 := hM 19 _; have f4 : M 21 (T 8 c8 % 32) ≤ 60 := hM 21 _; omega), by simpa [mu] using u1, by simpa [mu] using u2, by simpa [mu] using u3, by simpa [mu] using u4, by simpa [mu] using u5⟩
                          have Mup := MI_up2 hM c8 (show q9 ≤ 100 by omega)
                          have x3 : m_up2 M c8 q9 3 = M 3 := m_up2_nf M c8 q9 (by decide)
                          have x8 : m_up2 M c8 q9 8 = M 8 := m_up2_nf M c8 q9 (by decide)
                          have hgv := Lup.gv Mup (j := T 7 (T 8 c8 % 32) % 4) (by omega) (by rw [x8]; exact lot9.2.2.2.2.1) (by rw [x3]; exact lot9.2.2.2.1)
                          have eU : m_up M c8 q9 = m_gv (m_up2 M c8 q9) (ml (T 7 (T 8 c8 % 32) % 4)) ∧ m_upr M c8 q9 = m_gvr (m_up2 M c8 q9) (ml (T 7 (T 8 c8 % 32) % 4)) := by rw [← lot9.1, e23]; exact ⟨rfl, rfl⟩
                          refine lv_aload_n hx hb dL_halls_1092 rfl (lv_at hl 0 rfl) ?_
                          refine lv_iload hx hb dL_halls_1093 (lv_at hl 15 rfl) ?_
                          refine lv_iconst (v := nI 1) hx hb dL_halls_1095 (by decide) ?_
                          refine lv_iload hx hb dL_halls_1096 (lv_at hl 18 rfl) ?_
                          refine va_calli (vx_runSW (As := [.ref h, .int (nI c8), .int (bi true), .int (nI q9)]) (rest := []) ⟨hx, hb, hml, hown, hts⟩ (cw_rule l hst D cI cO cb eA mi st dO dT vF ws_198 hc_200 hM hsI (nI c8) true (nI q9)) (vx_cwSW 4 hts gL_halls_L_rule rfl rfl rfl kd_L_rule ⟨Nat.le_of_ble_eq_true rfl, Nat.le_of_ble_eq_true rfl⟩) ⟨kB_blind, kB_pre hK hG hGT hN (fun q h9 => Or.inl h9) hS (fun q h9 => hA q (Nat.le_trans hS.1 h9)) hPw _⟩ rfl rfl hl.1 rfl (lv_room (Nat.le_of_ble_eq_true rfl)) dL_halls_1098 ⟨by show 12 + 6 ≤ 40; omega, by show 428 + 214 ≤ 1000; omega⟩) hS (fun _ _ h9 => Or.inl h9) (fun _ h9 => Or.inl h9) (fun r_247 ws_248 U8 H_252 locs_253 ht hvm hu_251 hB hz1 hk1 hS1 => ?_)
                          obtain ⟨hr_249, hc_250⟩ := hu_251
                          replace hB : va_P D vwCl ws_248 U8.heap := hB
                          rw [ht] at hB
                          replace hPa := aP_keep hPa hdB hAB hk1
                          clear hPw hS
                          have hPw := hB
                          have hS := hS1
                          clear hB hS1 hz1 hk1 hvm ht U8
                          have hv9 : er (k_rule M (nI c8) true (nI q9)) (r_rule M (nI c8) true (nI q9)) = m_upr M c8 q9 := by exact (rul_gt hk0 (by omega) (by omega)).2
                          rw [hv9] at hr_249
                          clear hv9
                          subst hr_249
                          have hM_254 : MI (g_rule M (nI c8) true (nI q9)) := MI_rule hM (nI c8) true (nI q9)
                          have hLB_255 : m_LB (g_rule M (nI c8) true (nI q9)) := (LB_rule (nI c8) true (nI q9)).1 hLB
                          have h15_256 : (g_rule M (nI c8) true (nI q9)) 15 0 ≤ M 15 0 + 1 := (LB_rule (nI c8) true (nI q9)).2
                          refine lv_aload hx hb dL_halls_1101 (lv_at hl 4 rfl) ?_
                          refine lv_aload hx hb dL_halls_1103 (lv_at hl 6 rfl) ?_
                          refine lv_aload hx hb dL_halls_1105 (lv_at hl 7 rfl) ?_
                          refine lv_aload hx hb dL_halls_1107 (lv_at hl 8 rfl) ?_
                          refine lv_aload hx hb dL_halls_1109 (lv_at hl 9 rfl) ?_
                          refine lv_aload hx hb dL_halls_1111 (lv_at hl 10 rfl) ?_
                          refine lv_aload hx hb dL_halls_1113 (lv_at hl 13 rfl) ?_
                          refine lv_aload hx hb dL_halls_1115 (lv_at hl 10 rfl) ?_
                          refine lv_iload hx hb dL_halls_1117 (lv_at hl 16 rfl) ?_
                          refine a_iald (f := 7) (n := 32) hx hb hKa hPa rfl (by omega) (by decide) dL_halls_1119 ?_
                          rw [show (mu (t_moo (mu (mu T 6 (T 11 3) (T 8 c8 / 128 % 4 + 4 * (t_bo T (T 8 c8 % 32)) + 64 * 0)) 11 3 (T 11 3 + 1)) (T 8 c8 % 32) c8 (T 11 5)) 7 (T 8 c8 % 32) (T 7 (T 8 c8 % 32) + 65536)) 7 (T 8 c8 % 32) = T 7 (T 8 c8 % 32) + 65536 from (by simp [mu])]
                          refine lv_iconst (v := nI 3) hx hb dL_halls_1120 (by decide) ?_
                          refine lv_iand hx hb dL_halls_1121 ?_
                          rw [show (nI (T 7 (T 8 c8 % 32) + 65536)) &&& (nI 3) = nI (T 7 (T 8 c8 % 32) % 4) from (by rw [n_andK (k := 2) (by omega) (by decide) (by decide) rfl]; exact congrArg nI (by omega))]
                          refine va_calli (va_runS (As := [.ref (ad 1), .ref (ad 3), .ref (ad 4), .ref (ad 5), .ref (ad 6), .ref (ad 7), .ref (ad 11), .int (nI (T 7 (T 8 c8 % 32) % 4))]) (rest := [.int (m_upr M c8 q9)]) ⟨hx, hb, hml, hown, hts⟩ (ch_give l D ad cI (mu (t_moo (mu (mu T 6 (T 11 3) (T 8 c8 / 128 % 4 + 4 * (t_bo T (T 8 c8 % 32)) + 64 * 0)) 11 3 (T 11 3 + 1)) (T 8 c8 % 32) c8 (T 11 5)) 7 (T 8 c8 % 32) (T 7 (T 8 c8 % 32) + 65536)) hTu hdB (T 7 (T 8 c8 % 32) % 4) (by omega) (by exact Lup.w100 Mup (by rw [x3]; exact lot9.2.2.2.1)) (by exact Lup.tp) (by rw [mu_nf _ (by decide), t_moo_nf _ _ _ (by decide)]; simp [mu]; omega)) (va_cwS 8 hts gL_halls_L_give rfl rfl rfl kd_L_give ⟨Nat.le_of_ble_eq_true rfl, Nat.le_of_ble_eq_true rfl⟩) ⟨aB_blind, a_pre hKa hPa _⟩ rfl rfl hl.1 rfl (lv_room (Nat.le_of_ble_eq_true rfl)) dL_halls_1122 ⟨by show 18 + 0 ≤ 40; omega, by show 642 + 0 ≤ 1000; omega⟩) hS (fun _ _ h9 => Or.inr h9) (fun _ h9 => Or.inr h9) (fun r_257 u9 U8 H_259 locs_260 ht hvm hr_258 hB hz1 hk1 hS1 => ?_)
                          replace hB : va_P D vwCl (aws ad cI (t_gv (mu (t_moo (mu (mu T 6 (T 11 3) (T 8 c8 / 128 % 4 + 4 * (t_bo T (T 8 c8 % 32)) + 64 * 0)) 11 3 (T 11 3 + 1)) (T 8 c8 % 32) c8 (T 11 5)) 7 (T 8 c8 % 32) (T 7 (T 8 c8 % 32) + 65536)) (T 7 (T 8 c8 % 32) % 4))) U8.heap := hB
                          rw [ht] at hB
                          replace hPw := cP_keepB hPw hc_250.dis hAB hk1
                          clear hPa hS
                          have hPa := hB
                          have hS := hS1
                          clear hB hS1 hz1 hk1 hvm ht U8
                          subst hr_258
                          refine W.widen (k := 18) (n := 642) (by omega) (by omega) ?_
                          refine lv_icmp_ne (tgt := 1132) hx hb dL_halls_1125 (by decide)  (fun c_261 => absurd (eU.2.trans hgv.2.symm) c_261) (fun c_261 => ?_)
                          refine lv_iconst (v := nI 1) hx hb dL_halls_1128 (by decide) ?_
                          refine lv_goto (tgt := 1133) hx hb dL_halls_1129 (by decide) ?_
                          have hLR : LR (g_rule M (nI c8) true (nI q9)) (t_gv (mu (t_moo (mu (mu T 6 (T 11 3) (T 8 c8 / 128 % 4 + 4 * (t_bo T (T 8 c8 % 32)) + 64 * 0)) 11 3 (T 11 3 + 1)) (T 8 c8 % 32) c8 (T 11 5)) 7 (T 8 c8 % 32) (T 7 (T 8 c8 % 32) + 65536)) (T 7 (T 8 c8 % 32) % 4)) := by rw [(rul_gt hk0 (by omega) (by omega)).1, eU.1]; exact hgv.1
                          have hLT : LT (t_gv (mu (t_moo (mu (mu T 6 (T 11 3) (T 8 c8 / 128 % 4 + 4 * (t_bo T (T 8 c8 % 32)) + 64 * 0)) 11 3 (T 11 3 + 1)) (T 8 c8 % 32) c8 (T 11 5)) 7 (T 8 c8 % 32) (T 7 (T 8 c8 % 32) + 65536)) (T 7 (T 8 c8 % 32) % 4)) := by exact LT_gv hTu (by omega) (by rw [mu_nf _ (by decide), t_moo_nf _ _ _ (by decide)]; simp [mu]; omega)
                          refine W.widen (k := 40) (n := 1000) (by omega) (by omega) ?_
                          exact W.zret (v := nI 1) hx hb hr rfl (fun U9 ht9 hW9 => ⟨⟨_, (ws_248, g_rule M (nI c8) true (nI q9), t_gv (mu (t_moo (mu (mu T 6 (T 11 3) (T 8 c8 / 128 % 4 + 4 * (t_bo T (T 8 c8 % 32)) + 64 * 0)) 11 3 (T 11 3 + 1)) (T 8 c8 % 32) c8 (T 11 5)) 7 (T 8 c8 % 32) (T 7 (T 8 c8 % 32) + 65536)) (T 7 (T 8 c8 % 32) % 4)), rfl, ⟨rfl, hc_250, hM_254, hLB_255, Nat.le_trans h15_256 (Nat.succ_le_succ h15), hLR, hLT⟩, by show va_P D vwCl _ U9.heap ∧ va_P D vwCl _ U9.heap; rw [ht9]; exact ⟨hPw, hPa⟩⟩, hS.F ht9⟩) hS.2.2 dL_halls_1133
                        · refine lv_aload hx hb dL_halls_1027 (lv_at hl 11 rfl) ?_
                          refine lv_iload hx hb dL_halls_1029 (lv_at hl 20 rfl) ?_
                          refine a_iald (f := 8) (n := 32) hx hb hKa hPa rfl (by omega) (by decide) dL_halls_1031 ?_
                          refine lv_bipush (v := nI 31) hx hb dL_halls_1032 (by decide) ?_
                          refine lv_iand hx hb dL_halls_1034 ?_
                          rw [show (nI ((t_moo (mu (mu T 6 (T 11 3) (T 8 c8 / 128 % 4 + 4 * (t_bo T (T 8 c8 % 32)) + 64 * 0)) 11 3 (T 11 3 + 1)) (T 8 c8 % 32) c8 k) 8 k)) &&& (nI 31) = nI (((t_moo (mu (mu T 6 (T 11 3) (T 8 c8 / 128 % 4 + 4 * (t_bo T (T 8 c8 % 32)) + 64 * 0)) 11 3 (T 11 3 + 1)) (T 8 c8 % 32) c8 k) 8 k) % 32) from n_andK (k := 5) (by have f1 : (t_moo (mu (mu T 6 (T 11 3) (T 8 c8 / 128 % 4 + 4 * (t_bo T (T 8 c8 % 32)) + 64 * 0)) 11 3 (T 11 3 + 1)) (T 8 c8 % 32) c8 k) 8 k ≤ 16777215 := hTk.1 8 k; omega) (by decide) (by decide) rfl]
                          refine lv_iload hx hb dL_halls_1035 (lv_at hl 16 rfl) ?_
                          refine n_icmp_ne (tgt := 1076) hx hb dL_halls_1037 (by decide) (by have f1 : (t_moo (mu (mu T 6 (T 11 3) (T 8 c8 / 128 % 4 + 4 * (t_bo T (T 8 c8 % 32)) + 64 * 0)) 11 3 (T 11 3 + 1)) (T 8 c8 % 32) c8 k) 8 k ≤ 16777215 := hTk.1 8 k; omega) (by omega) (fun c_262 => ?_) (fun c_262 => ?_)
                          · refine n_iinc (k := 20) (lv' := [(20, .int (nI (k + 1))), (0, .ref h), (1, .int (nI act)), (2, .int y), (3, .int z), (4, .ref (ad 1)), (5, .ref (ad 2)), (6, .ref (ad 3)), (7, .ref (ad 4)), (8, .ref (ad 5)), (9, .ref (ad 6)), (10, .ref (ad 7)), (11, .ref (ad 8)), (12, .ref (ad 9)), (13, .ref (ad 11)), (14, .int (nI a9)), (15, .int (nI c8)), (16, .int (nI (T 8 c8 % 32))), (17, .int (bi up)), (18, .int (nI q9)), (19, .int (nI (T 8 c8 / 128 % 4)))]) hx hb dL_halls_1076 hl rfl (by decide) rfl (fun ls hl => ?_)
                            refine lv_goto (tgt := 1018) hx hb dL_halls_1079 (by decide) ?_
                            have eT_263 : t_moo (mu (mu T 6 (T 11 3) (T 8 c8 / 128 % 4 + 4 * (t_bo T (T 8 c8 % 32)) + 64 * 0)) 11 3 (T 11 3 + 1)) (T 8 c8 % 32) c8 (k + 1) = t_moo (mu (mu T 6 (T 11 3) (T 8 c8 / 128 % 4 + 4 * (t_bo T (T 8 c8 % 32)) + 64 * 0)) 11 3 (T 11 3 + 1)) (T 8 c8 % 32) c8 k := by first | (rw [t_moo, if_pos ⟨by assumption, by assumption⟩, if_pos (by assumption)]; done) | (rw [t_moo, if_pos ⟨by assumption, by assumption⟩, if_neg (by assumption)]; done) | (rw [t_moo, if_neg (fun z9 => absurd z9.1 (by assumption))]; done) | (rw [t_moo, if_neg (fun z9 => absurd z9.2 (by assumption))]; done)
                            refine ih_243 (by omega) _ _ ls (by rw [eT_263]; exact hPa) hPw hS ?_
                            show lv_has ls 21 [(0, .ref h), (1, .int (nI act)), (2, .int y), (3, .int z), (4, .ref (ad 1)), (5, .ref (ad 2)), (6, .ref (ad 3)), (7, .ref (ad 4)), (8, .ref (ad 5)), (9, .ref (ad 6)), (10, .ref (ad 7)), (11, .ref (ad 8)), (12, .ref (ad 9)), (13, .ref (ad 11)), (14, .int (nI a9)), (15, .int (nI c8)), (16, .int (nI (T 8 c8 % 32))), (17, .int (bi up)), (18, .int (nI q9)), (19, .int (nI (T 8 c8 / 128 % 4))), (20, .int (nI (k + 1)))]
                            exact lv_sub hl [1, 2, 3, 4, 5, 6, 7, 8, 9, 10, 11, 12, 13, 14, 15, 16, 17, 18, 19, 20, 0] rfl
                          · refine lv_aload hx hb dL_halls_1040 (lv_at hl 11 rfl) ?_
                            refine lv_iload hx hb dL_halls_1042 (lv_at hl 20 rfl) ?_
                            refine a_iald (f := 8) (n := 32) hx hb hKa hPa rfl (by omega) (by decide) dL_halls_1044 ?_
                            refine lv_bipush (v := nI 9) hx hb dL_halls_1045 (by decide) ?_
                            refine lv_ishr hx hb dL_halls_1047 ?_
                            rw [show (nI ((t_moo (mu (mu T 6 (T 11 3) (T 8 c8 / 128 % 4 + 4 * (t_bo T (T 8 c8 % 32)) + 64 * 0)) 11 3 (T 11 3 + 1)) (T 8 c8 % 32) c8 k) 8 k)) >>> ((nI 9) &&& 31) = nI (((t_moo (mu (mu T 6 (T 11 3) (T 8 c8 / 128 % 4 + 4 * (t_bo T (T 8 c8 % 32)) + 64 * 0)) 11 3 (T 11 3 + 1)) (T 8 c8 % 32) c8 k) 8 k) / 512) from n_shrK (by have f1 : (t_moo (mu (mu T 6 (T 11 3) (T 8 c8 / 128 % 4 + 4 * (t_bo T (T 8 c8 % 32)) + 64 * 0)) 11 3 (T 11 3 + 1)) (T 8 c8 % 32) c8 k) 8 k ≤ 16777215 := hTk.1 8 k; omega) (by decide) rfl]
                            refine lv_iconst (v := nI 3) hx hb dL_halls_1048 (by decide) ?_
                            refine lv_iand hx hb dL_halls_1049 ?_
                            rw [show (nI (((t_moo (mu (mu T 6 (T 11 3) (T 8 c8 / 128 % 4 + 4 * (t_bo T (T 8 c8 % 32)) + 64 * 0)) 11 3 (T 11 3 + 1)) (T 8 c8 % 32) c8 k) 8 k) / 512)) &&& (nI 3) = nI ((((t_moo (mu (mu T 6 (T 11 3) (T 8 c8 / 128 % 4 + 4 * (t_bo T (T 8 c8 % 32)) + 64 * 0)) 11 3 (T 11 3 + 1)) (T 8 c8 % 32) c8 k) 8 k) / 512) % 4) from n_andK (k := 2) (by have f1 : (t_moo (mu (mu T 6 (T 11 3) (T 8 c8 / 128 % 4 + 4 * (t_bo T (T 8 c8 % 32)) + 64 * 0)) 11 3 (T 11 3 + 1)) (T 8 c8 % 32) c8 k) 8 k ≤ 16777215 := hTk.1 8 k; omega) (by decide) (by decide) rfl]
                            refine n_if_ne (tgt := 1076) hx hb dL_halls_1050 (by decide) (by have f1 : (t_moo (mu (mu T 6 (T 11 3) (T 8 c8 / 128 % 4 + 4 * (t_bo T (T 8 c8 % 32)) + 64 * 0)) 11 3 (T 11 3 + 1)) (T 8 c8 % 32) c8 k) 8 k ≤ 16777215 := hTk.1 8 k; omega) (fun c_264 => ?_) (fun c_264 => ?_)
                            · refine n_iinc (k := 20) (lv' := [(20, .int (nI (k + 1))), (0, .ref h), (1, .int (nI act)), (2, .int y), (3, .int z), (4, .ref (ad 1)), (5, .ref (ad 2)), (6, .ref (ad 3)), (7, .ref (ad 4)), (8, .ref (ad 5)), (9, .ref (ad 6)), (10, .ref (ad 7)), (11, .ref (ad 8)), (12, .ref (ad 9)), (13, .ref (ad 11)), (14, .int (nI a9)), (15, .int (nI c8)), (16, .int (nI (T 8 c8 % 32))), (17, .int (bi up)), (18, .int (nI q9)), (19, .int (nI (T 8 c8 / 128 % 4)))]) hx hb dL_halls_1076 hl rfl (by decide) rfl (fun ls hl => ?_)
                              refine lv_goto (tgt := 1018) hx hb dL_halls_1079 (by decide) ?_
                              have eT_265 : t_moo (mu (mu T 6 (T 11 3) (T 8 c8 / 128 % 4 + 4 * (t_bo T (T 8 c8 % 32)) + 64 * 0)) 11 3 (T 11 3 + 1)) (T 8 c8 % 32) c8 (k + 1) = t_moo (mu (mu T 6 (T 11 3) (T 8 c8 / 128 % 4 + 4 * (t_bo T (T 8 c8 % 32)) + 64 * 0)) 11 3 (T 11 3 + 1)) (T 8 c8 % 32) c8 k := by first | (rw [t_moo, if_pos ⟨by assumption, by assumption⟩, if_pos (by assumption)]; done) | (rw [t_moo, if_pos ⟨by assumption, by assumption⟩, if_neg (by assumption)]; done) | (rw [t_moo, if_neg (fun z9 => absurd z9.1 (by assumption))]; done) | (rw [t_moo, if_neg (fun z9 => absurd z9.2 (by assumption))]; done)
                              refine ih_243 (by omega) _ _ ls (by rw [eT_265]; exact hPa) hPw hS ?_
                              show lv_has ls 21 [(0, .ref h), (1, .int (nI act)), (2, .int y), (3, .int z), (4, .ref (ad 1)), (5, .ref (ad 2)), (6, .ref (ad 3)), (7, .ref (ad 4)), (8, .ref (ad 5)), (9, .ref (ad 6)), (10, .ref (ad 7)), (11, .ref (ad 8)), (12, .ref (ad 9)), (13, .ref (ad 11)), (14, .int (nI a9)), (15, .int (nI c8)), (16, .int (nI (T 8 c8 % 32))), (17, .int (bi up)), (18, .int (nI q9)), (19, .int (nI (T 8 c8 / 128 % 4))), (20, .int (nI (k + 1)))]
                              exact lv_sub hl [1, 2, 3, 4, 5, 6, 7, 8, 9, 10, 11, 12, 13, 14, 15, 16, 17, 18, 19, 20, 0] rfl
                            · refine lv_aload hx hb dL_halls_1053 (lv_at hl 11 rfl) ?_
                              refine lv_iload hx hb dL_halls_1055 (lv_at hl 20 rfl) ?_
                              refine lv_dup2_11 hx hb dL_halls_1057 rfl rfl ?_
                              refine a_iald (f := 8) (n := 32) hx hb hKa hPa rfl (by omega) (by decide) dL_halls_1058 ?_
                              refine lv_iload hx hb dL_halls_1059 (lv_at hl 20 rfl) ?_
                              refine lv_iload hx hb dL_halls_1061 (lv_at hl 15 rfl) ?_
                              refine n_icmp_ne (tgt := 1070) hx hb dL_halls_1063 (by decide) (by omega) (by have f1 := hc8.1; omega) (fun c_266 => ?_) (fun c_266 => ?_)
                              · refine lv_iconst (v := nI 3) hx hb dL_halls_1070 (by decide) ?_
                                refine lv_bipush (v := nI 9) hx hb dL_halls_1071 (by decide) ?_
                                refine lv_ishl hx hb dL_halls_1073 ?_
                                rw [show (nI 3) <<< ((nI 9) &&& 31) = nI 1536 from n_shlK (by decide) rfl (by decide)]
                                refine lv_ior hx hb dL_halls_1074 ?_
                                rw [show (nI ((t_moo (mu (mu T 6 (T 11 3) (T 8 c8 / 128 % 4 + 4 * (t_bo T (T 8 c8 % 32)) + 64 * 0)) 11 3 (T 11 3 + 1)) (T 8 c8 % 32) c8 k) 8 k)) ||| (nI 1536) = nI (((t_moo (mu (mu T 6 (T 11 3) (T 8 c8 / 128 % 4 + 4 * (t_bo T (T 8 c8 % 32)) + 64 * 0)) 11 3 (T 11 3 + 1)) (T 8 c8 % 32) c8 k) 8 k) + 1536) from (by rw [n_or]; exact congrArg nI (or_st (v := 3) (by assumption) (by decide)))]
                                refine b_iast (f := 8) (n := 32) (v := ((t_moo (mu (mu T 6 (T 11 3) (T 8 c8 / 128 % 4 + 4 * (t_bo T (T 8 c8 % 32)) + 64 * 0)) 11 3 (T 11 3 + 1)) (T 8 c8 % 32) c8 k) 8 k) + 1536) hx hb hKa hPa hPw hdB hc_200.dis hAB hS (by decide) rfl (by omega) (by decide) (aset_8 _ _ _ _ _) dL_halls_1075 (fun H1 locs1 hPa1 hPw1 hS1 => ?_)
                                clear hPa hPw hS
                                have hPa := hPa1; have hPw := hPw1; have hS := hS1; clear hPa1 hPw1 hS1
                                refine n_iinc (k := 20) (lv' := [(20, .int (nI (k + 1))), (0, .ref h), (1, .int (nI act)), (2, .int y), (3, .int z), (4, .ref (ad 1)), (5, .ref (ad 2)), (6, .ref (ad 3)), (7, .ref (ad 4)), (8, .ref (ad 5)), (9, .ref (ad 6)), (10, .ref (ad 7)), (11, .ref (ad 8)), (12, .ref (ad 9)), (13, .ref (ad 11)), (14, .int (nI a9)), (15, .int (nI c8)), (16, .int (nI (T 8 c8 % 32))), (17, .int (bi up)), (18, .int (nI q9)), (19, .int (nI (T 8 c8 / 128 % 4)))]) hx hb dL_halls_1076 hl rfl (by decide) rfl (fun ls hl => ?_)
                                refine lv_goto (tgt := 1018) hx hb dL_halls_1079 (by decide) ?_
                                have eT_267 : t_moo (mu (mu T 6 (T 11 3) (T 8 c8 / 128 % 4 + 4 * (t_bo T (T 8 c8 % 32)) + 64 * 0)) 11 3 (T 11 3 + 1)) (T 8 c8 % 32) c8 (k + 1) = mu (t_moo (mu (mu T 6 (T 11 3) (T 8 c8 / 128 % 4 + 4 * (t_bo T (T 8 c8 % 32)) + 64 * 0)) 11 3 (T 11 3 + 1)) (T 8 c8 % 32) c8 k) 8 k (((t_moo (mu (mu T 6 (T 11 3) (T 8 c8 / 128 % 4 + 4 * (t_bo T (T 8 c8 % 32)) + 64 * 0)) 11 3 (T 11 3 + 1)) (T 8 c8 % 32) c8 k) 8 k) + 1536) := by first | (rw [t_moo, if_pos ⟨by assumption, by assumption⟩, if_pos (by assumption)]; done) | (rw [t_moo, if_pos ⟨by assumption, by assumption⟩, if_neg (by assumption)]; done) | (rw [t_moo, if_neg (fun z9 => absurd z9.1 (by assumption))]; done) | (rw [t_moo, if_neg (fun z9 => absurd z9.2 (by assumption))]; done)
                                refine ih_243 (by omega) _ _ ls (by rw [eT_267]; exact hPa) hPw hS ?_
                                show lv_has ls 21 [(0, .ref h), (1, .int (nI act)), (2, .int y), (3, .int z), (4, .ref (ad 1)), (5, .ref (ad 2)), (6, .ref (ad 3)), (7, .ref (ad 4)), (8, .ref (ad 5)), (9, .ref (ad 6)), (10, .ref (ad 7)), (11, .ref (ad 8)), (12, .ref (ad 9)), (13, .ref (ad 11)), (14, .int (nI a9)), (15, .int (nI c8)), (16, .int (nI (T 8 c8 % 32))), (17, .int (bi up)), (18, .int (nI q9)), (19, .int (nI (T 8 c8 / 128 % 4))), (20, .int (nI (k + 1)))]
                                exact lv_sub hl [1, 2, 3, 4, 5, 6, 7, 8, 9, 10, 11, 12, 13, 14, 15, 16, 17, 18, 19, 20, 0] rfl
                              · refine lv_iconst (v := nI 1) hx hb dL_halls_1066 (by decide) ?_
                                refine lv_goto (tgt := 1071) hx hb dL_halls_1067 (by decide) ?_
                                refine lv_bipush (v := nI 9) hx hb dL_halls_1071 (by decide) ?_
                                refine lv_ishl hx hb dL_halls_1073 ?_
                                rw [show (nI 1) <<< ((nI 9) &&& 31) = nI 512 from n_shlK (by decide) rfl (by decide)]
                                refine lv_ior hx hb dL_halls_1074 ?_
                                rw [show (nI ((t_moo (mu (mu T 6 (T 11 3) (T 8 c8 / 128 % 4 + 4 * (t_bo T (T 8 c8 % 32)) + 64 * 0)) 11 3 (T 11 3 + 1)) (T 8 c8 % 32) c8 k) 8 k)) ||| (nI 512) = nI (((t_moo (mu (mu T 6 (T 11 3) (T 8 c8 / 128 % 4 + 4 * (t_bo T (T 8 c8 % 32)) + 64 * 0)) 11 3 (T 11 3 + 1)) (T 8 c8 % 32) c8 k) 8 k) + 512) from (by rw [n_or]; exact congrArg nI (or_st (v := 1) (by assumption) (by decide)))]
                                refine b_iast (f := 8) (n := 32) (v := ((t_moo (mu (mu T 6 (T 11 3) (T 8 c8 / 128 % 4 + 4 * (t_bo T (T 8 c8 % 32)) + 64 * 0)) 11 3 (T 11 3 + 1)) (T 8 c8 % 32) c8 k) 8 k) + 512) hx hb hKa hPa hPw hdB hc_200.dis hAB hS (by decide) rfl (by omega) (by decide) (aset_8 _ _ _ _ _) dL_halls_1075 (fun H1 locs1 hPa1 hPw1 hS1 => ?_)
                                clear hPa hPw hS
                                have hPa := hPa1; have hPw := hPw1; have hS := hS1; clear hPa1 hPw1 hS1
                                refine n_iinc (k := 20) (lv' := [(20, .int (nI (k + 1))), (0, .ref h), (1, .int (nI act)), (2, .int y), (3, .int z), (4, .ref (ad 1)), (5, .ref (ad 2)), (6, .ref (ad 3)), (7, .ref (ad 4)), (8, .ref (ad 5)), (9, .ref (ad 6)), (10, .ref (ad 7)), (11, .ref (ad 8)), (12, .ref (ad 9)), (13, .ref (ad 11)), (14, .int (nI a9)), (15, .int (nI c8)), (16, .int (nI (T 8 c8 % 32))), (17, .int (bi up)), (18, .int (nI q9)), (19, .int (nI (T 8 c8 / 128 % 4)))]) hx hb dL_halls_1076 hl rfl (by decide) rfl (fun ls hl => ?_)
                                refine lv_goto (tgt := 1018) hx hb dL_halls_1079 (by decide) ?_
                                have eT_268 : t_moo (mu (mu T 6 (T 11 3) (T 8 c8 / 128 % 4 + 4 * (t_bo T (T 8 c8 % 32)) + 64 * 0)) 11 3 (T 11 3 + 1)) (T 8 c8 % 32) c8 (k + 1) = mu (t_moo (mu (mu T 6 (T 11 3) (T 8 c8 / 128 % 4 + 4 * (t_bo T (T 8 c8 % 32)) + 64 * 0)) 11 3 (T 11 3 + 1)) (T 8 c8 % 32) c8 k) 8 k (((t_moo (mu (mu T 6 (T 11 3) (T 8 c8 / 128 % 4 + 4 * (t_bo T (T 8 c8 % 32)) + 64 * 0)) 11 3 (T 11 3 + 1)) (T 8 c8 % 32) c8 k) 8 k) + 512) := by first | (rw [t_moo, if_pos ⟨by assumption, by assumption⟩, if_pos (by assumption)]; done) | (rw [t_moo, if_pos ⟨by assumption, by assumption⟩, if_neg (by assumption)]; done) | (rw [t_moo, if_neg (fun z9 => absurd z9.1 (by assumption))]; done) | (rw [t_moo, if_neg (fun z9 => absurd z9.2 (by assumption))]; done)
                                refine ih_243 (by omega) _ _ ls (by rw [eT_268]; exact hPa) hPw hS ?_
                                show lv_has ls 21 [(0, .ref h), (1, .int (nI act)), (2, .int y), (3, .int z), (4, .ref (ad 1)), (5, .ref (ad 2)), (6, .ref (ad 3)), (7, .ref (ad 4)), (8, .ref (ad 5)), (9, .ref (ad 6)), (10, .ref (ad 7)), (11, .ref (ad 8)), (12, .ref (ad 9)), (13, .ref (ad 11)), (14, .int (nI a9)), (15, .int (nI c8)), (16, .int (nI (T 8 c8 % 32))), (17, .int (bi up)), (18, .int (nI q9)), (19, .int (nI (T 8 c8 / 128 % 4))), (20, .int (nI (k + 1)))]
                                exact lv_sub hl [1, 2, 3, 4, 5, 6, 7, 8, 9, 10, 11, 12, 13, 14, 15, 16, 17, 18, 19, 20, 0] rfl
                      · refine lv_bipush (v := nI 64) hx hb dL_halls_996 (by decide) ?_
                        refine lv_iload hx hb dL_halls_998 (lv_at hl 1 rfl) ?_
                        refine n_imul hx hb dL_halls_1000 (z := 64 * q9) rfl ?_
                        refine lv_goto (tgt := 1005) hx hb dL_halls_1001 (by decide) ?_
                        refine n_iadd hx hb dL_halls_1005 (z := ((((T 8 c8) / 128) % 4) + (4 * (t_bo T ((T 8 c8) % 32)))) + (64 * q9)) rfl ?_
                        refine b_iast (f := 6) (n := 60) (v := ((((T 8 c8) / 128) % 4) + (4 * (t_bo T ((T 8 c8) % 32)))) + (64 * q9)) hx hb hKa hPa hPw hdB hc_200.dis hAB hS (by decide) rfl (by have f1 : T 11 3 ≤ 2000 := hT.1 11 3; have f2 : T 11 3 ≤ 60 := hT.2.2.1; omega) (by decide) (aset_6 _ _ _ _ _) dL_halls_1006 (fun H1 locs1 hPa1 hPw1 hS1 => ?_)
                        clear hPa hPw hS
                        have hPa := hPa1; have hPw := hPw1; have hS := hS1; clear hPa1 hPw1 hS1
                        refine lv_aload hx hb dL_halls_1007 (lv_at hl 19 rfl) ?_
                        refine lv_iconst (v := nI 3) hx hb dL_halls_1009 (by decide) ?_
                        refine lv_dup2_11 hx hb dL_halls_1010 rfl rfl ?_
                        refine a_iald (f := 11) (n := 7) hx hb hKa hPa rfl (by decide) (by decide) dL_halls_1011 ?_
                        rw [show (mu T 6 (T 11 3) (((((T 8 c8) / 128) % 4) + (4 * (t_bo T ((T 8 c8) % 32)))) + (64 * q9))) 11 3 = T 11 3 from (by simp [mu])]
                        refine lv_iconst (v := nI 1) hx hb dL_halls_1012 (by decide) ?_
                        refine n_iadd hx hb dL_halls_1013 (z := (T 11 3) + 1) rfl ?_
                        refine b_iast (f := 11) (n := 7) (v := (T 11 3) + 1) hx hb hKa hPa hPw hdB hc_200.dis hAB hS (by decide) rfl (by decide) (by decide) (aset_11 _ _ _ _ _) dL_halls_1014 (fun H1 locs1 hPa1 hPw1 hS1 => ?_)
                        clear hPa hPw hS
                        have hPa := hPa1; have hPw := hPw1; have hS := hS1; clear hPa1 hPw1 hS1
                        have Lup := hR.upS hM h16 (c := c8) (q0 := (t_bo T (T 8 c8 % 32))) (qv := q9) (qx := q9) (by omega) ko (by rw [← e23]; exact kv) (by omega) (by rw [← ab9.2.2.1]; first | rw [if_pos (by assumption)] | rw [if_neg (by omega)]) (by rw [← ab9.2.2.1, ← e23, ← ab9.2.1]; first | rw [if_pos (by omega)] | rw [if_neg (by omega)]) (fun z9 => rd2 z9 (by rw [← e23]; exact kv)) hRX.x2
                        rw [← ab9.2.2.1, ← e23] at Lup
                        have eE : mu (mu T 6 (T 11 3) (((((T 8 c8) / 128) % 4) + (4 * (t_bo T ((T 8 c8) % 32)))) + (64 * q9))) 11 3 ((T 11 3) + 1) = mu (mu T 6 (T 11 3) (T 8 c8 / 128 % 4 + 4 * (t_bo T (T 8 c8 % 32)) + 64 * q9)) 11 3 (T 11 3 + 1) := by first | rfl | (congr 2; omega)
                        rw [eE] at hPa
                        have hTe : LT (mu (mu T 6 (T 11 3) (T 8 c8 / 128 % 4 + 4 * (t_bo T (T 8 c8 % 32)) + 64 * q9)) 11 3 (T 11 3 + 1)) := ⟨LTb_mu (LTb_mu hT.1 (by show _ ≤ 8191; omega)) (by show _ ≤ 2000; omega), by simp [mu]; omega, by simp [mu]; omega, by simp [mu]; omega, by simp [mu]; omega, by simp [mu]; omega⟩
                        have h8e : ∀ k, k < T 11 5 → (mu (mu T 6 (T 11 3) (T 8 c8 / 128 % 4 + 4 * (t_bo T (T 8 c8 % 32)) + 64 * q9)) 11 3 (T 11 3 + 1)) 8 k ≤ 10000000 := fun k hk => by simpa [mu] using hR.c8 hM h16 k hk
                        refine lv_iconst (v := nI 0) hx hb dL_halls_1015 (by decide) ?_
                        refine lv_istore (lv' := [(20, .int (nI 0)), (19, .int (nI (((T 8 c8) / 128) % 4))), (18, .int (nI q9)), (17, .int (bi up)), (16, .int (nI ((T 8 c8) % 32))), (15, .int (nI c8)), (14, .int (nI a9)), (0, .ref h), (1, .int (nI act)), (2, .int y), (3, .int z), (4, .ref (ad 1)), (5, .ref (ad 2)), (6, .ref (ad 3)), (7, .ref (ad 4)), (8, .ref (ad 5)), (9, .ref (ad 6)), (10, .ref (ad 7)), (11, .ref (ad 8)), (12, .ref (ad 9)), (13, .ref (ad 11))]) hx hb dL_halls_1016 hl (by decide) rfl (fun ls hl => ?_)
                        have eI_269 : T 8 c8 % 32 = (T 8 c8) % 32 := by rfl
                        have eI_270 : T 8 c8 / 128 % 4 = ((T 8 c8) / 128) % 4 := by rfl
                        replace hPa : va_P D vwCl (aws ad cI (t_moo (mu (mu T 6 (T 11 3) (T 8 c8 / 128 % 4 + 4 * (t_bo T (T 8 c8 % 32)) + 64 * q9)) 11 3 (T 11 3 + 1)) (T 8 c8 % 32) c8 0)) _ := hPa
                        refine b_loop (D := D) (ad := ad) (cI := cI) (A := fun q => A q ∨ B q) (ws := ws_198) (n := T 11 5) (nL := 21) (fun k => [(0, .ref h), (1, .int (nI act)), (2, .int y), (3, .int z), (4, .ref (ad 1)), (5, .ref (ad 2)), (6, .ref (ad 3)), (7, .ref (ad 4)), (8, .ref (ad 5)), (9, .ref (ad 6)), (10, .ref (ad 7)), (11, .ref (ad 8)), (12, .ref (ad 9)), (13, .ref (ad 11)), (14, .int (nI a9)), (15, .int (nI c8)), (16, .int (nI (T 8 c8 % 32))), (17, .int (bi up)), (18, .int (nI q9)), (19, .int (nI (T 8 c8 / 128 % 4))), (20, .int (nI k))]) (fun k => t_moo (mu (mu T 6 (T 11 3) (T 8 c8 / 128 % 4 + 4 * (t_bo T (T 8 c8 % 32)) + 64 * q9)) 11 3 (T 11 3 + 1)) (T 8 c8 % 32) c8 k) (fun k hb_271 ih_272 H_273 locs_274 ls hPa9 hPw9 hS9 hl => ?_) 0 (by omega) _ _ ls hPa hPw hS (lv_sub hl [7, 8, 9, 10, 11, 12, 13, 14, 15, 16, 17, 18, 19, 20, 6, 5, 4, 3, 2, 1, 0] (by show lv_pick _ _ = [(0, .ref h), (1, .int (nI act)), (2, .int y), (3, .int z), (4, .ref (ad 1)), (5, .ref (ad 2)), (6, .ref (ad 3)), (7, .ref (ad 4)), (8, .ref (ad 5)), (9, .ref (ad 6)), (10, .ref (ad 7)), (11, .ref (ad 8)), (12, .ref (ad 9)), (13, .ref (ad 11)), (14, .int (nI a9)), (15, .int (nI c8)), (16, .int (nI (T 8 c8 % 32))), (17, .int (bi up)), (18, .int (nI q9)), (19, .int (nI (T 8 c8 / 128 % 4))), (20, .int (nI 0))]; rw [eI_269, eI_270]; rfl))
                        clear hPa hPw hS
                        have hPa := hPa9; have hPw := hPw9; have hS := hS9; clear hPa9 hPw9 hS9
                        have hTk : LT (t_moo (mu (mu T 6 (T 11 3) (T 8 c8 / 128 % 4 + 4 * (t_bo T (T 8 c8 % 32)) + 64 * q9)) 11 3 (T 11 3 + 1)) (T 8 c8 % 32) c8 k) := LT_moo hTe k (fun k9 hk9 => h8e k9 (by omega))
                        refine lv_iload hx hb dL_halls_1018 (lv_at hl 20 rfl) ?_
                        refine lv_aload hx hb dL_halls_1020 (lv_at hl 13 rfl) ?_
                        refine lv_iconst (v := nI 5) hx hb dL_halls_1022 (by decide) ?_
                        refine a_iald (f := 11) (n := 7) hx hb hKa hPa rfl (by decide) (by decide) dL_halls_1023 ?_
                        rw [show (t_moo (mu (mu T 6 (T 11 3) (T 8 c8 / 128 % 4 + 4 * (t_bo T (T 8 c8 % 32)) + 64 * q9)) 11 3 (T 11 3 + 1)) (T 8 c8 % 32) c8 k) 11 5 = T 11 5 from (by rw [t_moo_nf _ _ _ (by decide)]; simp [mu])]
                        refine n_icmp_ge (tgt := 1082) hx hb dL_halls_1024 (by decide) (by omega) (by have f1 := C5; omega) (fun c_275 => ?_) (fun c_275 => ?_)
                        · obtain rfl : T 11 5 = k := by omega
                          have hTm : LT (t_moo (mu (mu T 6 (T 11 3) (T 8 c8 / 128 % 4 + 4 * (t_bo T (T 8 c8 % 32)) + 64 * q9)) 11 3 (T 11 3 + 1)) (T 8 c8 % 32) c8 (T 11 5)) := LT_moo hTe _ h8e
                          refine lv_aload hx hb dL_halls_1082 (lv_at hl 10 rfl) ?_
                          refine lv_iload hx hb dL_halls_1084 (lv_at hl 16 rfl) ?_
                          refine lv_dup2_11 hx hb dL_halls_1086 rfl rfl ?_
                          refine a_iald (f := 7) (n := 32) hx hb hKa hPa rfl (by omega) (by decide) dL_halls_1087 ?_
                          rw [show (t_moo (mu (mu T 6 (T 11 3) (T 8 c8 / 128 % 4 + 4 * (t_bo T (T 8 c8 % 32)) + 64 * q9)) 11 3 (T 11 3 + 1)) (T 8 c8 % 32) c8 (T 11 5)) 7 (T 8 c8 % 32) = T 7 (T 8 c8 % 32) from (by rw [t_moo_nf _ _ _ (by decide)]; simp [mu])]
                          refine lv_ldc (v := nI 65536) hx hb hown (hts (.constant RL 172 (65536)) (List.mem_of_getElem? (i := 1) rfl)) dL_halls_1088 ?_
                          refine lv_ior hx hb dL_halls_1090 ?_
                          rw [show (nI (T 7 (T 8 c8 % 32))) ||| (nI 65536) = nI (T 7 (T 8 c8 % 32) + 65536) from (by rw [n_or]; exact congrArg nI (or_16 (by omega)))]
                          refine b_iast (f := 7) (n := 32) (v := T 7 (T 8 c8 % 32) + 65536) hx hb hKa hPa hPw hdB hc_200.dis hAB hS (by decide) rfl (by omega) (by decide) (aset_7 _ _ _ _ _) dL_halls_1091 (fun H1 locs1 hPa1 hPw1 hS1 => ?_)
                          clear hPa hPw hS
                          have hPa := hPa1; have hPw := hPw1; have hS := hS1; clear hPa1 hPw1 hS1
                          have hTu : LT (mu (t_moo (mu (mu T 6 (T 11 3) (T 8 c8 / 128 % 4 + 4 * (t_bo T (T 8 c8 % 32)) + 64 * q9)) 11 3 (T 11 3 + 1)) (T 8 c8 % 32) c8 (T 11 5)) 7 (T 8 c8 % 32) (T 7 (T 8 c8 % 32) + 65536)) := by obtain ⟨u0, u1, u2, u3, u4, u5⟩ := hTm; exact ⟨LTb_mu u0 (by show _ ≤ 16777215; have f2 := lot9.2.1; have f3 : M 19 (T 8 c8 % 32) ≤ 2000 := hM 19 _; have f4 : M 21 (T 8 c8 % 32) ≤ 60 := hM 21 _; omega), by simpa [mu] using u1, by simpa [mu] using u2, by simpa [mu] using u3, by simpa [mu] using u4, by simpa [mu] using u5⟩
                          have Mup := MI_up2 hM c8 (show q9 ≤ 100 by omega)
                          have x3 : m_up2 M c8 q9 3 = M 3 := m_up2_nf M c8 q9 (by decide)
                          have x8 : m_up2 M c8 q9 8 = M 8 := m_up2_nf M c8 q9 (by decide)
                          have hgv := Lup.gv Mup (j := T 7 (T 8 c8 % 32) % 4) (by omega) (by rw [x8]; exact lot9.2.2.2.2.1) (by rw [x3]; exact lot9.2.2.2.1)
                          have eU : m_up M c8 q9 = m_gv (m_up2 M c8 q9) (ml (T 7 (T 8 c8 % 32) % 4)) ∧ m_upr M c8 q9 = m_gvr (m_up2 M c8 q9) (ml (T 7 (T 8 c8 % 32) % 4)) := by rw [← lot9.1, e23]; exact ⟨rfl, rfl⟩
                          refine lv_aload_n hx hb dL_halls_1092 rfl (lv_at hl 0 rfl) ?_
                          refine lv_iload hx hb dL_halls_1093 (lv_at hl 15 rfl) ?_
                          refine lv_iconst (v := nI 1) hx hb dL_halls_1095 (by decide) ?_
                          refine lv_iload hx hb dL_halls_1096 (lv_at hl 18 rfl) ?_
                          refine va_calli (vx_runSW (As := [.ref h, .int (nI c8), .int (bi true), .int (nI q9)]) (rest := []) ⟨hx, hb, hml, hown, hts⟩ (cw_rule l hst D cI cO cb eA mi st dO dT vF ws_198 hc_200 hM hsI (nI c8) true (nI q9)) (vx_cwSW 4 hts gL_halls_L_rule rfl rfl rfl kd_L_rule ⟨Nat.le_of_ble_eq_true rfl, Nat.le_of_ble_eq_true rfl⟩) ⟨kB_blind, kB_pre hK hG hGT hN (fun q h9 => Or.inl h9) hS (fun q h9 => hA q (Nat.le_trans hS.1 h9)) hPw _⟩ rfl rfl hl.1 rfl (lv_room (Nat.le_of_ble_eq_true rfl)) dL_halls_1098 ⟨by show 12 + 6 ≤ 40; omega, by show 428 + 214 ≤ 1000; omega⟩) hS (fun _ _ h9 => Or.inl h9) (fun _ h9 => Or.inl h9) (fun r_276 ws_277 U8 H_281 locs_282 ht hvm hu_280 hB hz1 hk1 hS1 => ?_)
                          obtain ⟨hr_278, hc_279⟩ := hu_280
                          replace hB : va_P D vwCl ws_277 U8.heap := hB
                          rw [ht] at hB
                          replace hPa := aP_keep hPa hdB hAB hk1
                          clear hPw hS
                          have hPw := hB
                          have hS := hS1
                          clear hB hS1 hz1 hk1 hvm ht U8
                          have hv9 : er (k_rule M (nI c8) true (nI q9)) (r_rule M (nI c8) true (nI q9)) = m_upr M c8 q9 := by exact (rul_gt hk0 (by omega) (by omega)).2
                          rw [hv9] at hr_278
                          clear hv9
                          subst hr_278
                          have hM_283 : MI (g_rule M (nI c8) true (nI q9)) := MI_rule hM (nI c8) true (nI q9)
                          have hLB_284 : m_LB (g_rule M (nI c8) true (nI q9)) := (LB_rule (nI c8) true (nI q9)).1 hLB
                          have h15_285 : (g_rule M (nI c8) true (nI q9)) 15 0 ≤ M 15 0 + 1 := (LB_rule (nI c8) true (nI q9)).2
                          refine lv_aload hx hb dL_halls_1101 (lv_at hl 4 rfl) ?_
                          refine lv_aload hx hb dL_halls_1103 (lv_at hl 6 rfl) ?_
                          refine lv_aload hx hb dL_halls_1105 (lv_at hl 7 rfl) ?_
                          refine lv_aload hx hb dL_halls_1107 (lv_at hl 8 rfl) ?_
                          refine lv_aload hx hb dL_halls_1109 (lv_at hl 9 rfl) ?_
                          refine lv_aload hx hb dL_halls_1111 (lv_at hl 10 rfl) ?_
                          refine lv_aload hx hb dL_halls_1113 (lv_at hl 13 rfl) ?_
                          refine lv_aload hx hb dL_halls_1115 (lv_at hl 10 rfl) ?_
                          refine lv_iload hx hb dL_halls_1117 (lv_at hl 16 rfl) ?_
                          refine a_iald (f := 7) (n := 32) hx hb hKa hPa rfl (by omega) (by decide) dL_halls_1119 ?_
                          rw [show (mu (t_moo (mu (mu T 6 (T 11 3) (T 8 c8 / 128 % 4 + 4 * (t_bo T (T 8 c8 % 32)) + 64 * q9)) 11 3 (T 11 3 + 1)) (T 8 c8 % 32) c8 (T 11 5)) 7 (T 8 c8 % 32) (T 7 (T 8 c8 % 32) + 65536)) 7 (T 8 c8 % 32) = T 7 (T 8 c8 % 32) + 65536 from (by simp [mu])]
                          refine lv_iconst (v := nI 3) hx hb dL_halls_1120 (by decide) ?_
                          refine lv_iand hx hb dL_halls_1121 ?_
                          rw [show (nI (T 7 (T 8 c8 % 32) + 65536)) &&& (nI 3) = nI (T 7 (T 8 c8 % 32) % 4) from (by rw [n_andK (k := 2) (by omega) (by decide) (by decide) rfl]; exact congrArg nI (by omega))]
                          refine va_calli (va_runS (As := [.ref (ad 1), .ref (ad 3), .ref (ad 4), .ref (ad 5), .ref (ad 6), .ref (ad 7), .ref (ad 11), .int (nI (T 7 (T 8 c8 % 32) % 4))]) (rest := [.int (m_upr M c8 q9)]) ⟨hx, hb, hml, hown, hts⟩ (ch_give l D ad cI (mu (t_moo (mu (mu T 6 (T 11 3) (T 8 c8 / 128 % 4 + 4 * (t_bo T (T 8 c8 % 32)) + 64 * q9)) 11 3 (T 11 3 + 1)) (T 8 c8 % 32) c8 (T 11 5)) 7 (T 8 c8 % 32) (T 7 (T 8 c8 % 32) + 65536)) hTu hdB (T 7 (T 8 c8 % 32) % 4) (by omega) (by exact Lup.w100 Mup (by rw [x3]; exact lot9.2.2.2.1)) (by exact Lup.tp) (by rw [mu_nf _ (by decide), t_moo_nf _ _ _ (by decide)]; simp [mu]; omega)) (va_cwS 8 hts gL_halls_L_give rfl rfl rfl kd_L_give ⟨Nat.le_of_ble_eq_true rfl, Nat.le_of_ble_eq_true rfl⟩) ⟨aB_blind, a_pre hKa hPa _⟩ rfl rfl hl.1 rfl (lv_room (Nat.le_of_ble_eq_true rfl)) dL_halls_1122 ⟨by show 18 + 0 ≤ 40; omega, by show 642 + 0 ≤ 1000; omega⟩) hS (fun _ _ h9 => Or.inr h9) (fun _ h9 => Or.inr h9) (fun r_286 u9 U8 H_288 locs_289 ht hvm hr_287 hB hz1 hk1 hS1 => ?_)
                          replace hB : va_P D vwCl (aws ad cI (t_gv (mu (t_moo (mu (mu T 6 (T 11 3) (T 8 c8 / 128 % 4 + 4 * (t_bo T (T 8 c8 % 32)) + 64 * q9)) 11 3 (T 11 3 + 1)) (T 8 c8 % 32) c8 (T 11 5)) 7 (T 8 c8 % 32) (T 7 (T 8 c8 % 32) + 65536)) (T 7 (T 8 c8 % 32) % 4))) U8.heap := hB
                          rw [ht] at hB
                          replace hPw := cP_keepB hPw hc_279.dis hAB hk1
                          clear hPa hS
                          have hPa := hB
                          have hS := hS1
                          clear hB hS1 hz1 hk1 hvm ht U8
                          subst hr_287
                          refine W.widen (k := 18) (n := 642) (by omega) (by omega) ?_
                          refine lv_icmp_ne (tgt := 1132) hx hb dL_halls_1125 (by decide)  (fun c_290 => absurd (eU.2.trans hgv.2.symm) c_290) (fun c_290 => ?_)
                          refine lv_iconst (v := nI 1) hx hb dL_halls_1128 (by decide) ?_
                          refine lv_goto (tgt := 1133) hx hb dL_halls_1129 (by decide) ?_
                          have hLR : LR (g_rule M (nI c8) true (nI q9)) (t_gv (mu (t_moo (mu (mu T 6 (T 11 3) (T 8 c8 / 128 % 4 + 4 * (t_bo T (T 8 c8 % 32)) + 64 * q9)) 11 3 (T 11 3 + 1)) (T 8 c8 % 32) c8 (T 11 5)) 7 (T 8 c8 % 32) (T 7 (T 8 c8 % 32) + 65536)) (T 7 (T 8 c8 % 32) % 4)) := by rw [(rul_gt hk0 (by omega) (by omega)).1, eU.1]; exact hgv.1
                          have hLT : LT (t_gv (mu (t_moo (mu (mu T 6 (T 11 3) (T 8 c8 / 128 % 4 + 4 * (t_bo T (T 8 c8 % 32)) + 64 * q9)) 11 3 (T 11 3 + 1)) (T 8 c8 % 32) c8 (T 11 5)) 7 (T 8 c8 % 32) (T 7 (T 8 c8 % 32) + 65536)) (T 7 (T 8 c8 % 32) % 4)) := by exact LT_gv hTu (by omega) (by rw [mu_nf _ (by decide), t_moo_nf _ _ _ (by decide)]; simp [mu]; omega)
                          refine W.widen (k := 40) (n := 1000) (by omega) (by omega) ?_
                          exact W.zret (v := nI 1) hx hb hr rfl (fun U9 ht9 hW9 => ⟨⟨_, (ws_277, g_rule M (nI c8) true (nI q9), t_gv (mu (t_moo (mu (mu T 6 (T 11 3) (T 8 c8 / 128 % 4 + 4 * (t_bo T (T 8 c8 % 32)) + 64 * q9)) 11 3 (T 11 3 + 1)) (T 8 c8 % 32) c8 (T 11 5)) 7 (T 8 c8 % 32) (T 7 (T 8 c8 % 32) + 65536)) (T 7 (T 8 c8 % 32) % 4)), rfl, ⟨rfl, hc_279, hM_283, hLB_284, Nat.le_trans h15_285 (Nat.succ_le_succ h15), hLR, hLT⟩, by show va_P D vwCl _ U9.heap ∧ va_P D vwCl _ U9.heap; rw [ht9]; exact ⟨hPw, hPa⟩⟩, hS.F ht9⟩) hS.2.2 dL_halls_1133
                        · refine lv_aload hx hb dL_halls_1027 (lv_at hl 11 rfl) ?_
                          refine lv_iload hx hb dL_halls_1029 (lv_at hl 20 rfl) ?_
                          refine a_iald (f := 8) (n := 32) hx hb hKa hPa rfl (by omega) (by decide) dL_halls_1031 ?_
                          refine lv_bipush (v := nI 31) hx hb dL_halls_1032 (by decide) ?_
                          refine lv_iand hx hb dL_halls_1034 ?_
                          rw [show (nI ((t_moo (mu (mu T 6 (T 11 3) (T 8 c8 / 128 % 4 + 4 * (t_bo T (T 8 c8 % 32)) + 64 * q9)) 11 3 (T 11 3 + 1)) (T 8 c8 % 32) c8 k) 8 k)) &&& (nI 31) = nI (((t_moo (mu (mu T 6 (T 11 3) (T 8 c8 / 128 % 4 + 4 * (t_bo T (T 8 c8 % 32)) + 64 * q9)) 11 3 (T 11 3 + 1)) (T 8 c8 % 32) c8 k) 8 k) % 32) from n_andK (k := 5) (by have f1 : (t_moo (mu (mu T 6 (T 11 3) (T 8 c8 / 128 % 4 + 4 * (t_bo T (T 8 c8 % 32)) + 64 * q9)) 11 3 (T 11 3 + 1)) (T 8 c8 % 32) c8 k) 8 k ≤ 16777215 := hTk.1 8 k; omega) (by decide) (by decide) rfl]
                          refine lv_iload hx hb dL_halls_1035 (lv_at hl 16 rfl) ?_
                          refine n_icmp_ne (tgt := 1076) hx hb dL_halls_1037 (by decide) (by have f1 : (t_moo (mu (mu T 6 (T 11 3) (T 8 c8 / 128 % 4 + 4 * (t_bo T (T 8 c8 % 32)) + 64 * q9)) 11 3 (T 11 3 + 1)) (T 8 c8 % 32) c8 k) 8 k ≤ 16777215 := hTk.1 8 k; omega) (by omega) (fun c_291 => ?_) (fun c_291 => ?_)
                          · refine n_iinc (k := 20) (lv' := [(20, .int (nI (k + 1))), (0, .ref h), (1, .int (nI act)), (2, .int y), (3, .int z), (4, .ref (ad 1)), (5, .ref (ad 2)), (6, .ref (ad 3)), (7, .ref (ad 4)), (8, .ref (ad 5)), (9, .ref (ad 6)), (10, .ref (ad 7)), (11, .ref (ad 8)), (12, .ref (ad 9)), (13, .ref (ad 11)), (14, .int (nI a9)), (15, .int (nI c8)), (16, .int (nI (T 8 c8 % 32))), (17, .int (bi up)), (18, .int (nI q9)), (19, .int (nI (T 8 c8 / 128 % 4)))]) hx hb dL_halls_1076 hl rfl (by decide) rfl (fun ls hl => ?_)
                            refine lv_goto (tgt := 1018) hx hb dL_halls_1079 (by decide) ?_
                            have eT_292 : t_moo (mu (mu T 6 (T 11 3) (T 8 c8 / 128 % 4 + 4 * (t_bo T (T 8 c8 % 32)) + 64 * q9)) 11 3 (T 11 3 + 1)) (T 8 c8 % 32) c8 (k + 1) = t_moo (mu (mu T 6 (T 11 3) (T 8 c8 / 128 % 4 + 4 * (t_bo T (T 8 c8 % 32)) + 64 * q9)) 11 3 (T 11 3 + 1)) (T 8 c8 % 32) c8 k := by first | (rw [t_moo, if_pos ⟨by assumption, by assumption⟩, if_pos (by assumption)]; done) | (rw [t_moo, if_pos ⟨by assumption, by assumption⟩, if_neg (by assumption)]; done) | (rw [t_moo, if_neg (fun z9 => absurd z9.1 (by assumption))]; done) | (rw [t_moo, if_neg (fun z9 => absurd z9.2 (by assumption))]; done)
                            refine ih_272 (by omega) _ _ ls (by rw [eT_292]; exact hPa) hPw hS ?_
                            show lv_has ls 21 [(0, .ref h), (1, .int (nI act)), (2, .int y), (3, .int z), (4, .ref (ad 1)), (5, .ref (ad 2)), (6, .ref (ad 3)), (7, .ref (ad 4)), (8, .ref (ad 5)), (9, .ref (ad 6)), (10, .ref (ad 7)), (11, .ref (ad 8)), (12, .ref (ad 9)), (13, .ref (ad 11)), (14, .int (nI a9)), (15, .int (nI c8)), (16, .int (nI (T 8 c8 % 32))), (17, .int (bi up)), (18, .int (nI q9)), (19, .int (nI (T 8 c8 / 128 % 4))), (20, .int (nI (k + 1)))]
                            exact lv_sub hl [1, 2, 3, 4, 5, 6, 7, 8, 9, 10, 11, 12, 13, 14, 15, 16, 17, 18, 19, 20, 0] rfl
                          · refine lv_aload hx hb dL_halls_1040 (lv_at hl 11 rfl) ?_
                            refine lv_iload hx hb dL_halls_1042 (lv_at hl 20 rfl) ?_
                            refine a_iald (f := 8) (n := 32) hx hb hKa hPa rfl (by omega) (by decide) dL_halls_1044 ?_
                            refine lv_bipush (v := nI 9) hx hb dL_halls_1045 (by decide) ?_
                            refine lv_ishr hx hb dL_halls_1047 ?_
                            rw [show (nI ((t_moo (mu (mu T 6 (T 11 3) (T 8 c8 / 128 % 4 + 4 * (t_bo T (T 8 c8 % 32)) + 64 * q9)) 11 3 (T 11 3 + 1)) (T 8 c8 % 32) c8 k) 8 k)) >>> ((nI 9) &&& 31) = nI (((t_moo (mu (mu T 6 (T 11 3) (T 8 c8 / 128 % 4 + 4 * (t_bo T (T 8 c8 % 32)) + 64 * q9)) 11 3 (T 11 3 + 1)) (T 8 c8 % 32) c8 k) 8 k) / 512) from n_shrK (by have f1 : (t_moo (mu (mu T 6 (T 11 3) (T 8 c8 / 128 % 4 + 4 * (t_bo T (T 8 c8 % 32)) + 64 * q9)) 11 3 (T 11 3 + 1)) (T 8 c8 % 32) c8 k) 8 k ≤ 16777215 := hTk.1 8 k; omega) (by decide) rfl]
                            refine lv_iconst (v := nI 3) hx hb dL_halls_1048 (by decide) ?_
                            refine lv_iand hx hb dL_halls_1049 ?_
                            rw [show (nI (((t_moo (mu (mu T 6 (T 11 3) (T 8 c8 / 128 % 4 + 4 * (t_bo T (T 8 c8 % 32)) + 64 * q9)) 11 3 (T 11 3 + 1)) (T 8 c8 % 32) c8 k) 8 k) / 512)) &&& (nI 3) = nI ((((t_moo (mu (mu T 6 (T 11 3) (T 8 c8 / 128 % 4 + 4 * (t_bo T (T 8 c8 % 32)) + 64 * q9)) 11 3 (T 11 3 + 1)) (T 8 c8 % 32) c8 k) 8 k) / 512) % 4) from n_andK (k := 2) (by have f1 : (t_moo (mu (mu T 6 (T 11 3) (T 8 c8 / 128 % 4 + 4 * (t_bo T (T 8 c8 % 32)) + 64 * q9)) 11 3 (T 11 3 + 1)) (T 8 c8 % 32) c8 k) 8 k ≤ 16777215 := hTk.1 8 k; omega) (by decide) (by decide) rfl]
                            refine n_if_ne (tgt := 1076) hx hb dL_halls_1050 (by decide) (by have f1 : (t_moo (mu (mu T 6 (T 11 3) (T 8 c8 / 128 % 4 + 4 * (t_bo T (T 8 c8 % 32)) + 64 * q9)) 11 3 (T 11 3 + 1)) (T 8 c8 % 32) c8 k) 8 k ≤ 16777215 := hTk.1 8 k; omega) (fun c_293 => ?_) (fun c_293 => ?_)
                            · refine n_iinc (k := 20) (lv' := [(20, .int (nI (k + 1))), (0, .ref h), (1, .int (nI act)), (2, .int y), (3, .int z), (4, .ref (ad 1)), (5, .ref (ad 2)), (6, .ref (ad 3)), (7, .ref (ad 4)), (8, .ref (ad 5)), (9, .ref (ad 6)), (10, .ref (ad 7)), (11, .ref (ad 8)), (12, .ref (ad 9)), (13, .ref (ad 11)), (14, .int (nI a9)), (15, .int (nI c8)), (16, .int (nI (T 8 c8 % 32))), (17, .int (bi up)), (18, .int (nI q9)), (19, .int (nI (T 8 c8 / 128 % 4)))]) hx hb dL_halls_1076 hl rfl (by decide) rfl (fun ls hl => ?_)
                              refine lv_goto (tgt := 1018) hx hb dL_halls_1079 (by decide) ?_
                              have eT_294 : t_moo (mu (mu T 6 (T 11 3) (T 8 c8 / 128 % 4 + 4 * (t_bo T (T 8 c8 % 32)) + 64 * q9)) 11 3 (T 11 3 + 1)) (T 8 c8 % 32) c8 (k + 1) = t_moo (mu (mu T 6 (T 11 3) (T 8 c8 / 128 % 4 + 4 * (t_bo T (T 8 c8 % 32)) + 64 * q9)) 11 3 (T 11 3 + 1)) (T 8 c8 % 32) c8 k := by first | (rw [t_moo, if_pos ⟨by assumption, by assumption⟩, if_pos (by assumption)]; done) | (rw [t_moo, if_pos ⟨by assumption, by assumption⟩, if_neg (by assumption)]; done) | (rw [t_moo, if_neg (fun z9 => absurd z9.1 (by assumption))]; done) | (rw [t_moo, if_neg (fun z9 => absurd z9.2 (by assumption))]; done)
                              refine ih_272 (by omega) _ _ ls (by rw [eT_294]; exact hPa) hPw hS ?_
                              show lv_has ls 21 [(0, .ref h), (1, .int (nI act)), (2, .int y), (3, .int z), (4, .ref (ad 1)), (5, .ref (ad 2)), (6, .ref (ad 3)), (7, .ref (ad 4)), (8, .ref (ad 5)), (9, .ref (ad 6)), (10, .ref (ad 7)), (11, .ref (ad 8)), (12, .ref (ad 9)), (13, .ref (ad 11)), (14, .int (nI a9)), (15, .int (nI c8)), (16, .int (nI (T 8 c8 % 32))), (17, .int (bi up)), (18, .int (nI q9)), (19, .int (nI (T 8 c8 / 128 % 4))), (20, .int (nI (k + 1)))]
                              exact lv_sub hl [1, 2, 3, 4, 5, 6, 7, 8, 9, 10, 11, 12, 13, 14, 15, 16, 17, 18, 19, 20, 0] rfl
                            · refine lv_aload hx hb dL_halls_1053 (lv_at hl 11 rfl) ?_
                              refine lv_iload hx hb dL_halls_1055 (lv_at hl 20 rfl) ?_
                              refine lv_dup2_11 hx hb dL_halls_1057 rfl rfl ?_
                              refine a_iald (f := 8) (n := 32) hx hb hKa hPa rfl (by omega) (by decide) dL_halls_1058 ?_
                              refine lv_iload hx hb dL_halls_1059 (lv_at hl 20 rfl) ?_
                              refine lv_iload hx hb dL_halls_1061 (lv_at hl 15 rfl) ?_
                              refine n_icmp_ne (tgt := 1070) hx hb dL_halls_1063 (by decide) (by omega) (by have f1 := hc8.1; omega) (fun c_295 => ?_) (fun c_295 => ?_)
                              · refine lv_iconst (v := nI 3) hx hb dL_halls_1070 (by decide) ?_
                                refine lv_bipush (v := nI 9) hx hb dL_halls_1071 (by decide) ?_
                                refine lv_ishl hx hb dL_halls_1073 ?_
                                rw [show (nI 3) <<< ((nI 9) &&& 31) = nI 1536 from n_shlK (by decide) rfl (by decide)]
                                refine lv_ior hx hb dL_halls_1074 ?_
                                rw [show (nI ((t_moo (mu (mu T 6 (T 11 3) (T 8 c8 / 128 % 4 + 4 * (t_bo T (T 8 c8 % 32)) + 64 * q9)) 11 3 (T 11 3 + 1)) (T 8 c8 % 32) c8 k) 8 k)) ||| (nI 1536) = nI (((t_moo (mu (mu T 6 (T 11 3) (T 8 c8 / 128 % 4 + 4 * (t_bo T (T 8 c8 % 32)) + 64 * q9)) 11 3 (T 11 3 + 1)) (T 8 c8 % 32) c8 k) 8 k) + 1536) from (by rw [n_or]; exact congrArg nI (or_st (v := 3) (by assumption) (by decide)))]
                                refine b_iast (f := 8) (n := 32) (v := ((t_moo (mu (mu T 6 (T 11 3) (T 8 c8 / 128 % 4 + 4 * (t_bo T (T 8 c8 % 32)) + 64 * q9)) 11 3 (T 11 3 + 1)) (T 8 c8 % 32) c8 k) 8 k) + 1536) hx hb hKa hPa hPw hdB hc_200.dis hAB hS (by decide) rfl (by omega) (by decide) (aset_8 _ _ _ _ _) dL_halls_1075 (fun H1 locs1 hPa1 hPw1 hS1 => ?_)
                                clear hPa hPw hS
                                have hPa := hPa1; have hPw := hPw1; have hS := hS1; clear hPa1 hPw1 hS1
                                refine n_iinc (k := 20) (lv' := [(20, .int (nI (k + 1))), (0, .ref h), (1, .int (nI act)), (2, .int y), (3, .int z), (4, .ref (ad 1)), (5, .ref (ad 2)), (6, .ref (ad 3)), (7, .ref (ad 4)), (8, .ref (ad 5)), (9, .ref (ad 6)), (10, .ref (ad 7)), (11, .ref (ad 8)), (12, .ref (ad 9)), (13, .ref (ad 11)), (14, .int (nI a9)), (15, .int (nI c8)), (16, .int (nI (T 8 c8 % 32))), (17, .int (bi up)), (18, .int (nI q9)), (19, .int (nI (T 8 c8 / 128 % 4)))]) hx hb dL_halls_1076 hl rfl (by decide) rfl (fun ls hl => ?_)
                                refine lv_goto (tgt := 1018) hx hb dL_halls_1079 (by decide) ?_
                                have eT_296 : t_moo (mu (mu T 6 (T 11 3) (T 8 c8 / 128 % 4 + 4 * (t_bo T (T 8 c8 % 32)) + 64 * q9)) 11 3 (T 11 3 + 1)) (T 8 c8 % 32) c8 (k + 1) = mu (t_moo (mu (mu T 6 (T 11 3) (T 8 c8 / 128 % 4 + 4 * (t_bo T (T 8 c8 % 32)) + 64 * q9)) 11 3 (T 11 3 + 1)) (T 8 c8 % 32) c8 k) 8 k (((t_moo (mu (mu T 6 (T 11 3) (T 8 c8 / 128 % 4 + 4 * (t_bo T (T 8 c8 % 32)) + 64 * q9)) 11 3 (T 11 3 + 1)) (T 8 c8 % 32) c8 k) 8 k) + 1536) := by first | (rw [t_moo, if_pos ⟨by assumption, by assumption⟩, if_pos (by assumption)]; done) | (rw [t_moo, if_pos ⟨by assumption, by assumption⟩, if_neg (by assumption)]; done) | (rw [t_moo, if_neg (fun z9 => absurd z9.1 (by assumption))]; done) | (rw [t_moo, if_neg (fun z9 => absurd z9.2 (by assumption))]; done)
                                refine ih_272 (by omega) _ _ ls (by rw [eT_296]; exact hPa) hPw hS ?_
                                show lv_has ls 21 [(0, .ref h), (1, .int (nI act)), (2, .int y), (3, .int z), (4, .ref (ad 1)), (5, .ref (ad 2)), (6, .ref (ad 3)), (7, .ref (ad 4)), (8, .ref (ad 5)), (9, .ref (ad 6)), (10, .ref (ad 7)), (11, .ref (ad 8)), (12, .ref (ad 9)), (13, .ref (ad 11)), (14, .int (nI a9)), (15, .int (nI c8)), (16, .int (nI (T 8 c8 % 32))), (17, .int (bi up)), (18, .int (nI q9)), (19, .int (nI (T 8 c8 / 128 % 4))), (20, .int (nI (k + 1)))]
                                exact lv_sub hl [1, 2, 3, 4, 5, 6, 7, 8, 9, 10, 11, 12, 13, 14, 15, 16, 17, 18, 19, 20, 0] rfl
                              · refine lv_iconst (v := nI 1) hx hb dL_halls_1066 (by decide) ?_
                                refine lv_goto (tgt := 1071) hx hb dL_halls_1067 (by decide) ?_
                                refine lv_bipush (v := nI 9) hx hb dL_halls_1071 (by decide) ?_
                                refine lv_ishl hx hb dL_halls_1073 ?_
                                rw [show (nI 1) <<< ((nI 9) &&& 31) = nI 512 from n_shlK (by decide) rfl (by decide)]
                                refine lv_ior hx hb dL_halls_1074 ?_
                                rw [show (nI ((t_moo (mu (mu T 6 (T 11 3) (T 8 c8 / 128 % 4 + 4 * (t_bo T (T 8 c8 % 32)) + 64 * q9)) 11 3 (T 11 3 + 1)) (T 8 c8 % 32) c8 k) 8 k)) ||| (nI 512) = nI (((t_moo (mu (mu T 6 (T 11 3) (T 8 c8 / 128 % 4 + 4 * (t_bo T (T 8 c8 % 32)) + 64 * q9)) 11 3 (T 11 3 + 1)) (T 8 c8 % 32) c8 k) 8 k) + 512) from (by rw [n_or]; exact congrArg nI (or_st (v := 1) (by assumption) (by decide)))]
                                refine b_iast (f := 8) (n := 32) (v := ((t_moo (mu (mu T 6 (T 11 3) (T 8 c8 / 128 % 4 + 4 * (t_bo T (T 8 c8 % 32)) + 64 * q9)) 11 3 (T 11 3 + 1)) (T 8 c8 % 32) c8 k) 8 k) + 512) hx hb hKa hPa hPw hdB hc_200.dis hAB hS (by decide) rfl (by omega) (by decide) (aset_8 _ _ _ _ _) dL_halls_1075 (fun H1 locs1 hPa1 hPw1 hS1 => ?_)
                                clear hPa hPw hS
                                have hPa := hPa1; have hPw := hPw1; have hS := hS1; clear hPa1 hPw1 hS1
                                refine n_iinc (k := 20) (lv' := [(20, .int (nI (k + 1))), (0, .ref h), (1, .int (nI act)), (2, .int y), (3, .int z), (4, .ref (ad 1)), (5, .ref (ad 2)), (6, .ref (ad 3)), (7, .ref (ad 4)), (8, .ref (ad 5)), (9, .ref (ad 6)), (10, .ref (ad 7)), (11, .ref (ad 8)), (12, .ref (ad 9)), (13, .ref (ad 11)), (14, .int (nI a9)), (15, .int (nI c8)), (16, .int (nI (T 8 c8 % 32))), (17, .int (bi up)), (18, .int (nI q9)), (19, .int (nI (T 8 c8 / 128 % 4)))]) hx hb dL_halls_1076 hl rfl (by decide) rfl (fun ls hl => ?_)
                                refine lv_goto (tgt := 1018) hx hb dL_halls_1079 (by decide) ?_
                                have eT_297 : t_moo (mu (mu T 6 (T 11 3) (T 8 c8 / 128 % 4 + 4 * (t_bo T (T 8 c8 % 32)) + 64 * q9)) 11 3 (T 11 3 + 1)) (T 8 c8 % 32) c8 (k + 1) = mu (t_moo (mu (mu T 6 (T 11 3) (T 8 c8 / 128 % 4 + 4 * (t_bo T (T 8 c8 % 32)) + 64 * q9)) 11 3 (T 11 3 + 1)) (T 8 c8 % 32) c8 k) 8 k (((t_moo (mu (mu T 6 (T 11 3) (T 8 c8 / 128 % 4 + 4 * (t_bo T (T 8 c8 % 32)) + 64 * q9)) 11 3 (T 11 3 + 1)) (T 8 c8 % 32) c8 k) 8 k) + 512) := by first | (rw [t_moo, if_pos ⟨by assumption, by assumption⟩, if_pos (by assumption)]; done) | (rw [t_moo, if_pos ⟨by assumption, by assumption⟩, if_neg (by assumption)]; done) | (rw [t_moo, if_neg (fun z9 => absurd z9.1 (by assumption))]; done) | (rw [t_moo, if_neg (fun z9 => absurd z9.2 (by assumption))]; done)
                                refine ih_272 (by omega) _ _ ls (by rw [eT_297]; exact hPa) hPw hS ?_
                                show lv_has ls 21 [(0, .ref h), (1, .int (nI act)), (2, .int y), (3, .int z), (4, .ref (ad 1)), (5, .ref (ad 2)), (6, .ref (ad 3)), (7, .ref (ad 4)), (8, .ref (ad 5)), (9, .ref (ad 6)), (10, .ref (ad 7)), (11, .ref (ad 8)), (12, .ref (ad 9)), (13, .ref (ad 11)), (14, .int (nI a9)), (15, .int (nI c8)), (16, .int (nI (T 8 c8 % 32))), (17, .int (bi up)), (18, .int (nI q9)), (19, .int (nI (T 8 c8 / 128 % 4))), (20, .int (nI (k + 1)))]
                                exact lv_sub hl [1, 2, 3, 4, 5, 6, 7, 8, 9, 10, 11, 12, 13, 14, 15, 16, 17, 18, 19, 20, 0] rfl
                  · have ko : M 26 c8 = 0 := by omega
                    have hk0 : k_rule M (nI c8) false (nI q9) = 0 := by rw [rul_e (by omega) (by omega) (by omega), if_pos ⟨ko, Or.inl rfl⟩]
                    refine lv_aload hx hb dL_halls_887 (lv_at hl 16 rfl) ?_
                    refine lv_iload hx hb dL_halls_889 (lv_at hl 3 rfl) ?_
                    refine lv_aload hx hb dL_halls_891 (lv_at hl 16 rfl) ?_
                    refine lv_iload hx hb dL_halls_893 (lv_at hl 3 rfl) ?_
                    refine a_iald (f := 8) (n := 32) hx hb hKa hPa rfl (by have f1 := hc8.1; omega) (by decide) dL_halls_895 ?_
                    refine lv_sipush (v := nI 4095) hx hb dL_halls_896 (by decide) ?_
                    refine lv_iand hx hb dL_halls_899 ?_
                    rw [show (nI (T 8 c8)) &&& (nI 4095) = nI ((T 8 c8) % 4096) from n_andK (k := 12) (by have f1 := hc8.1; have f2 : T 8 c8 ≤ 16777215 := hT.1 8 c8; omega) (by decide) (by decide) rfl]
                    refine lv_sipush (v := nI 1024) hx hb dL_halls_900 (by decide) ?_
                    refine lv_ior hx hb dL_halls_903 ?_
                    rw [show (nI ((T 8 c8) % 4096)) ||| (nI 1024) = nI (T 8 c8 % 4096 + 1024) from (by rw [n_or]; exact congrArg nI (or_dis (by assumption)))]
                    refine lv_aload hx hb dL_halls_904 (lv_at hl 18 rfl) ?_
                    refine lv_iconst (v := nI 0) hx hb dL_halls_906 (by decide) ?_
                    refine a_iald (f := 11) (n := 7) hx hb hKa hPa rfl (by decide) (by decide) dL_halls_907 ?_
                    refine lv_bipush (v := nI 12) hx hb dL_halls_908 (by decide) ?_
                    refine lv_ishl hx hb dL_halls_910 ?_
                    rw [show (nI (T 11 0)) <<< ((nI 12) &&& 31) = nI ((T 11 0) * 4096) from n_shlK (by decide) rfl (by have f1 : T 11 0 ≤ 2000 := hT.1 11 0; omega)]
                    refine lv_ior hx hb dL_halls_911 ?_
                    rw [show (nI (T 8 c8 % 4096 + 1024)) ||| (nI ((T 11 0) * 4096)) = nI (T 8 c8 % 4096 + 1024 + 4096 * T 11 0) from (by rw [n_or]; exact congrArg nI (or_hi (k := 12) (by decide) (by omega)))]
                    refine b_iast (f := 8) (n := 32) (v := T 8 c8 % 4096 + 1024 + 4096 * T 11 0) hx hb hKa hPa hPw hdB hc_200.dis hAB hS (by decide) rfl (by have f1 := hc8.1; omega) (by decide) (aset_8 _ _ _ _ _) dL_halls_912 (fun H1 locs1 hPa1 hPw1 hS1 => ?_)
                    clear hPa hPw hS
                    have hPa := hPa1; have hPw := hPw1; have hS := hS1; clear hPa1 hPw1 hS1
                    refine lv_aload_n hx hb dL_halls_913 rfl (lv_at hl 5 rfl) ?_
                    refine lv_iload hx hb dL_halls_914 (lv_at hl 3 rfl) ?_
                    refine lv_iconst (v := nI 0) hx hb dL_halls_916 (by decide) ?_
                    refine lv_iload hx hb dL_halls_917 (lv_at hl 0 rfl) ?_
                    refine va_calli (vx_runSW (As := [.ref h, .int (nI c8), .int (bi false), .int (nI q9)]) (rest := []) ⟨hx, hb, hml, hown, hts⟩ (cw_rule l hst D cI cO cb eA mi st dO dT vF ws_198 hc_200 hM hsI (nI c8) false (nI q9)) (vx_cwSW 4 hts gL_halls_L_rule rfl rfl rfl kd_L_rule ⟨Nat.le_of_ble_eq_true rfl, Nat.le_of_ble_eq_true rfl⟩) ⟨kB_blind, kB_pre hK hG hGT hN (fun q h9 => Or.inl h9) hS (fun q h9 => hA q (Nat.le_trans hS.1 h9)) hPw _⟩ rfl rfl hl.1 rfl (lv_room (Nat.le_of_ble_eq_true rfl)) dL_halls_919 ⟨by show 12 + 6 ≤ 40; omega, by show 428 + 214 ≤ 1000; omega⟩) hS (fun _ _ h9 => Or.inl h9) (fun _ h9 => Or.inl h9) (fun r_298 ws_299 U8 H_303 locs_304 ht hvm hu_302 hB hz1 hk1 hS1 => ?_)
                    obtain ⟨hr_300, hc_301⟩ := hu_302
                    replace hB : va_P D vwCl ws_299 U8.heap := hB
                    rw [ht] at hB
                    replace hPa := aP_keep hPa hdB hAB hk1
                    clear hPw hS
                    have hPw := hB
                    have hS := hS1
                    clear hB hS1 hz1 hk1 hvm ht U8
                    have hv9 : er (k_rule M (nI c8) false (nI q9)) (r_rule M (nI c8) false (nI q9)) = (-1) := by exact rul_rf hk0
                    rw [hv9] at hr_300
                    clear hv9
                    subst hr_300
                    have hM_305 : MI (g_rule M (nI c8) false (nI q9)) := MI_rule hM (nI c8) false (nI q9)
                    have hLB_306 : m_LB (g_rule M (nI c8) false (nI q9)) := (LB_rule (nI c8) false (nI q9)).1 hLB
                    have h15_307 : (g_rule M (nI c8) false (nI q9)) 15 0 ≤ M 15 0 + 1 := (LB_rule (nI c8) false (nI q9)).2
                    refine lv_iconst (v := (-1)) hx hb dL_halls_922 (by decide) ?_
                    refine lv_icmp_ne (tgt := 930) hx hb dL_halls_923 (by decide)  (fun c9 => absurd c9 (by decide)) (fun _ => ?_)
                    refine lv_iconst (v := nI 1) hx hb dL_halls_926 (by decide) ?_
                    refine lv_goto (tgt := 931) hx hb dL_halls_927 (by decide) ?_
                    have hLR : LR (g_rule M (nI c8) false (nI q9)) (mu T 8 c8 (T 8 c8 % 4096 + 1024 + 4096 * T 11 0)) := by rw [rul_gf hk0 (by omega)]; exact hR.dismissS hM h16 (by omega) ko
                    have hLT : LT (mu T 8 c8 (T 8 c8 % 4096 + 1024 + 4096 * T 11 0)) := by obtain ⟨u0, u1, u2, u3, u4, u5⟩ := hT; exact ⟨(LTb_mu u0 (by show _ ≤ 16777215; omega)), by simp [mu]; omega, by simp [mu]; omega, by simp [mu]; omega, by simp [mu]; omega, by simp [mu]; omega⟩
                    refine W.widen (k := 40) (n := 1000) (by omega) (by omega) ?_
                    exact W.zret (v := nI 1) hx hb hr rfl (fun U9 ht9 hW9 => ⟨⟨_, (ws_299, g_rule M (nI c8) false (nI q9), mu T 8 c8 (T 8 c8 % 4096 + 1024 + 4096 * T 11 0)), rfl, ⟨rfl, hc_301, hM_305, hLB_306, Nat.le_trans h15_307 (Nat.succ_le_succ h15), hLR, hLT⟩, by show va_P D vwCl _ U9.heap ∧ va_P D vwCl _ U9.heap; rw [ht9]; exact ⟨hPw, hPa⟩⟩, hS.F ht9⟩) hS.2.2 dL_halls_931
                · refine lv_aload_n hx hb dL_halls_860 rfl (lv_at hl 5 rfl) ?_
                  refine lv_iload hx hb dL_halls_861 (lv_at hl 3 rfl) ?_
                  refine lv_iload hx hb dL_halls_863 (lv_at hl 1 rfl) ?_
                  refine lv_iload hx hb dL_halls_865 (lv_at hl 0 rfl) ?_
                  refine va_calli (vx_runSW (As := [.ref h, .int (nI c8), .int (bi up), .int (nI q9)]) (rest := []) ⟨hx, hb, hml, hown, hts⟩ (cw_rule l hst D cI cO cb eA mi st dO dT vF ws_198 hc_200 hM hsI (nI c8) up (nI q9)) (vx_cwSW 4 hts gL_halls_L_rule rfl rfl rfl kd_L_rule ⟨Nat.le_of_ble_eq_true rfl, Nat.le_of_ble_eq_true rfl⟩) ⟨kB_blind, kB_pre hK hG hGT hN (fun q h9 => Or.inl h9) hS (fun q h9 => hA q (Nat.le_trans hS.1 h9)) hPw _⟩ rfl rfl hl.1 rfl (lv_room (Nat.le_of_ble_eq_true rfl)) dL_halls_867 ⟨by show 12 + 6 ≤ 40; omega, by show 428 + 214 ≤ 1000; omega⟩) hS (fun _ _ h9 => Or.inl h9) (fun _ h9 => Or.inl h9) (fun r_308 ws_309 U8 H_313 locs_314 ht hvm hu_312 hB hz1 hk1 hS1 => ?_)
                  obtain ⟨hr_310, hc_311⟩ := hu_312
                  replace hB : va_P D vwCl ws_309 U8.heap := hB
                  rw [ht] at hB
                  replace hPa := aP_keep hPa hdB hAB hk1
                  clear hPw hS
                  have hPw := hB
                  have hS := hS1
                  clear hB hS1 hz1 hk1 hvm ht U8
                  have hk_315 : k_rule M (nI c8) up (nI q9) = 3 := by rw [rul_e (by omega) (by omega) (by omega), if_neg (fun z9 => absurd z9.1 (by omega))]
                  rw [keep_rule (by rw [hk_315]; decide)] at hc_311
                  rw [hk_315] at hr_310
                  replace hr_310 : r_308 = (-7300) := hr_310
                  subst hr_310
                  refine lv_sipush (v := (-7300)) hx hb dL_halls_870 (by decide) ?_
                  refine lv_icmp_ne (tgt := 880) hx hb dL_halls_873 (by decide)  (fun c9 => absurd c9 (by decide)) (fun _ => ?_)
                  refine lv_iconst (v := nI 1) hx hb dL_halls_876 (by decide) ?_
                  refine lv_goto (tgt := 881) hx hb dL_halls_877 (by decide) ?_
                  have hLR : LR (M) (T) := by exact hR
                  have hLT : LT (T) := by exact hT
                  refine W.widen (k := 40) (n := 1000) (by omega) (by omega) ?_
                  exact W.zret (v := nI 1) hx hb hr rfl (fun U9 ht9 hW9 => ⟨⟨_, (ws_309, M, T), rfl, ⟨rfl, hc_311, hM, hLB, Nat.le_succ_of_le h15, hLR, hLT⟩, by show va_P D vwCl _ U9.heap ∧ va_P D vwCl _ U9.heap; rw [ht9]; exact ⟨hPw, hPa⟩⟩, hS.F ht9⟩) hS.2.2 dL_halls_881
              · have hk9 := hk_187
                refine lv_iload_n hx hb dL_halls_789 rfl (lv_at hl 6 rfl) ?_
                refine lv_bipush (v := nI 6) hx hb dL_halls_790 (by decide) ?_
                refine lv_iand hx hb dL_halls_792 ?_
                refine lv_iconst (v := nI 2) hx hb dL_halls_793 (by decide) ?_
                refine lv_icmp_le (tgt := 801) hx hb dL_halls_794 (by decide)  (fun c_316 => ?_) (fun c_316 => ?_)
                · refine lv_iconst (v := nI 0) hx hb dL_halls_801 (by decide) ?_
                  refine lv_istore (lv' := [(17, .int (nI 0)), (16, .int (nI ((T 8 c8) % 32))), (15, .int (nI c8)), (14, .int (nI a9)), (0, .ref h), (1, .int (nI act)), (2, .int y), (3, .int z), (4, .ref (ad 1)), (5, .ref (ad 2)), (6, .ref (ad 3)), (7, .ref (ad 4)), (8, .ref (ad 5)), (9, .ref (ad 6)), (10, .ref (ad 7)), (11, .ref (ad 8)), (12, .ref (ad 9)), (13, .ref (ad 11))]) hx hb dL_halls_802 hl (by decide) rfl (fun ls hl => ?_)
                  have ej : nI 0 = bi false := rfl
                  rw [ej] at hl
                  exact hk_187 false (by rfl) ls (lv_sub hl [0, 1, 2, 3, 4, 5, 6, 7, 8, 9, 10, 11, 12, 13, 14, 15, 16, 17] rfl)
                · refine lv_iconst (v := nI 1) hx hb dL_halls_797 (by decide) ?_
                  refine lv_goto (tgt := 802) hx hb dL_halls_798 (by decide) ?_
                  refine lv_istore (lv' := [(17, .int (nI 1)), (16, .int (nI ((T 8 c8) % 32))), (15, .int (nI c8)), (14, .int (nI a9)), (0, .ref h), (1, .int (nI act)), (2, .int y), (3, .int z), (4, .ref (ad 1)), (5, .ref (ad 2)), (6, .ref (ad 3)), (7, .ref (ad 4)), (8, .ref (ad 5)), (9, .ref (ad 6)), (10, .ref (ad 7)), (11, .ref (ad 8)), (12, .ref (ad 9)), (13, .ref (ad 11))]) hx hb dL_halls_802 hl (by decide) rfl (fun ls hl => ?_)
                  have ej : nI 1 = bi true := rfl
                  rw [ej] at hl
                  exact hk_187 true (by rfl) ls (lv_sub hl [0, 1, 2, 3, 4, 5, 6, 7, 8, 9, 10, 11, 12, 13, 14, 15, 16, 17] rfl)
          · have hk9 := hk_7
            refine lv_iload_n hx hb dL_halls_715 rfl (lv_at hl 3 rfl) ?_
            refine lv_bipush (v := nI 16) hx hb dL_halls_716 (by decide) ?_
            refine n_icmp_ge (tgt := 773) hx hb dL_halls_718 (by decide) (by have f1 := hact; omega) (by decide) (fun c_317 => ?_) (fun c_317 => ?_)
            · exact hk_7 c9 (by refine ⟨by omega, fun _ => ?_⟩; omega) ls (lv_sub hl [0, 1, 2, 3, 4, 5, 6, 7, 8, 9, 10, 11, 12, 13, 14, 15] rfl)
            · refine lv_iload hx hb dL_halls_721 (lv_at hl 0 rfl) ?_
              refine lv_aload hx hb dL_halls_723 (lv_at hl 15 rfl) ?_
              refine lv_iconst (v := nI 5) hx hb dL_halls_725 (by decide) ?_
              refine a_iald (f := 11) (n := 7) hx hb hKa hPa rfl (by decide) (by decide) dL_halls_726 ?_
              refine n_icmp_ne (tgt := 773) hx hb dL_halls_727 (by decide) (by have f1 := hc9; omega) (by have f1 : T 11 5 ≤ 2000 := hT.1 11 5; have f2 : T 11 5 ≤ 32 := hT.2.2.2.2.1; omega) (fun c_318 => ?_) (fun c_318 => ?_)
              · exact hk_7 c9 (by refine ⟨by omega, fun _ => ?_⟩; omega) ls (lv_sub hl [0, 1, 2, 3, 4, 5, 6, 7, 8, 9, 10, 11, 12, 13, 14, 15] rfl)
              · refine lv_aload_n hx hb dL_halls_730 rfl (lv_at hl 2 rfl) ?_
                refine lv_iload hx hb dL_halls_731 (lv_at hl 0 rfl) ?_
                refine lv_iconst (v := nI 1) hx hb dL_halls_733 (by decide) ?_
                refine lv_iconst (v := (-1)) hx hb dL_halls_734 (by decide) ?_
                refine va_calli (vx_runSW (As := [.ref h, .int (nI c9), .int (bi true), .int (-1)]) (rest := []) ⟨hx, hb, hml, hown, hts⟩ (cw_rule l hst D cI cO cb eA mi st dO dT vF ws hc hM hsI (nI c9) true (-1)) (vx_cwSW 4 hts gL_halls_L_rule rfl rfl rfl kd_L_rule ⟨Nat.le_of_ble_eq_true rfl, Nat.le_of_ble_eq_true rfl⟩) ⟨kB_blind, kB_pre hK hG hGT hN (fun q h9 => Or.inl h9) hS (fun q h9 => hA q (Nat.le_trans hS.1 h9)) hPw _⟩ rfl rfl hl.1 rfl (lv_room (Nat.le_of_ble_eq_true rfl)) dL_halls_735 ⟨by show 0 + 6 ≤ 40; omega, by show 0 + 214 ≤ 1000; omega⟩) hS (fun _ _ h9 => Or.inl h9) (fun _ h9 => Or.inl h9) (fun r_319 ws_320 U8 H_324 locs_325 ht hvm hu_323 hB hz1 hk1 hS1 => ?_)
                obtain ⟨hr_321, hc_322⟩ := hu_323
                replace hB : va_P D vwCl ws_320 U8.heap := hB
                rw [ht] at hB
                replace hPa := aP_keep hPa hdB hAB hk1
                clear hPw hS
                have hPw := hB
                have hS := hS1
                clear hB hS1 hz1 hk1 hvm ht U8
                have hk_326 : k_rule M (nI c9) true (-1) = 1 := by exact rul_1 (by omega) (by omega) (by omega)
                rw [keep_rule (by rw [hk_326]; decide)] at hc_322
                rw [hk_326] at hr_321
                replace hr_321 : r_319 = (-7100) := hr_321
                subst hr_321
                refine lv_sipush (v := (-7100)) hx hb dL_halls_738 (by decide) ?_
                refine lv_icmp_ne (tgt := 771) hx hb dL_halls_741 (by decide)  (fun c9 => absurd c9 (by decide)) (fun _ => ?_)
                refine lv_aload_n hx hb dL_halls_744 rfl (lv_at hl 2 rfl) ?_
                refine lv_iload hx hb dL_halls_745 (lv_at hl 0 rfl) ?_
                refine va_calli (vx_runSW (As := [.ref h, .int (nI c9)]) (rest := []) ⟨hx, hb, hml, hown, hts⟩ (cw_appeal l hst D cI cO cb eA mi st dO dT vF ws_320 hc_322 hM hsI (nI c9)) (vx_cwSW 2 hts gL_halls_L_appeal rfl rfl rfl kd_L_appeal ⟨Nat.le_of_ble_eq_true rfl, Nat.le_of_ble_eq_true rfl⟩) ⟨kB_blind, kB_pre hK hG hGT hN (fun q h9 => Or.inl h9) hS (fun q h9 => hA q (Nat.le_trans hS.1 h9)) hPw _⟩ rfl rfl hl.1 rfl (lv_room (Nat.le_of_ble_eq_true rfl)) dL_halls_747 ⟨by show 6 + 2 ≤ 40; omega, by show 214 + 12 ≤ 1000; omega⟩) hS (fun _ _ h9 => Or.inl h9) (fun _ h9 => Or.inl h9) (fun r_327 ws_328 U8 H_332 locs_333 ht hvm hu_331 hB hz1 hk1 hS1 => ?_)
                obtain ⟨hr_329, hc_330⟩ := hu_331
                replace hB : va_P D vwCl ws_328 U8.heap := hB
                rw [ht] at hB
                replace hPa := aP_keep hPa hdB hAB hk1
                clear hPw hS
                have hPw := hB
                have hS := hS1
                clear hB hS1 hz1 hk1 hvm ht U8
                have hk_334 : k_appeal M (nI c9) = 1 := by exact app_1 (by omega) (by omega) (by omega)
                rw [keep_appeal (by rw [hk_334]; decide)] at hc_330
                rw [hk_334] at hr_329
                replace hr_329 : r_327 = (-7100) := hr_329
                subst hr_329
                refine lv_sipush (v := (-7100)) hx hb dL_halls_750 (by decide) ?_
                refine lv_icmp_ne (tgt := 771) hx hb dL_halls_753 (by decide)  (fun c9 => absurd c9 (by decide)) (fun _ => ?_)
                refine lv_aload_n hx hb dL_halls_756 rfl (lv_at hl 2 rfl) ?_
                refine lv_iconst (v := (-1)) hx hb dL_halls_757 (by decide) ?_
                refine va_calli (vx_runSW (As := [.ref h, .int (-1)]) (rest := []) ⟨hx, hb, hml, hown, hts⟩ (cw_stateOf l hst D cI cO cb eA mi st dO dT vF ws_328 hc_330 hM hsI (-1)) (vx_cwSW 2 hts gL_halls_L_stateOf rfl rfl rfl kd_L_stateOf ⟨Nat.le_of_ble_eq_true rfl, Nat.le_of_ble_eq_true rfl⟩) ⟨kB_blind, kB_pre hK hG hGT hN (fun q h9 => Or.inl h9) hS (fun q h9 => hA q (Nat.le_trans hS.1 h9)) hPw _⟩ rfl rfl hl.1 rfl (lv_room (Nat.le_of_ble_eq_true rfl)) dL_halls_758 ⟨by show 8 + 1 ≤ 40; omega, by show 226 + 6 ≤ 1000; omega⟩) hS (fun _ _ h9 => Or.inl h9) (fun _ h9 => Or.inl h9) (fun r_335 ws_336 U8 H_340 locs_341 ht hvm hu_339 hB hz1 hk1 hS1 => ?_)
                obtain ⟨hr_337, hc_338⟩ := hu_339
                replace hB : va_P D vwCl ws_336 U8.heap := hB
                rw [ht] at hB
                replace hPa := aP_keep hPa hdB hAB hk1
                clear hPw hS
                have hPw := hB
                have hS := hS1
                clear hB hS1 hz1 hk1 hvm ht U8
                have hk_342 : k_co M (-1) = 1 := by exact co_n (by omega) (by decide)
                rw [hk_342] at hr_337
                replace hr_337 : r_335 = (-7100) := hr_337
                subst hr_337
                refine lv_sipush (v := (-7100)) hx hb dL_halls_761 (by decide) ?_
                refine lv_icmp_ne (tgt := 771) hx hb dL_halls_764 (by decide)  (fun c9 => absurd c9 (by decide)) (fun _ => ?_)
                refine lv_iconst (v := nI 1) hx hb dL_halls_767 (by decide) ?_
                refine lv_goto (tgt := 772) hx hb dL_halls_768 (by decide) ?_
                have hLR : LR (M) (T) := by exact hR
                have hLT : LT (T) := by exact hT
                refine W.widen (k := 40) (n := 1000) (by omega) (by omega) ?_
                exact W.zret (v := nI 1) hx hb hr rfl (fun U9 ht9 hW9 => ⟨⟨_, (ws_336, M, T), rfl, ⟨rfl, hc_338, hM, hLB, Nat.le_succ_of_le h15, hLR, hLT⟩, by show va_P D vwCl _ U9.heap ∧ va_P D vwCl _ U9.heap; rw [ht9]; exact ⟨hPw, hPa⟩⟩, hS.F ht9⟩) hS.2.2 dL_halls_772
        · have hk9 := hk_6
          refine lv_iconst (v := nI 0) hx hb dL_halls_645 (by decide) ?_
          refine lv_istore (lv' := [(16, .int (nI 0)), (15, .int (nI cm0)), (14, .int (nI a9)), (0, .ref h), (1, .int (nI act)), (2, .int y), (3, .int z), (4, .ref (ad 1)), (5, .ref (ad 2)), (6, .ref (ad 3)), (7, .ref (ad 4)), (8, .ref (ad 5)), (9, .ref (ad 6)), (10, .ref (ad 7)), (11, .ref (ad 8)), (12, .ref (ad 9)), (13, .ref (ad 11))]) hx hb dL_halls_646 hl (by decide) rfl (fun ls hl => ?_)
          refine w_loopS (n := T 11 5) (nL := 21) (fun k x9 => [(0, .ref h), (1, .int (nI act)), (2, .int y), (3, .int z), (4, .ref (ad 1)), (5, .ref (ad 2)), (6, .ref (ad 3)), (7, .ref (ad 4)), (8, .ref (ad 5)), (9, .ref (ad 6)), (10, .ref (ad 7)), (11, .ref (ad 8)), (12, .ref (ad 9)), (13, .ref (ad 11)), (14, .int (nI a9)), (15, .int (nI x9)), (16, .int (nI k))]) (fun k x9 => x9 ≤ T 11 5) (fun k hb_343 x9 hJ_345 ih_344 ls hl => ?_) 0 (Nat.zero_le _) cm0 (by have f1 := hcm0; omega) ls (lv_sub hl [3, 4, 5, 6, 7, 8, 9, 10, 11, 12, 13, 14, 15, 16, 2, 1, 0] rfl)
          have hJ9 := hJ_345
          refine lv_iload hx hb dL_halls_648 (lv_at hl 16 rfl) ?_
          refine lv_aload hx hb dL_halls_650 (lv_at hl 13 rfl) ?_
          refine lv_iconst (v := nI 5) hx hb dL_halls_652 (by decide) ?_
          refine a_iald (f := 11) (n := 7) hx hb hKa hPa rfl (by decide) (by decide) dL_halls_653 ?_
          refine n_icmp_ge (tgt := 715) hx hb dL_halls_654 (by decide) (by omega) (by have f1 : T 11 5 ≤ 2000 := hT.1 11 5; have f2 : T 11 5 ≤ 32 := hT.2.2.2.2.1; omega) (fun c_346 => ?_) (fun c_346 => ?_)
          · exact hk_6 x9 (by have f1 := hJ9; omega) ls (lv_sub hl [15, 14, 0, 1, 2, 3, 4, 5, 6, 7, 8, 9, 10, 11, 12, 13] rfl)
          · refine lv_iload_n hx hb dL_halls_657 rfl (lv_at hl 2 rfl) ?_
            refine lv_sipush (v := nI 768) hx hb dL_halls_658 (by decide) ?_
            refine lv_iand hx hb dL_halls_661 ?_
            refine lv_if_le (tgt := 715) hx hb dL_halls_662 (by decide)  (fun c_347 => ?_) (fun c_347 => ?_)
            · exact hk_6 x9 (by have f1 := hJ9; omega) ls (lv_sub hl [15, 14, 0, 1, 2, 3, 4, 5, 6, 7, 8, 9, 10, 11, 12, 13] rfl)
            · refine lv_iload hx hb dL_halls_665 (lv_at hl 15 rfl) ?_
              refine lv_aload hx hb dL_halls_667 (lv_at hl 13 rfl) ?_
              refine lv_iconst (v := nI 5) hx hb dL_halls_669 (by decide) ?_
              refine a_iald (f := 11) (n := 7) hx hb hKa hPa rfl (by decide) (by decide) dL_halls_670 ?_
              refine n_icmp_eq (tgt := 698) hx hb dL_halls_671 (by decide) (by have f1 := hJ9; omega) (by have f1 : T 11 5 ≤ 2000 := hT.1 11 5; have f2 : T 11 5 ≤ 32 := hT.2.2.2.2.1; omega) (fun c_348 => ?_) (fun c_348 => ?_)
              · refine lv_iload hx hb dL_halls_698 (lv_at hl 15 rfl) ?_
                refine lv_iconst (v := nI 1) hx hb dL_halls_700 (by decide) ?_
                refine n_iadd hx hb dL_halls_701 (z := x9 + 1) rfl ?_
                refine lv_aload hx hb dL_halls_702 (lv_at hl 13 rfl) ?_
                refine lv_iconst (v := nI 5) hx hb dL_halls_704 (by decide) ?_
                refine a_iald (f := 11) (n := 7) hx hb hKa hPa rfl (by decide) (by decide) dL_halls_705 ?_
                refine n_irem hx hb dL_halls_706 (z := (x9 + 1) % (T 11 5)) (by have f1 := hJ9; omega) (by have f1 : T 11 5 ≤ 2000 := hT.1 11 5; have f2 : T 11 5 ≤ 32 := hT.2.2.2.2.1; omega) (by have f1 : T 11 5 ≤ 2000 := hT.1 11 5; have f2 : T 11 5 ≤ 32 := hT.2.2.2.2.1; omega) rfl ?_
                refine lv_istore (lv' := [(15, .int (nI ((x9 + 1) % (T 11 5)))), (0, .ref h), (1, .int (nI act)), (2, .int y), (3, .int z), (4, .ref (ad 1)), (5, .ref (ad 2)), (6, .ref (ad 3)), (7, .ref (ad 4)), (8, .ref (ad 5)), (9, .ref (ad 6)), (10, .ref (ad 7)), (11, .ref (ad 8)), (12, .ref (ad 9)), (13, .ref (ad 11)), (14, .int (nI a9)), (16, .int (nI k))]) hx hb dL_halls_707 hl (by decide) rfl (fun ls hl => ?_)
                refine n_iinc (k := 16) (lv' := [(16, .int (nI (k + 1))), (15, .int (nI ((x9 + 1) % (T 11 5)))), (0, .ref h), (1, .int (nI act)), (2, .int y), (3, .int z), (4, .ref (ad 1)), (5, .ref (ad 2)), (6, .ref (ad 3)), (7, .ref (ad 4)), (8, .ref (ad 5)), (9, .ref (ad 6)), (10, .ref (ad 7)), (11, .ref (ad 8)), (12, .ref (ad 9)), (13, .ref (ad 11)), (14, .int (nI a9))]) hx hb dL_halls_709 hl rfl (by decide) rfl (fun ls hl => ?_)
                refine lv_goto (tgt := 648) hx hb dL_halls_712 (by decide) ?_
                refine ih_344 (by omega) ((x9 + 1) % (T 11 5)) (by first | (have f9 := Nat.mod_lt (x9 + 1) (show 0 < T 11 5 by omega); omega)) ls ?_
                exact lv_sub hl [2, 3, 4, 5, 6, 7, 8, 9, 10, 11, 12, 13, 14, 15, 16, 1, 0] rfl
              · refine lv_aload hx hb dL_halls_674 (lv_at hl 11 rfl) ?_
                refine lv_iload hx hb dL_halls_676 (lv_at hl 15 rfl) ?_
                refine a_iald (f := 8) (n := 32) hx hb hKa hPa rfl (by have f1 := hJ9; omega) (by decide) dL_halls_678 ?_
                refine lv_bipush (v := nI 9) hx hb dL_halls_679 (by decide) ?_
                refine lv_ishr hx hb dL_halls_681 ?_
                rw [show (nI (T 8 x9)) >>> ((nI 9) &&& 31) = nI ((T 8 x9) / 512) from n_shrK (by have f1 := hJ9; have f2 : T 8 x9 ≤ 16777215 := hT.1 8 x9; omega) (by decide) rfl]
                refine lv_iconst (v := nI 3) hx hb dL_halls_682 (by decide) ?_
                refine lv_iand hx hb dL_halls_683 ?_
                rw [show (nI ((T 8 x9) / 512)) &&& (nI 3) = nI (((T 8 x9) / 512) % 4) from n_andK (k := 2) (by have f1 := hJ9; have f2 : T 8 x9 ≤ 16777215 := hT.1 8 x9; omega) (by decide) (by decide) rfl]
                refine lv_iload_n hx hb dL_halls_684 rfl (lv_at hl 1 rfl) ?_
                refine lv_bipush (v := nI 14) hx hb dL_halls_685 (by decide) ?_
                refine n_icmp_ge (tgt := 694) hx hb dL_halls_687 (by decide) (by have f1 := hact; omega) (by decide) (fun c_349 => ?_) (fun c_349 => ?_)
                · refine lv_iconst (v := nI 2) hx hb dL_halls_694 (by decide) ?_
                  refine n_icmp_eq (tgt := 715) hx hb dL_halls_695 (by decide) (by have f1 := hJ9; have f2 : T 8 x9 ≤ 16777215 := hT.1 8 x9; omega) (by decide) (fun c_350 => ?_) (fun c_350 => ?_)
                  · exact hk_6 x9 (by have f1 := hJ9; omega) ls (lv_sub hl [15, 14, 0, 1, 2, 3, 4, 5, 6, 7, 8, 9, 10, 11, 12, 13] rfl)
                  · refine lv_iload hx hb dL_halls_698 (lv_at hl 15 rfl) ?_
                    refine lv_iconst (v := nI 1) hx hb dL_halls_700 (by decide) ?_
                    refine n_iadd hx hb dL_halls_701 (z := x9 + 1) rfl ?_
                    refine lv_aload hx hb dL_halls_702 (lv_at hl 13 rfl) ?_
                    refine lv_iconst (v := nI 5) hx hb dL_halls_704 (by decide) ?_
                    refine a_iald (f := 11) (n := 7) hx hb hKa hPa rfl (by decide) (by decide) dL_halls_705 ?_
                    refine n_irem hx hb dL_halls_706 (z := (x9 + 1) % (T 11 5)) (by have f1 := hJ9; omega) (by have f1 : T 11 5 ≤ 2000 := hT.1 11 5; have f2 : T 11 5 ≤ 32 := hT.2.2.2.2.1; omega) (by have f1 : T 11 5 ≤ 2000 := hT.1 11 5; have f2 : T 11 5 ≤ 32 := hT.2.2.2.2.1; omega) rfl ?_
                    refine lv_istore (lv' := [(15, .int (nI ((x9 + 1) % (T 11 5)))), (0, .ref h), (1, .int (nI act)), (2, .int y), (3, .int z), (4, .ref (ad 1)), (5, .ref (ad 2)), (6, .ref (ad 3)), (7, .ref (ad 4)), (8, .ref (ad 5)), (9, .ref (ad 6)), (10, .ref (ad 7)), (11, .ref (ad 8)), (12, .ref (ad 9)), (13, .ref (ad 11)), (14, .int (nI a9)), (16, .int (nI k))]) hx hb dL_halls_707 hl (by decide) rfl (fun ls hl => ?_)
                    refine n_iinc (k := 16) (lv' := [(16, .int (nI (k + 1))), (15, .int (nI ((x9 + 1) % (T 11 5)))), (0, .ref h), (1, .int (nI act)), (2, .int y), (3, .int z), (4, .ref (ad 1)), (5, .ref (ad 2)), (6, .ref (ad 3)), (7, .ref (ad 4)), (8, .ref (ad 5)), (9, .ref (ad 6)), (10, .ref (ad 7)), (11, .ref (ad 8)), (12, .ref (ad 9)), (13, .ref (ad 11)), (14, .int (nI a9))]) hx hb dL_halls_709 hl rfl (by decide) rfl (fun ls hl => ?_)
                    refine lv_goto (tgt := 648) hx hb dL_halls_712 (by decide) ?_
                    refine ih_344 (by omega) ((x9 + 1) % (T 11 5)) (by first | (have f9 := Nat.mod_lt (x9 + 1) (show 0 < T 11 5 by omega); omega)) ls ?_
                    exact lv_sub hl [2, 3, 4, 5, 6, 7, 8, 9, 10, 11, 12, 13, 14, 15, 16, 1, 0] rfl
                · refine lv_iconst (v := nI 0) hx hb dL_halls_690 (by decide) ?_
                  refine lv_goto (tgt := 695) hx hb dL_halls_691 (by decide) ?_
                  refine n_icmp_eq (tgt := 715) hx hb dL_halls_695 (by decide) (by have f1 := hJ9; have f2 : T 8 x9 ≤ 16777215 := hT.1 8 x9; omega) (by decide) (fun c_351 => ?_) (fun c_351 => ?_)
                  · exact hk_6 x9 (by have f1 := hJ9; omega) ls (lv_sub hl [15, 14, 0, 1, 2, 3, 4, 5, 6, 7, 8, 9, 10, 11, 12, 13] rfl)
                  · refine lv_iload hx hb dL_halls_698 (lv_at hl 15 rfl) ?_
                    refine lv_iconst (v := nI 1) hx hb dL_halls_700 (by decide) ?_
                    refine n_iadd hx hb dL_halls_701 (z := x9 + 1) rfl ?_
                    refine lv_aload hx hb dL_halls_702 (lv_at hl 13 rfl) ?_
                    refine lv_iconst (v := nI 5) hx hb dL_halls_704 (by decide) ?_
                    refine a_iald (f := 11) (n := 7) hx hb hKa hPa rfl (by decide) (by decide) dL_halls_705 ?_
                    refine n_irem hx hb dL_halls_706 (z := (x9 + 1) % (T 11 5)) (by have f1 := hJ9; omega) (by have f1 : T 11 5 ≤ 2000 := hT.1 11 5; have f2 : T 11 5 ≤ 32 := hT.2.2.2.2.1; omega) (by have f1 : T 11 5 ≤ 2000 := hT.1 11 5; have f2 : T 11 5 ≤ 32 := hT.2.2.2.2.1; omega) rfl ?_
                    refine lv_istore (lv' := [(15, .int (nI ((x9 + 1) % (T 11 5)))), (0, .ref h), (1, .int (nI act)), (2, .int y), (3, .int z), (4, .ref (ad 1)), (5, .ref (ad 2)), (6, .ref (ad 3)), (7, .ref (ad 4)), (8, .ref (ad 5)), (9, .ref (ad 6)), (10, .ref (ad 7)), (11, .ref (ad 8)), (12, .ref (ad 9)), (13, .ref (ad 11)), (14, .int (nI a9)), (16, .int (nI k))]) hx hb dL_halls_707 hl (by decide) rfl (fun ls hl => ?_)
                    refine n_iinc (k := 16) (lv' := [(16, .int (nI (k + 1))), (15, .int (nI ((x9 + 1) % (T 11 5)))), (0, .ref h), (1, .int (nI act)), (2, .int y), (3, .int z), (4, .ref (ad 1)), (5, .ref (ad 2)), (6, .ref (ad 3)), (7, .ref (ad 4)), (8, .ref (ad 5)), (9, .ref (ad 6)), (10, .ref (ad 7)), (11, .ref (ad 8)), (12, .ref (ad 9)), (13, .ref (ad 11)), (14, .int (nI a9))]) hx hb dL_halls_709 hl rfl (by decide) rfl (fun ls hl => ?_)
                    refine lv_goto (tgt := 648) hx hb dL_halls_712 (by decide) ?_
                    refine ih_344 (by omega) ((x9 + 1) % (T 11 5)) (by first | (have f9 := Nat.mod_lt (x9 + 1) (show 0 < T 11 5 by omega); omega)) ls ?_
                    exact lv_sub hl [2, 3, 4, 5, 6, 7, 8, 9, 10, 11, 12, 13, 14, 15, 16, 1, 0] rfl
      · refine lv_iload_n hx hb dL_halls_247 rfl (lv_at hl 4 rfl) ?_
        refine lv_iconst (v := nI 4) hx hb dL_halls_248 (by decide) ?_
        refine vp_callSi (W.runS (As := [.int z, .int (nI 4)]) (rest := []) ⟨hx, hb, hml, hown, hts⟩ (ch_low l z 4 (by omega) (by omega)) (va_cwS 2 hts gL_halls_L_low rfl rfl rfl kd_L_low ⟨Nat.le_of_ble_eq_true rfl, Nat.le_of_ble_eq_true rfl⟩) ⟨fun _ _ _ _ q => q, fun U hU hW => ⟨rfl, trivial⟩⟩ rfl rfl hl.1 rfl (lv_room (Nat.le_of_ble_eq_true rfl)) dL_halls_249 ⟨Nat.le_of_ble_eq_true rfl, Nat.le_of_ble_eq_true rfl⟩) (fun r_352 hr_352 => ?_)
        subst hr_352
        have hb9 : lowN z 4 < 4 := lowN_lt _ (by decide)
        generalize lowN z 4 = b9 at hb9 ⊢
        refine lv_istore (lv' := [(15, .int (nI b9)), (14, .int (nI a9)), (0, .ref h), (1, .int (nI act)), (2, .int y), (3, .int z), (4, .ref (ad 1)), (5, .ref (ad 2)), (6, .ref (ad 3)), (7, .ref (ad 4)), (8, .ref (ad 5)), (9, .ref (ad 6)), (10, .ref (ad 7)), (11, .ref (ad 8)), (12, .ref (ad 9)), (13, .ref (ad 11))]) hx hb dL_halls_252 hl (by decide) rfl (fun ls hl => ?_)
        refine lv_iload_n hx hb dL_halls_254 rfl (lv_at hl 5 rfl) ?_
        refine lv_iconst (v := nI 3) hx hb dL_halls_255 (by decide) ?_
        refine lv_ishr hx hb dL_halls_256 ?_
        refine lv_iconst (v := nI 3) hx hb dL_halls_257 (by decide) ?_
        refine vp_callSi (W.runS (As := [.int (z >>> ((nI 3) &&& 31)), .int (nI 3)]) (rest := []) ⟨hx, hb, hml, hown, hts⟩ (ch_low l (z >>> ((nI 3) &&& 31)) 3 (by omega) (by omega)) (va_cwS 2 hts gL_halls_L_low rfl rfl rfl kd_L_low ⟨Nat.le_of_ble_eq_true rfl, Nat.le_of_ble_eq_true rfl⟩) ⟨fun _ _ _ _ q => q, fun U hU hW => ⟨rfl, trivial⟩⟩ rfl rfl hl.1 rfl (lv_room (Nat.le_of_ble_eq_true rfl)) dL_halls_258 ⟨Nat.le_of_ble_eq_true rfl, Nat.le_of_ble_eq_true rfl⟩) (fun r_353 hr_353 => ?_)
        subst hr_353
        have hgd9 : lowN (z >>> ((nI 3) &&& 31)) 3 < 3 := lowN_lt _ (by decide)
        generalize lowN (z >>> ((nI 3) &&& 31)) 3 = gd9 at hgd9 ⊢
        refine lv_istore (lv' := [(16, .int (nI gd9)), (15, .int (nI b9)), (14, .int (nI a9)), (0, .ref h), (1, .int (nI act)), (2, .int y), (3, .int z), (4, .ref (ad 1)), (5, .ref (ad 2)), (6, .ref (ad 3)), (7, .ref (ad 4)), (8, .ref (ad 5)), (9, .ref (ad 6)), (10, .ref (ad 7)), (11, .ref (ad 8)), (12, .ref (ad 9)), (13, .ref (ad 11))]) hx hb dL_halls_261 hl (by decide) rfl (fun ls hl => ?_)
        refine lv_iload hx hb dL_halls_263 (lv_at hl 2 rfl) ?_
        refine lv_aload hx hb dL_halls_265 (lv_at hl 16 rfl) ?_
        refine lv_iconst (v := nI 4) hx hb dL_halls_267 (by decide) ?_
        refine a_iald (f := 11) (n := 7) hx hb hKa hPa rfl (by decide) (by decide) dL_halls_268 ?_
        refine n_icmp_ne (tgt := 319) hx hb dL_halls_269 (by decide) (by have f1 := ha9; omega) (by have f1 : T 11 4 ≤ 2000 := hT.1 11 4; have f2 : T 11 4 ≤ 32 := hT.2.2.2.1; omega) (fun c_354 => ?_) (fun c_354 => ?_)
        · refine lv_aload_n hx hb dL_halls_319 rfl (lv_at hl 3 rfl) ?_
          refine lv_bipush (v := nI 8) hx hb dL_halls_320 (by decide) ?_
          refine lv_iload hx hb dL_halls_322 (lv_at hl 2 rfl) ?_
          refine lv_iconst (v := (-1)) hx hb dL_halls_324 (by decide) ?_
          refine va_calli (vx_runSW (As := [.ref h, .int (nI 8), .int (nI a9), .int (-1)]) (rest := []) ⟨hx, hb, hml, hown, hts⟩ (cw_complain l hst D cI cO cb eA mi st dO dT vF ws hc hM hsI (nI 8) (nI a9) (-1)) (vx_cwSW 4 hts gL_halls_L_complain rfl rfl rfl kd_L_complain ⟨Nat.le_of_ble_eq_true rfl, Nat.le_of_ble_eq_true rfl⟩) ⟨kB_blind, kB_pre hK hG hGT hN (fun q h9 => Or.inl h9) hS (fun q h9 => hA q (Nat.le_trans hS.1 h9)) hPw _⟩ rfl rfl hl.1 rfl (lv_room (Nat.le_of_ble_eq_true rfl)) dL_halls_325 ⟨by show 0 + 4 ≤ 40; omega, by show 0 + 114 ≤ 1000; omega⟩) hS (fun _ _ h9 => Or.inl h9) (fun _ h9 => Or.inl h9) (fun r_355 ws_356 U8 H_360 locs_361 ht hvm hu_359 hB hz1 hk1 hS1 => ?_)
          obtain ⟨hr_357, hc_358⟩ := hu_359
          replace hB : va_P D vwCl ws_356 U8.heap := hB
          rw [ht] at hB
          replace hPa := aP_keep hPa hdB hAB hk1
          clear hPw hS
          have hPw := hB
          have hS := hS1
          clear hB hS1 hz1 hk1 hvm ht U8
          have hk_362 : k_complain M (nI 8) (nI a9) (-1) = 1 := by exact cmp_1b (by omega) (by omega)
          rw [keep_complain (by rw [hk_362]; decide)] at hc_358
          rw [hk_362] at hr_357
          replace hr_357 : r_355 = (-7100) := hr_357
          subst hr_357
          refine lv_sipush (v := (-7100)) hx hb dL_halls_328 (by decide) ?_
          refine lv_icmp_ne (tgt := 364) hx hb dL_halls_331 (by decide)  (fun c9 => absurd c9 (by decide)) (fun _ => ?_)
          refine lv_aload_n hx hb dL_halls_334 rfl (lv_at hl 3 rfl) ?_
          refine lv_iload hx hb dL_halls_335 (lv_at hl 1 rfl) ?_
          refine lv_iload hx hb dL_halls_337 (lv_at hl 2 rfl) ?_
          refine lv_iconst (v := nI 3) hx hb dL_halls_339 (by decide) ?_
          refine va_calli (vx_runSW (As := [.ref h, .int (nI b9), .int (nI a9), .int (nI 3)]) (rest := []) ⟨hx, hb, hml, hown, hts⟩ (cw_complain l hst D cI cO cb eA mi st dO dT vF ws_356 hc_358 hM hsI (nI b9) (nI a9) (nI 3)) (vx_cwSW 4 hts gL_halls_L_complain rfl rfl rfl kd_L_complain ⟨Nat.le_of_ble_eq_true rfl, Nat.le_of_ble_eq_true rfl⟩) ⟨kB_blind, kB_pre hK hG hGT hN (fun q h9 => Or.inl h9) hS (fun q h9 => hA q (Nat.le_trans hS.1 h9)) hPw _⟩ rfl rfl hl.1 rfl (lv_room (Nat.le_of_ble_eq_true rfl)) dL_halls_340 ⟨by show 4 + 4 ≤ 40; omega, by show 114 + 114 ≤ 1000; omega⟩) hS (fun _ _ h9 => Or.inl h9) (fun _ h9 => Or.inl h9) (fun r_363 ws_364 U8 H_368 locs_369 ht hvm hu_367 hB hz1 hk1 hS1 => ?_)
          obtain ⟨hr_365, hc_366⟩ := hu_367
          replace hB : va_P D vwCl ws_364 U8.heap := hB
          rw [ht] at hB
          replace hPa := aP_keep hPa hdB hAB hk1
          clear hPw hS
          have hPw := hB
          have hS := hS1
          clear hB hS1 hz1 hk1 hvm ht U8
          have hk_370 : k_complain M (nI b9) (nI a9) (nI 3) = 2 := by exact cmp_2 (by omega) (by omega) (by omega) (ii_f (a := 3) (lo := 0) (hi := 2) (by omega) (by omega) (by omega) (by omega))
          rw [keep_complain (by rw [hk_370]; decide)] at hc_366
          rw [hk_370] at hr_365
          replace hr_365 : r_363 = (-7200) := hr_365
          subst hr_365
          refine lv_sipush (v := (-7200)) hx hb dL_halls_343 (by decide) ?_
          refine lv_icmp_ne (tgt := 364) hx hb dL_halls_346 (by decide)  (fun c9 => absurd c9 (by decide)) (fun _ => ?_)
          refine lv_aload_n hx hb dL_halls_349 rfl (lv_at hl 3 rfl) ?_
          refine lv_iload hx hb dL_halls_350 (lv_at hl 1 rfl) ?_
          refine lv_iload hx hb dL_halls_352 (lv_at hl 2 rfl) ?_
          refine lv_iconst (v := (-1)) hx hb dL_halls_354 (by decide) ?_
          refine va_calli (vx_runSW (As := [.ref h, .int (nI b9), .int (nI a9), .int (-1)]) (rest := []) ⟨hx, hb, hml, hown, hts⟩ (cw_complain l hst D cI cO cb eA mi st dO dT vF ws_364 hc_366 hM hsI (nI b9) (nI a9) (-1)) (vx_cwSW 4 hts gL_halls_L_complain rfl rfl rfl kd_L_complain ⟨Nat.le_of_ble_eq_true rfl, Nat.le_of_ble_eq_true rfl⟩) ⟨kB_blind, kB_pre hK hG hGT hN (fun q h9 => Or.inl h9) hS (fun q h9 => hA q (Nat.le_trans hS.1 h9)) hPw _⟩ rfl rfl hl.1 rfl (lv_room (Nat.le_of_ble_eq_true rfl)) dL_halls_355 ⟨by show 8 + 4 ≤ 40; omega, by show 228 + 114 ≤ 1000; omega⟩) hS (fun _ _ h9 => Or.inl h9) (fun _ h9 => Or.inl h9) (fun r_371 ws_372 U8 H_376 locs_377 ht hvm hu_375 hB hz1 hk1 hS1 => ?_)
          obtain ⟨hr_373, hc_374⟩ := hu_375
          replace hB : va_P D vwCl ws_372 U8.heap := hB
          rw [ht] at hB
          replace hPa := aP_keep hPa hdB hAB hk1
          clear hPw hS
          have hPw := hB
          have hS := hS1
          clear hB hS1 hz1 hk1 hvm ht U8
          have hk_378 : k_complain M (nI b9) (nI a9) (-1) = 2 := by exact cmp_2 (by omega) (by omega) (by omega) (i_in_neg (by decide) (by decide) (by decide))
          rw [keep_complain (by rw [hk_378]; decide)] at hc_374
          rw [hk_378] at hr_373
          replace hr_373 : r_371 = (-7200) := hr_373
          subst hr_373
          refine lv_sipush (v := (-7200)) hx hb dL_halls_358 (by decide) ?_
          refine lv_icmp_eq (tgt := 366) hx hb dL_halls_361 (by decide)  (fun _ => ?_) (fun c9 => absurd c9 (by decide))
          refine lv_iconst (v := nI 4) hx hb dL_halls_366 (by decide) ?_
          refine lv_aload hx hb dL_halls_367 (lv_at hl 13 rfl) ?_
          refine lv_iload hx hb dL_halls_369 (lv_at hl 2 rfl) ?_
          refine a_iald (f := 7) (n := 32) hx hb hKa hPa rfl (by have f1 := ha9; omega) (by decide) dL_halls_371 ?_
          refine lv_iconst (v := nI 3) hx hb dL_halls_372 (by decide) ?_
          refine lv_iand hx hb dL_halls_373 ?_
          rw [show (nI (T 7 a9)) &&& (nI 3) = nI ((T 7 a9) % 4) from n_andK (k := 2) (by have f1 := ha9; have f2 : T 7 a9 ≤ 16777215 := hT.1 7 a9; omega) (by decide) (by decide) rfl]
          refine n_imul hx hb dL_halls_374 (z := 4 * ((T 7 a9) % 4)) rfl ?_
          refine lv_iload hx hb dL_halls_375 (lv_at hl 1 rfl) ?_
          refine n_iadd hx hb dL_halls_377 (z := (4 * ((T 7 a9) % 4)) + b9) rfl ?_
          refine lv_istore (lv' := [(17, .int (nI ((4 * ((T 7 a9) % 4)) + b9))), (16, .int (nI gd9)), (15, .int (nI b9)), (14, .int (nI a9)), (0, .ref h), (1, .int (nI act)), (2, .int y), (3, .int z), (4, .ref (ad 1)), (5, .ref (ad 2)), (6, .ref (ad 3)), (7, .ref (ad 4)), (8, .ref (ad 5)), (9, .ref (ad 6)), (10, .ref (ad 7)), (11, .ref (ad 8)), (12, .ref (ad 9)), (13, .ref (ad 11))]) hx hb dL_halls_378 hl (by decide) rfl (fun ls hl => ?_)
          refine w_joinB (nL := 21) (pc1 := 396) (sk1 := []) (fun lk => [(18, .int (bi lk)), (17, .int (nI ((4 * ((T 7 a9) % 4)) + b9))), (16, .int (nI gd9)), (15, .int (nI b9)), (14, .int (nI a9)), (0, .ref h), (1, .int (nI act)), (2, .int y), (3, .int z), (4, .ref (ad 1)), (5, .ref (ad 2)), (6, .ref (ad 3)), (7, .ref (ad 4)), (8, .ref (ad 5)), (9, .ref (ad 6)), (10, .ref (ad 7)), (11, .ref (ad 8)), (12, .ref (ad 9)), (13, .ref (ad 11))]) (fun lk => lk = decide (T 5 (4 * (T 7 a9 % 4) + b9) = 1)) (fun lk hlk ls hl => ?_) (fun hk_379 => ?_)
          · have hlk9 := hlk
            refine lv_iconst (v := nI 0) hx hb dL_halls_396 (by decide) ?_
            refine lv_istore (lv' := [(19, .int (nI 0)), (18, .int (bi lk)), (17, .int (nI ((4 * ((T 7 a9) % 4)) + b9))), (16, .int (nI gd9)), (15, .int (nI b9)), (14, .int (nI a9)), (0, .ref h), (1, .int (nI act)), (2, .int y), (3, .int z), (4, .ref (ad 1)), (5, .ref (ad 2)), (6, .ref (ad 3)), (7, .ref (ad 4)), (8, .ref (ad 5)), (9, .ref (ad 6)), (10, .ref (ad 7)), (11, .ref (ad 8)), (12, .ref (ad 9)), (13, .ref (ad 11))]) hx hb dL_halls_397 hl (by decide) rfl (fun ls hl => ?_)
            have eI_380 : 4 * (T 7 a9 % 4) + b9 = (4 * ((T 7 a9) % 4)) + b9 := by rfl
            have eI_381 : t_lcf T (4 * (T 7 a9 % 4) + b9) 0 = lk := by exact hlk.symm
            refine w_loop (e := T 11 3) (nL := 21) (fun k => [(0, .ref h), (1, .int (nI act)), (2, .int y), (3, .int z), (4, .ref (ad 1)), (5, .ref (ad 2)), (6, .ref (ad 3)), (7, .ref (ad 4)), (8, .ref (ad 5)), (9, .ref (ad 6)), (10, .ref (ad 7)), (11, .ref (ad 8)), (12, .ref (ad 9)), (13, .ref (ad 11)), (14, .int (nI a9)), (15, .int (nI b9)), (16, .int (nI gd9)), (17, .int (nI (4 * (T 7 a9 % 4) + b9))), (18, .int (bi (t_lcf T (4 * (T 7 a9 % 4) + b9) k))), (19, .int (nI k))]) (fun k hb_383 ih_382 ls hl => ?_) 0 (by omega) ls (lv_sub hl [6, 7, 8, 9, 10, 11, 12, 13, 14, 15, 16, 17, 18, 19, 5, 4, 3, 2, 1, 0] (by show lv_pick _ _ = [(0, .ref h), (1, .int (nI act)), (2, .int y), (3, .int z), (4, .ref (ad 1)), (5, .ref (ad 2)), (6, .ref (ad 3)), (7, .ref (ad 4)), (8, .ref (ad 5)), (9, .ref (ad 6)), (10, .ref (ad 7)), (11, .ref (ad 8)), (12, .ref (ad 9)), (13, .ref (ad 11)), (14, .int (nI a9)), (15, .int (nI b9)), (16, .int (nI gd9)), (17, .int (nI (4 * (T 7 a9 % 4) + b9))), (18, .int (bi (t_lcf T (4 * (T 7 a9 % 4) + b9) 0))), (19, .int (nI 0))]; rw [eI_380, eI_381]; rfl))
            refine lv_iload hx hb dL_halls_399 (lv_at hl 19 rfl) ?_
            refine lv_aload hx hb dL_halls_401 (lv_at hl 13 rfl) ?_
            refine lv_iconst (v := nI 3) hx hb dL_halls_403 (by decide) ?_
            refine a_iald (f := 11) (n := 7) hx hb hKa hPa rfl (by decide) (by decide) dL_halls_404 ?_
            refine n_icmp_ge (tgt := 438) hx hb dL_halls_405 (by decide) (by omega) (by have f1 : T 11 3 ≤ 2000 := hT.1 11 3; have f2 : T 11 3 ≤ 60 := hT.2.2.1; omega) (fun c_385 => ?_) (fun c_385 => ?_)
            · obtain rfl : T 11 3 = k := by omega
              refine w_joinB (nL := 21) (pc1 := 504) (sk1 := []) (fun my => [(19, .int (bi my)), (0, .ref h), (1, .int (nI act)), (2, .int y), (3, .int z), (4, .ref (ad 1)), (5, .ref (ad 2)), (6, .ref (ad 3)), (7, .ref (ad 4)), (8, .ref (ad 5)), (9, .ref (ad 6)), (10, .ref (ad 7)), (11, .ref (ad 8)), (12, .ref (ad 9)), (13, .ref (ad 11)), (14, .int (nI a9)), (15, .int (nI b9)), (16, .int (nI gd9)), (17, .int (nI (4 * (T 7 a9 % 4) + b9))), (18, .int (bi (t_lcf T (4 * (T 7 a9 % 4) + b9) (T 11 3))))]) (fun my => my = t_m0 T a9 b9 gd9) (fun my hmy ls hl => ?_) (fun hk_386 => ?_)
              · have hmy9 := hmy
                refine lv_iconst (v := nI 0) hx hb dL_halls_504 (by decide) ?_
                refine lv_istore (lv' := [(20, .int (nI 0)), (19, .int (bi my)), (0, .ref h), (1, .int (nI act)), (2, .int y), (3, .int z), (4, .ref (ad 1)), (5, .ref (ad 2)), (6, .ref (ad 3)), (7, .ref (ad 4)), (8, .ref (ad 5)), (9, .ref (ad 6)), (10, .ref (ad 7)), (11, .ref (ad 8)), (12, .ref (ad 9)), (13, .ref (ad 11)), (14, .int (nI a9)), (15, .int (nI b9)), (16, .int (nI gd9)), (17, .int (nI (4 * (T 7 a9 % 4) + b9))), (18, .int (bi (t_lcf T (4 * (T 7 a9 % 4) + b9) (T 11 3))))]) hx hb dL_halls_505 hl (by decide) rfl (fun ls hl => ?_)
                have eI_387 : t_mcf T a9 b9 gd9 0 = my := by exact hmy.symm
                refine w_loop (e := T 11 5) (nL := 21) (fun k => [(0, .ref h), (1, .int (nI act)), (2, .int y), (3, .int z), (4, .ref (ad 1)), (5, .ref (ad 2)), (6, .ref (ad 3)), (7, .ref (ad 4)), (8, .ref (ad 5)), (9, .ref (ad 6)), (10, .ref (ad 7)), (11, .ref (ad 8)), (12, .ref (ad 9)), (13, .ref (ad 11)), (14, .int (nI a9)), (15, .int (nI b9)), (16, .int (nI gd9)), (17, .int (nI (4 * (T 7 a9 % 4) + b9))), (19, .int (bi (t_mcf T a9 b9 gd9 k))), (20, .int (nI k))]) (fun k hb_389 ih_388 ls hl => ?_) 0 (by omega) ls (lv_sub hl [2, 3, 4, 5, 6, 7, 8, 9, 10, 11, 12, 13, 14, 15, 16, 17, 18, 19, 1, 0] (by show lv_pick _ _ = [(0, .ref h), (1, .int (nI act)), (2, .int y), (3, .int z), (4, .ref (ad 1)), (5, .ref (ad 2)), (6, .ref (ad 3)), (7, .ref (ad 4)), (8, .ref (ad 5)), (9, .ref (ad 6)), (10, .ref (ad 7)), (11, .ref (ad 8)), (12, .ref (ad 9)), (13, .ref (ad 11)), (14, .int (nI a9)), (15, .int (nI b9)), (16, .int (nI gd9)), (17, .int (nI (4 * (T 7 a9 % 4) + b9))), (19, .int (bi (t_mcf T a9 b9 gd9 0))), (20, .int (nI 0))]; rw [eI_387]; rfl))
                refine lv_iload hx hb dL_halls_507 (lv_at hl 19 rfl) ?_
                refine lv_aload hx hb dL_halls_509 (lv_at hl 13 rfl) ?_
                refine lv_iconst (v := nI 5) hx hb dL_halls_511 (by decide) ?_
                refine a_iald (f := 11) (n := 7) hx hb hKa hPa rfl (by decide) (by decide) dL_halls_512 ?_
                refine n_icmp_ge (tgt := 551) hx hb dL_halls_513 (by decide) (by omega) (by have f1 : T 11 5 ≤ 2000 := hT.1 11 5; have f2 : T 11 5 ≤ 32 := hT.2.2.2.2.1; omega) (fun c_391 => ?_) (fun c_391 => ?_)
                · obtain rfl : T 11 5 = k := by omega
                  refine lv_iload hx hb dL_halls_551 (lv_at hl 18 rfl) ?_
                  refine b_if_ne (tgt := 578) hx hb dL_halls_553 (by decide)  (fun c_392 => ?_) (fun c_392 => ?_)
                  · have kmy1 : t_mcf T a9 b9 gd9 (T 11 5) = true := c_392
                    have hk0 : k_complain M (nI b9) (nI a9) (nI gd9) = 0 := by rw [cmp_e (by omega) (by omega) (by omega) (by omega), if_pos ⟨(hR.may hM h16 (a := a9) (b := b9) (gd := gd9) (by omega) (by omega) (by omega)).symm.trans kmy1, by omega⟩]
                    refine lv_aload hx hb dL_halls_578 (lv_at hl 11 rfl) ?_
                    refine lv_aload hx hb dL_halls_580 (lv_at hl 13 rfl) ?_
                    refine lv_iconst (v := nI 5) hx hb dL_halls_582 (by decide) ?_
                    refine a_iald (f := 11) (n := 7) hx hb hKa hPa rfl (by decide) (by decide) dL_halls_583 ?_
                    refine lv_iload hx hb dL_halls_584 (lv_at hl 14 rfl) ?_
                    refine lv_bipush (v := nI 32) hx hb dL_halls_586 (by decide) ?_
                    refine lv_iload hx hb dL_halls_588 (lv_at hl 15 rfl) ?_
                    refine n_imul hx hb dL_halls_590 (z := 32 * b9) rfl ?_
                    refine n_iadd hx hb dL_halls_591 (z := a9 + (32 * b9)) rfl ?_
                    refine lv_sipush (v := nI 128) hx hb dL_halls_592 (by decide) ?_
                    refine lv_iload hx hb dL_halls_595 (lv_at hl 16 rfl) ?_
                    refine n_imul hx hb dL_halls_597 (z := 128 * gd9) rfl ?_
                    refine n_iadd hx hb dL_halls_598 (z := (a9 + (32 * b9)) + (128 * gd9)) rfl ?_
                    refine b_iast (f := 8) (n := 32) (v := (a9 + (32 * b9)) + (128 * gd9)) hx hb hKa hPa hPw hdB hc_374.dis hAB hS (by decide) rfl (by have f1 : T 11 5 ≤ 2000 := hT.1 11 5; have f2 : T 11 5 ≤ 32 := hT.2.2.2.2.1; omega) (by decide) (aset_8 _ _ _ _ _) dL_halls_599 (fun H1 locs1 hPa1 hPw1 hS1 => ?_)
                    clear hPa hPw hS
                    have hPa := hPa1; have hPw := hPw1; have hS := hS1; clear hPa1 hPw1 hS1
                    refine lv_aload hx hb dL_halls_600 (lv_at hl 13 rfl) ?_
                    refine lv_iconst (v := nI 5) hx hb dL_halls_602 (by decide) ?_
                    refine lv_dup2_11 hx hb dL_halls_603 rfl rfl ?_
                    refine a_iald (f := 11) (n := 7) hx hb hKa hPa rfl (by decide) (by decide) dL_halls_604 ?_
                    rw [show (mu T 8 (T 11 5) ((a9 + (32 * b9)) + (128 * gd9))) 11 5 = T 11 5 from (by simp [mu])]
                    refine lv_iconst (v := nI 1) hx hb dL_halls_605 (by decide) ?_
                    refine n_iadd hx hb dL_halls_606 (z := (T 11 5) + 1) rfl ?_
                    refine b_iast (f := 11) (n := 7) (v := (T 11 5) + 1) hx hb hKa hPa hPw hdB hc_374.dis hAB hS (by decide) rfl (by decide) (by decide) (aset_11 _ _ _ _ _) dL_halls_607 (fun H1 locs1 hPa1 hPw1 hS1 => ?_)
                    clear hPa hPw hS
                    have hPa := hPa1; have hPw := hPw1; have hS := hS1; clear hPa1 hPw1 hS1
                    refine lv_aload_n hx hb dL_halls_608 rfl (lv_at hl 0 rfl) ?_
                    refine lv_iload hx hb dL_halls_609 (lv_at hl 15 rfl) ?_
                    refine lv_iload hx hb dL_halls_611 (lv_at hl 14 rfl) ?_
                    refine lv_iload hx hb dL_halls_613 (lv_at hl 16 rfl) ?_
                    refine va_calli (vx_runSW (As := [.ref h, .int (nI b9), .int (nI a9), .int (nI gd9)]) (rest := []) ⟨hx, hb, hml, hown, hts⟩ (cw_complain l hst D cI cO cb eA mi st dO dT vF ws_372 hc_374 hM hsI (nI b9) (nI a9) (nI gd9)) (vx_cwSW 4 hts gL_halls_L_complain rfl rfl rfl kd_L_complain ⟨Nat.le_of_ble_eq_true rfl, Nat.le_of_ble_eq_true rfl⟩) ⟨kB_blind, kB_pre hK hG hGT hN (fun q h9 => Or.inl h9) hS (fun q h9 => hA q (Nat.le_trans hS.1 h9)) hPw _⟩ rfl rfl hl.1 rfl (lv_room (Nat.le_of_ble_eq_true rfl)) dL_halls_615 ⟨by show 12 + 4 ≤ 40; omega, by show 342 + 114 ≤ 1000; omega⟩) hS (fun _ _ h9 => Or.inl h9) (fun _ h9 => Or.inl h9) (fun r_393 ws_394 U8 H_398 locs_399 ht hvm hu_397 hB hz1 hk1 hS1 => ?_)
                    obtain ⟨hr_395, hc_396⟩ := hu_397
                    replace hB : va_P D vwCl ws_394 U8.heap := hB
                    rw [ht] at hB
                    replace hPa := aP_keep hPa hdB hAB hk1
                    clear hPw hS
                    have hPw := hB
                    have hS := hS1
                    clear hB hS1 hz1 hk1 hvm ht U8
                    have hv9 : er (k_complain M (nI b9) (nI a9) (nI gd9)) (if k_complain M (nI b9) (nI a9) (nI gd9) = 0 then nI (M 22 0) else nI 0) = nI (T 11 5) := by rw [hk0, if_pos rfl, g5]; rfl
                    rw [hv9] at hr_395
                    clear hv9
                    subst hr_395
                    have hM_400 : MI (g_complain M (nI b9) (nI a9) (nI gd9)) := MI_complain hM (nI b9) (nI a9) (nI gd9)
                    have hLB_401 : m_LB (g_complain M (nI b9) (nI a9) (nI gd9)) := (LB_complain (nI b9) (nI a9) (nI gd9)).1 hLB
                    have h15_402 : (g_complain M (nI b9) (nI a9) (nI gd9)) 15 0 ≤ M 15 0 + 1 := (LB_complain (nI b9) (nI a9) (nI gd9)).2
                    refine lv_aload hx hb dL_halls_618 (lv_at hl 13 rfl) ?_
                    refine lv_iconst (v := nI 5) hx hb dL_halls_620 (by decide) ?_
                    refine a_iald (f := 11) (n := 7) hx hb hKa hPa rfl (by decide) (by decide) dL_halls_621 ?_
                    rw [show (mu (mu T 8 (T 11 5) ((a9 + (32 * b9)) + (128 * gd9))) 11 5 ((T 11 5) + 1)) 11 5 = T 11 5 + 1 from (by simp [mu])]
                    refine lv_iconst (v := nI 1) hx hb dL_halls_622 (by decide) ?_
                    refine n_isub hx hb dL_halls_623 (z := (T 11 5 + 1) - 1) (by have f1 := C5; omega) rfl ?_
                    refine n_icmp_ne (tgt := 631) hx hb dL_halls_624 (by decide) (by have f1 := C5; omega) (by have f1 := C5; omega) (fun c_403 => absurd (by omega) c_403) (fun c_403 => ?_)
                    refine lv_iconst (v := nI 1) hx hb dL_halls_627 (by decide) ?_
                    refine lv_goto (tgt := 632) hx hb dL_halls_628 (by decide) ?_
                    have hLR : LR (g_complain M (nI b9) (nI a9) (nI gd9)) (mu (mu T 8 (T 11 5) ((a9 + (32 * b9)) + (128 * gd9))) 11 5 ((T 11 5) + 1)) := by rw [cmp_g hk0 (by omega) (by omega) (by omega)]; exact hR.complainS hM (by omega) (by omega) (by omega)
                    have hLT : LT (mu (mu T 8 (T 11 5) ((a9 + (32 * b9)) + (128 * gd9))) 11 5 ((T 11 5) + 1)) := by obtain ⟨u0, u1, u2, u3, u4, u5⟩ := hT; exact ⟨(LTb_mu (LTb_mu u0 (by show _ ≤ 16777215; omega)) (by show _ ≤ 2000; omega)), by simp [mu]; omega, by simp [mu]; omega, by simp [mu]; omega, by simp [mu]; omega, by simp [mu]; omega⟩
                    refine W.widen (k := 40) (n := 1000) (by omega) (by omega) ?_
                    exact W.zret (v := nI 1) hx hb hr rfl (fun U9 ht9 hW9 => ⟨⟨_, (ws_394, g_complain M (nI b9) (nI a9) (nI gd9), mu (mu T 8 (T 11 5) ((a9 + (32 * b9)) + (128 * gd9))) 11 5 ((T 11 5) + 1)), rfl, ⟨rfl, hc_396, hM_400, hLB_401, Nat.le_trans h15_402 (Nat.succ_le_succ h15), hLR, hLT⟩, by show va_P D vwCl _ U9.heap ∧ va_P D vwCl _ U9.heap; rw [ht9]; exact ⟨hPw, hPa⟩⟩, hS.F ht9⟩) hS.2.2 dL_halls_632
                  · have kmy : t_mcf T a9 b9 gd9 (T 11 5) = false := c_392
                    refine lv_aload_n hx hb dL_halls_556 rfl (lv_at hl 0 rfl) ?_
                    refine lv_iload hx hb dL_halls_557 (lv_at hl 15 rfl) ?_
                    refine lv_iload hx hb dL_halls_559 (lv_at hl 14 rfl) ?_
                    refine lv_iload hx hb dL_halls_561 (lv_at hl 16 rfl) ?_
                    refine va_calli (vx_runSW (As := [.ref h, .int (nI b9), .int (nI a9), .int (nI gd9)]) (rest := []) ⟨hx, hb, hml, hown, hts⟩ (cw_complain l hst D cI cO cb eA mi st dO dT vF ws_372 hc_374 hM hsI (nI b9) (nI a9) (nI gd9)) (vx_cwSW 4 hts gL_halls_L_complain rfl rfl rfl kd_L_complain ⟨Nat.le_of_ble_eq_true rfl, Nat.le_of_ble_eq_true rfl⟩) ⟨kB_blind, kB_pre hK hG hGT hN (fun q h9 => Or.inl h9) hS (fun q h9 => hA q (Nat.le_trans hS.1 h9)) hPw _⟩ rfl rfl hl.1 rfl (lv_room (Nat.le_of_ble_eq_true rfl)) dL_halls_563 ⟨by show 12 + 4 ≤ 40; omega, by show 342 + 114 ≤ 1000; omega⟩) hS (fun _ _ h9 => Or.inl h9) (fun _ h9 => Or.inl h9) (fun r_404 ws_405 U8 H_409 locs_410 ht hvm hu_408 hB hz1 hk1 hS1 => ?_)
                    obtain ⟨hr_406, hc_407⟩ := hu_408
                    replace hB : va_P D vwCl ws_405 U8.heap := hB
                    rw [ht] at hB
                    replace hPa := aP_keep hPa hdB hAB hk1
                    clear hPw hS
                    have hPw := hB
                    have hS := hS1
                    clear hB hS1 hz1 hk1 hvm ht U8
                    have hk_411 : k_complain M (nI b9) (nI a9) (nI gd9) = 3 := by rw [cmp_e (by omega) (by omega) (by omega) (by omega), if_neg (fun z9 => absurd (z9.1.symm.trans ((hR.may hM h16 (a := a9) (b := b9) (gd := gd9) (by omega) (by omega) (by omega)).symm.trans kmy)) (by decide))]
                    rw [keep_complain (by rw [hk_411]; decide)] at hc_407
                    rw [hk_411] at hr_406
                    replace hr_406 : r_404 = (-7300) := hr_406
                    subst hr_406
                    refine lv_sipush (v := (-7300)) hx hb dL_halls_566 (by decide) ?_
                    refine lv_icmp_ne (tgt := 576) hx hb dL_halls_569 (by decide)  (fun c9 => absurd c9 (by decide)) (fun _ => ?_)
                    refine lv_iconst (v := nI 1) hx hb dL_halls_572 (by decide) ?_
                    refine lv_goto (tgt := 577) hx hb dL_halls_573 (by decide) ?_
                    have hLR : LR (M) (T) := by exact hR
                    have hLT : LT (T) := by exact hT
                    refine W.widen (k := 40) (n := 1000) (by omega) (by omega) ?_
                    exact W.zret (v := nI 1) hx hb hr rfl (fun U9 ht9 hW9 => ⟨⟨_, (ws_405, M, T), rfl, ⟨rfl, hc_407, hM, hLB, Nat.le_succ_of_le h15, hLR, hLT⟩, by show va_P D vwCl _ U9.heap ∧ va_P D vwCl _ U9.heap; rw [ht9]; exact ⟨hPw, hPa⟩⟩, hS.F ht9⟩) hS.2.2 dL_halls_577
                · refine lv_iload hx hb dL_halls_516 (lv_at hl 18 rfl) ?_
                  refine lv_aload hx hb dL_halls_518 (lv_at hl 11 rfl) ?_
                  refine lv_iload hx hb dL_halls_520 (lv_at hl 19 rfl) ?_
                  refine a_iald (f := 8) (n := 32) hx hb hKa hPa rfl (by omega) (by decide) dL_halls_522 ?_
                  refine lv_bipush (v := nI 127) hx hb dL_halls_523 (by decide) ?_
                  refine lv_iand hx hb dL_halls_525 ?_
                  rw [show (nI (T 8 k)) &&& (nI 127) = nI ((T 8 k) % 128) from n_andK (k := 7) (by have f1 : T 8 k ≤ 16777215 := hT.1 8 k; omega) (by decide) (by decide) rfl]
                  refine lv_iload hx hb dL_halls_526 (lv_at hl 14 rfl) ?_
                  refine lv_bipush (v := nI 32) hx hb dL_halls_528 (by decide) ?_
                  refine lv_iload hx hb dL_halls_530 (lv_at hl 15 rfl) ?_
                  refine n_imul hx hb dL_halls_532 (z := 32 * b9) rfl ?_
                  refine n_iadd hx hb dL_halls_533 (z := a9 + (32 * b9)) rfl ?_
                  refine n_icmp_eq (tgt := 541) hx hb dL_halls_534 (by decide) (by have f1 : T 8 k ≤ 16777215 := hT.1 8 k; omega) (by have f1 := ha9; have f2 := hb9; omega) (fun c_412 => ?_) (fun c_412 => ?_)
                  · refine lv_iconst (v := nI 0) hx hb dL_halls_541 (by decide) ?_
                    refine lv_iand hx hb dL_halls_542 ?_
                    rw [bi_and0]
                    refine lv_istore (lv' := [(19, .int (bi false)), (0, .ref h), (1, .int (nI act)), (2, .int y), (3, .int z), (4, .ref (ad 1)), (5, .ref (ad 2)), (6, .ref (ad 3)), (7, .ref (ad 4)), (8, .ref (ad 5)), (9, .ref (ad 6)), (10, .ref (ad 7)), (11, .ref (ad 8)), (12, .ref (ad 9)), (13, .ref (ad 11)), (14, .int (nI a9)), (15, .int (nI b9)), (16, .int (nI gd9)), (17, .int (nI (4 * (T 7 a9 % 4) + b9))), (20, .int (nI k))]) hx hb dL_halls_543 hl (by decide) rfl (fun ls hl => ?_)
                    refine n_iinc (k := 19) (lv' := [(20, .int (nI (k + 1))), (19, .int (bi false)), (0, .ref h), (1, .int (nI act)), (2, .int y), (3, .int z), (4, .ref (ad 1)), (5, .ref (ad 2)), (6, .ref (ad 3)), (7, .ref (ad 4)), (8, .ref (ad 5)), (9, .ref (ad 6)), (10, .ref (ad 7)), (11, .ref (ad 8)), (12, .ref (ad 9)), (13, .ref (ad 11)), (14, .int (nI a9)), (15, .int (nI b9)), (16, .int (nI gd9)), (17, .int (nI (4 * (T 7 a9 % 4) + b9)))]) hx hb dL_halls_545 hl rfl (by decide) rfl (fun ls hl => ?_)
                    refine lv_goto (tgt := 507) hx hb dL_halls_548 (by decide) ?_
                    have e_413 : t_mcf T a9 b9 gd9 (k + 1) = false := by first | (rw [t_mcf, decide_eq_true (by omega), Bool.and_true]; done) | (rw [t_mcf, decide_eq_false (by omega), Bool.and_false]; done)
                    refine ih_388 (by omega) ls ?_
                    show lv_has ls 21 [(0, .ref h), (1, .int (nI act)), (2, .int y), (3, .int z), (4, .ref (ad 1)), (5, .ref (ad 2)), (6, .ref (ad 3)), (7, .ref (ad 4)), (8, .ref (ad 5)), (9, .ref (ad 6)), (10, .ref (ad 7)), (11, .ref (ad 8)), (12, .ref (ad 9)), (13, .ref (ad 11)), (14, .int (nI a9)), (15, .int (nI b9)), (16, .int (nI gd9)), (17, .int (nI (4 * (T 7 a9 % 4) + b9))), (19, .int (bi (t_mcf T a9 b9 gd9 (k + 1)))), (20, .int (nI (k + 1)))]
                    rw [e_413]
                    exact lv_sub hl [2, 3, 4, 5, 6, 7, 8, 9, 10, 11, 12, 13, 14, 15, 16, 17, 18, 19, 1, 0] rfl
                  · refine lv_iconst (v := nI 1) hx hb dL_halls_537 (by decide) ?_
                    refine lv_goto (tgt := 542) hx hb dL_halls_538 (by decide) ?_
                    refine lv_iand hx hb dL_halls_542 ?_
                    rw [bi_and1]
                    refine lv_istore (lv' := [(19, .int (bi (t_mcf T a9 b9 gd9 k))), (0, .ref h), (1, .int (nI act)), (2, .int y), (3, .int z), (4, .ref (ad 1)), (5, .ref (ad 2)), (6, .ref (ad 3)), (7, .ref (ad 4)), (8, .ref (ad 5)), (9, .ref (ad 6)), (10, .ref (ad 7)), (11, .ref (ad 8)), (12, .ref (ad 9)), (13, .ref (ad 11)), (14, .int (nI a9)), (15, .int (nI b9)), (16, .int (nI gd9)), (17, .int (nI (4 * (T 7 a9 % 4) + b9))), (20, .int (nI k))]) hx hb dL_halls_543 hl (by decide) rfl (fun ls hl => ?_)
                    refine n_iinc (k := 19) (lv' := [(20, .int (nI (k + 1))), (19, .int (bi (t_mcf T a9 b9 gd9 k))), (0, .ref h), (1, .int (nI act)), (2, .int y), (3, .int z), (4, .ref (ad 1)), (5, .ref (ad 2)), (6, .ref (ad 3)), (7, .ref (ad 4)), (8, .ref (ad 5)), (9, .ref (ad 6)), (10, .ref (ad 7)), (11, .ref (ad 8)), (12, .ref (ad 9)), (13, .ref (ad 11)), (14, .int (nI a9)), (15, .int (nI b9)), (16, .int (nI gd9)), (17, .int (nI (4 * (T 7 a9 % 4) + b9)))]) hx hb dL_halls_545 hl rfl (by decide) rfl (fun ls hl => ?_)
                    refine lv_goto (tgt := 507) hx hb dL_halls_548 (by decide) ?_
                    have e_414 : t_mcf T a9 b9 gd9 (k + 1) = t_mcf T a9 b9 gd9 k := by first | (rw [t_mcf, decide_eq_true (by omega), Bool.and_true]; done) | (rw [t_mcf, decide_eq_false (by omega), Bool.and_false]; done)
                    refine ih_388 (by omega) ls ?_
                    show lv_has ls 21 [(0, .ref h), (1, .int (nI act)), (2, .int y), (3, .int z), (4, .ref (ad 1)), (5, .ref (ad 2)), (6, .ref (ad 3)), (7, .ref (ad 4)), (8, .ref (ad 5)), (9, .ref (ad 6)), (10, .ref (ad 7)), (11, .ref (ad 8)), (12, .ref (ad 9)), (13, .ref (ad 11)), (14, .int (nI a9)), (15, .int (nI b9)), (16, .int (nI gd9)), (17, .int (nI (4 * (T 7 a9 % 4) + b9))), (19, .int (bi (t_mcf T a9 b9 gd9 (k + 1)))), (20, .int (nI (k + 1)))]
                    rw [e_414]
                    exact lv_sub hl [2, 3, 4, 5, 6, 7, 8, 9, 10, 11, 12, 13, 14, 15, 16, 17, 18, 19, 1, 0] rfl
              · have hk9 := hk_386
                refine lv_aload hx hb dL_halls_438 (lv_at hl 10 rfl) ?_
                refine lv_iload hx hb dL_halls_440 (lv_at hl 14 rfl) ?_
                refine vp_callSi (W.runS (As := [.ref (ad 7), .int (nI a9)]) (rest := []) ⟨hx, hb, hml, hown, hts⟩ (ch_gone l D ad cI T hT a9 (by have f1 := ha9; omega)) (va_cwS 2 hts gL_halls_L_gone rfl rfl rfl kd_L_gone ⟨Nat.le_of_ble_eq_true rfl, Nat.le_of_ble_eq_true rfl⟩) ⟨aB_blind, a_pre hKa hPa _⟩ rfl rfl hl.1 rfl (lv_room (Nat.le_of_ble_eq_true rfl)) dL_halls_442 ⟨Nat.le_of_ble_eq_true rfl, Nat.le_of_ble_eq_true rfl⟩) (fun r_415 hr_415 => ?_)
                subst hr_415
                refine b_if_ne (tgt := 501) hx hb dL_halls_445 (by decide)  (fun c_416 => ?_) (fun c_416 => ?_)
                · refine lv_iconst (v := nI 0) hx hb dL_halls_501 (by decide) ?_
                  refine lv_istore (lv' := [(19, .int (nI 0)), (0, .ref h), (1, .int (nI act)), (2, .int y), (3, .int z), (4, .ref (ad 1)), (5, .ref (ad 2)), (6, .ref (ad 3)), (7, .ref (ad 4)), (8, .ref (ad 5)), (9, .ref (ad 6)), (10, .ref (ad 7)), (11, .ref (ad 8)), (12, .ref (ad 9)), (13, .ref (ad 11)), (14, .int (nI a9)), (15, .int (nI b9)), (16, .int (nI gd9)), (17, .int (nI (4 * (T 7 a9 % 4) + b9))), (18, .int (bi (t_lcf T (4 * (T 7 a9 % 4) + b9) (T 11 3))))]) hx hb dL_halls_502 hl (by decide) rfl (fun ls hl => ?_)
                  have ej : nI 0 = bi false := rfl
                  rw [ej] at hl
                  exact hk_386 false (by first | (simp [t_m0, c_1, c_4, c_354, c_385, c_416]; done) | (simp [t_m0, c_1, c_4, c_354, c_385, c_416]; omega)) ls (lv_sub hl [0, 1, 2, 3, 4, 5, 6, 7, 8, 9, 10, 11, 12, 13, 14, 15, 16, 17, 18, 19] rfl)
                · refine lv_aload hx hb dL_halls_448 (lv_at hl 13 rfl) ?_
                  refine lv_iconst (v := nI 0) hx hb dL_halls_450 (by decide) ?_
                  refine a_iald (f := 11) (n := 7) hx hb hKa hPa rfl (by decide) (by decide) dL_halls_451 ?_
                  refine lv_aload hx hb dL_halls_452 (lv_at hl 4 rfl) ?_
                  refine lv_aload hx hb dL_halls_454 (lv_at hl 10 rfl) ?_
                  refine lv_iload hx hb dL_halls_456 (lv_at hl 14 rfl) ?_
                  refine vp_callSi (W.runS (As := [.ref (ad 1), .ref (ad 7), .int (nI a9)]) (rest := [.int (nI (T 11 0))]) ⟨hx, hb, hml, hown, hts⟩ (ch_stands l D ad cI T hT a9 (by have f1 := ha9; omega)) (va_cwS 3 hts gL_halls_L_stands rfl rfl rfl kd_L_stands ⟨Nat.le_of_ble_eq_true rfl, Nat.le_of_ble_eq_true rfl⟩) ⟨aB_blind, a_pre hKa hPa _⟩ rfl rfl hl.1 rfl (lv_room (Nat.le_of_ble_eq_true rfl)) dL_halls_458 ⟨Nat.le_of_ble_eq_true rfl, Nat.le_of_ble_eq_true rfl⟩) (fun r_417 hr_417 => ?_)
                  subst hr_417
                  refine n_icmp_ge (tgt := 501) hx hb dL_halls_461 (by decide) (by have f1 : T 11 0 ≤ 2000 := hT.1 11 0; omega) (by have f1 : t_su T a9 ≤ 4200 := t_su_le hT a9; omega) (fun c_418 => ?_) (fun c_418 => ?_)
                  · refine lv_iconst (v := nI 0) hx hb dL_halls_501 (by decide) ?_
                    refine lv_istore (lv' := [(19, .int (nI 0)), (0, .ref h), (1, .int (nI act)), (2, .int y), (3, .int z), (4, .ref (ad 1)), (5, .ref (ad 2)), (6, .ref (ad 3)), (7, .ref (ad 4)), (8, .ref (ad 5)), (9, .ref (ad 6)), (10, .ref (ad 7)), (11, .ref (ad 8)), (12, .ref (ad 9)), (13, .ref (ad 11)), (14, .int (nI a9)), (15, .int (nI b9)), (16, .int (nI gd9)), (17, .int (nI (4 * (T 7 a9 % 4) + b9))), (18, .int (bi (t_lcf T (4 * (T 7 a9 % 4) + b9) (T 11 3))))]) hx hb dL_halls_502 hl (by decide) rfl (fun ls hl => ?_)
                    have ej : nI 0 = bi false := rfl
                    rw [ej] at hl
                    exact hk_386 false (by first | (simp [t_m0, c_1, c_4, c_354, c_385, c_416, c_418]; done) | (simp [t_m0, c_1, c_4, c_354, c_385, c_416, c_418]; omega)) ls (lv_sub hl [0, 1, 2, 3, 4, 5, 6, 7, 8, 9, 10, 11, 12, 13, 14, 15, 16, 17, 18, 19] rfl)
                  · refine lv_aload hx hb dL_halls_464 (lv_at hl 6 rfl) ?_
                    refine lv_iload hx hb dL_halls_466 (lv_at hl 17 rfl) ?_
                    refine a_iald (f := 3) (n := 16) hx hb hKa hPa rfl (by have f1 := hb9; omega) (by decide) dL_halls_468 ?_
                    refine n_if_le (tgt := 501) hx hb dL_halls_469 (by decide) (by have f1 := hb9; have f2 : T 3 (4 * (T 7 a9 % 4) + b9) ≤ 134217727 := hT.1 3 (4 * (T 7 a9 % 4) + b9); omega) (fun c_419 => ?_) (fun c_419 => ?_)
                    · refine lv_iconst (v := nI 0) hx hb dL_halls_501 (by decide) ?_
                      refine lv_istore (lv' := [(19, .int (nI 0)), (0, .ref h), (1, .int (nI act)), (2, .int y), (3, .int z), (4, .ref (ad 1)), (5, .ref (ad 2)), (6, .ref (ad 3)), (7, .ref (ad 4)), (8, .ref (ad 5)), (9, .ref (ad 6)), (10, .ref (ad 7)), (11, .ref (ad 8)), (12, .ref (ad 9)), (13, .ref (ad 11)), (14, .int (nI a9)), (15, .int (nI b9)), (16, .int (nI gd9)), (17, .int (nI (4 * (T 7 a9 % 4) + b9))), (18, .int (bi (t_lcf T (4 * (T 7 a9 % 4) + b9) (T 11 3))))]) hx hb dL_halls_502 hl (by decide) rfl (fun ls hl => ?_)
                      have ej : nI 0 = bi false := rfl
                      rw [ej] at hl
                      exact hk_386 false (by first | (simp [t_m0, c_4, c_354, c_385, c_416, c_418, c_419]; done) | (simp [t_m0, c_4, c_354, c_385, c_416, c_418, c_419]; omega)) ls (lv_sub hl [0, 1, 2, 3, 4, 5, 6, 7, 8, 9, 10, 11, 12, 13, 14, 15, 16, 17, 18, 19] rfl)
                    · refine lv_aload hx hb dL_halls_472 (lv_at hl 10 rfl) ?_
                      refine lv_iload hx hb dL_halls_474 (lv_at hl 14 rfl) ?_
                      refine a_iald (f := 7) (n := 32) hx hb hKa hPa rfl (by have f1 := ha9; omega) (by decide) dL_halls_476 ?_
                      refine lv_iconst (v := nI 2) hx hb dL_halls_477 (by decide) ?_
                      refine lv_ishr hx hb dL_halls_478 ?_
                      rw [show (nI (T 7 a9)) >>> ((nI 2) &&& 31) = nI ((T 7 a9) / 4) from n_shrK (by have f1 := ha9; have f2 : T 7 a9 ≤ 16777215 := hT.1 7 a9; omega) (by decide) rfl]
                      refine lv_iconst (v := nI 3) hx hb dL_halls_479 (by decide) ?_
                      refine lv_iand hx hb dL_halls_480 ?_
                      rw [show (nI ((T 7 a9) / 4)) &&& (nI 3) = nI (((T 7 a9) / 4) % 4) from n_andK (k := 2) (by have f1 := ha9; have f2 : T 7 a9 ≤ 16777215 := hT.1 7 a9; omega) (by decide) (by decide) rfl]
                      refine lv_iload hx hb dL_halls_481 (lv_at hl 15 rfl) ?_
                      refine n_icmp_eq (tgt := 501) hx hb dL_halls_483 (by decide) (by have f1 := ha9; have f2 : T 7 a9 ≤ 16777215 := hT.1 7 a9; omega) (by have f1 := hb9; omega) (fun c_420 => ?_) (fun c_420 => ?_)
                      · refine lv_iconst (v := nI 0) hx hb dL_halls_501 (by decide) ?_
                        refine lv_istore (lv' := [(19, .int (nI 0)), (0, .ref h), (1, .int (nI act)), (2, .int y), (3, .int z), (4, .ref (ad 1)), (5, .ref (ad 2)), (6, .ref (ad 3)), (7, .ref (ad 4)), (8, .ref (ad 5)), (9, .ref (ad 6)), (10, .ref (ad 7)), (11, .ref (ad 8)), (12, .ref (ad 9)), (13, .ref (ad 11)), (14, .int (nI a9)), (15, .int (nI b9)), (16, .int (nI gd9)), (17, .int (nI (4 * (T 7 a9 % 4) + b9))), (18, .int (bi (t_lcf T (4 * (T 7 a9 % 4) + b9) (T 11 3))))]) hx hb dL_halls_502 hl (by decide) rfl (fun ls hl => ?_)
                        have ej : nI 0 = bi false := rfl
                        rw [ej] at hl
                        exact hk_386 false (by first | (simp [t_m0, c_354, c_385, c_416, c_418, c_419, c_420]; done) | (simp [t_m0, c_354, c_385, c_416, c_418, c_419, c_420]; omega)) ls (lv_sub hl [0, 1, 2, 3, 4, 5, 6, 7, 8, 9, 10, 11, 12, 13, 14, 15, 16, 17, 18, 19] rfl)
                      · refine lv_iload hx hb dL_halls_486 (lv_at hl 16 rfl) ?_
                        refine lv_iconst (v := nI 2) hx hb dL_halls_488 (by decide) ?_
                        refine n_icmp_lt (tgt := 497) hx hb dL_halls_489 (by decide) (by have f1 := hgd9; omega) (by decide) (fun c_421 => ?_) (fun c_421 => ?_)
                        · refine lv_iconst (v := nI 1) hx hb dL_halls_497 (by decide) ?_
                          refine lv_goto (tgt := 502) hx hb dL_halls_498 (by decide) ?_
                          refine lv_istore (lv' := [(19, .int (nI 1)), (0, .ref h), (1, .int (nI act)), (2, .int y), (3, .int z), (4, .ref (ad 1)), (5, .ref (ad 2)), (6, .ref (ad 3)), (7, .ref (ad 4)), (8, .ref (ad 5)), (9, .ref (ad 6)), (10, .ref (ad 7)), (11, .ref (ad 8)), (12, .ref (ad 9)), (13, .ref (ad 11)), (14, .int (nI a9)), (15, .int (nI b9)), (16, .int (nI gd9)), (17, .int (nI (4 * (T 7 a9 % 4) + b9))), (18, .int (bi (t_lcf T (4 * (T 7 a9 % 4) + b9) (T 11 3))))]) hx hb dL_halls_502 hl (by decide) rfl (fun ls hl => ?_)
                          have ej : nI 1 = bi true := rfl
                          rw [ej] at hl
                          exact hk_386 true (by first | (simp [t_m0, c_385, c_416, c_418, c_419, c_420, c_421]; done) | (simp [t_m0, c_385, c_416, c_418, c_419, c_420, c_421]; omega)) ls (lv_sub hl [0, 1, 2, 3, 4, 5, 6, 7, 8, 9, 10, 11, 12, 13, 14, 15, 16, 17, 18, 19] rfl)
                        · refine lv_iload hx hb dL_halls_492 (lv_at hl 18 rfl) ?_
                          refine b_if_eq (tgt := 501) hx hb dL_halls_494 (by decide)  (fun c_422 => ?_) (fun c_422 => ?_)
                          · refine lv_iconst (v := nI 0) hx hb dL_halls_501 (by decide) ?_
                            refine lv_istore (lv' := [(19, .int (nI 0)), (0, .ref h), (1, .int (nI act)), (2, .int y), (3, .int z), (4, .ref (ad 1)), (5, .ref (ad 2)), (6, .ref (ad 3)), (7, .ref (ad 4)), (8, .ref (ad 5)), (9, .ref (ad 6)), (10, .ref (ad 7)), (11, .ref (ad 8)), (12, .ref (ad 9)), (13, .ref (ad 11)), (14, .int (nI a9)), (15, .int (nI b9)), (16, .int (nI gd9)), (17, .int (nI (4 * (T 7 a9 % 4) + b9))), (18, .int (bi (t_lcf T (4 * (T 7 a9 % 4) + b9) (T 11 3))))]) hx hb dL_halls_502 hl (by decide) rfl (fun ls hl => ?_)
                            have ej : nI 0 = bi false := rfl
                            rw [ej] at hl
                            exact hk_386 false (by first | (simp [t_m0, c_416, c_418, c_419, c_420, c_421, c_422]; done) | (simp [t_m0, c_416, c_418, c_419, c_420, c_421, c_422]; omega)) ls (lv_sub hl [0, 1, 2, 3, 4, 5, 6, 7, 8, 9, 10, 11, 12, 13, 14, 15, 16, 17, 18, 19] rfl)
                          · refine lv_iconst (v := nI 1) hx hb dL_halls_497 (by decide) ?_
                            refine lv_goto (tgt := 502) hx hb dL_halls_498 (by decide) ?_
                            refine lv_istore (lv' := [(19, .int (nI 1)), (0, .ref h), (1, .int (nI act)), (2, .int y), (3, .int z), (4, .ref (ad 1)), (5, .ref (ad 2)), (6, .ref (ad 3)), (7, .ref (ad 4)), (8, .ref (ad 5)), (9, .ref (ad 6)), (10, .ref (ad 7)), (11, .ref (ad 8)), (12, .ref (ad 9)), (13, .ref (ad 11)), (14, .int (nI a9)), (15, .int (nI b9)), (16, .int (nI gd9)), (17, .int (nI (4 * (T 7 a9 % 4) + b9))), (18, .int (bi (t_lcf T (4 * (T 7 a9 % 4) + b9) (T 11 3))))]) hx hb dL_halls_502 hl (by decide) rfl (fun ls hl => ?_)
                            have ej : nI 1 = bi true := rfl
                            rw [ej] at hl
                            exact hk_386 true (by first | (simp [t_m0, c_416, c_418, c_419, c_420, c_421, c_422]; done) | (simp [t_m0, c_416, c_418, c_419, c_420, c_421, c_422]; omega)) ls (lv_sub hl [0, 1, 2, 3, 4, 5, 6, 7, 8, 9, 10, 11, 12, 13, 14, 15, 16, 17, 18, 19] rfl)
            · refine lv_iload hx hb dL_halls_408 (lv_at hl 18 rfl) ?_
              refine lv_aload hx hb dL_halls_410 (lv_at hl 9 rfl) ?_
              refine lv_iload hx hb dL_halls_412 (lv_at hl 19 rfl) ?_
              refine a_iald (f := 6) (n := 60) hx hb hKa hPa rfl (by omega) (by decide) dL_halls_414 ?_
              refine lv_iconst (v := nI 2) hx hb dL_halls_415 (by decide) ?_
              refine lv_iconst (v := nI 4) hx hb dL_halls_416 (by decide) ?_
              refine lv_iload hx hb dL_halls_417 (lv_at hl 17 rfl) ?_
              refine n_imul hx hb dL_halls_419 (z := 4 * (4 * (T 7 a9 % 4) + b9)) rfl ?_
              refine n_iadd hx hb dL_halls_420 (z := 2 + (4 * (4 * (T 7 a9 % 4) + b9))) rfl ?_
              refine n_icmp_eq (tgt := 428) hx hb dL_halls_421 (by decide) (by have f1 : T 6 k ≤ 8191 := hT.1 6 k; omega) (by have f1 := hb9; omega) (fun c_423 => ?_) (fun c_423 => ?_)
              · refine lv_iconst (v := nI 0) hx hb dL_halls_428 (by decide) ?_
                refine lv_iand hx hb dL_halls_429 ?_
                rw [bi_and0]
                refine lv_istore (lv' := [(18, .int (bi false)), (0, .ref h), (1, .int (nI act)), (2, .int y), (3, .int z), (4, .ref (ad 1)), (5, .ref (ad 2)), (6, .ref (ad 3)), (7, .ref (ad 4)), (8, .ref (ad 5)), (9, .ref (ad 6)), (10, .ref (ad 7)), (11, .ref (ad 8)), (12, .ref (ad 9)), (13, .ref (ad 11)), (14, .int (nI a9)), (15, .int (nI b9)), (16, .int (nI gd9)), (17, .int (nI (4 * (T 7 a9 % 4) + b9))), (19, .int (nI k))]) hx hb dL_halls_430 hl (by decide) rfl (fun ls hl => ?_)
                refine n_iinc (k := 19) (lv' := [(19, .int (nI (k + 1))), (18, .int (bi false)), (0, .ref h), (1, .int (nI act)), (2, .int y), (3, .int z), (4, .ref (ad 1)), (5, .ref (ad 2)), (6, .ref (ad 3)), (7, .ref (ad 4)), (8, .ref (ad 5)), (9, .ref (ad 6)), (10, .ref (ad 7)), (11, .ref (ad 8)), (12, .ref (ad 9)), (13, .ref (ad 11)), (14, .int (nI a9)), (15, .int (nI b9)), (16, .int (nI gd9)), (17, .int (nI (4 * (T 7 a9 % 4) + b9)))]) hx hb dL_halls_432 hl rfl (by decide) rfl (fun ls hl => ?_)
                refine lv_goto (tgt := 399) hx hb dL_halls_435 (by decide) ?_
                have e_424 : t_lcf T (4 * (T 7 a9 % 4) + b9) (k + 1) = false := by first | (rw [t_lcf, decide_eq_true (by omega), Bool.and_true]; done) | (rw [t_lcf, decide_eq_false (by omega), Bool.and_false]; done)
                refine ih_382 (by omega) ls ?_
                show lv_has ls 21 [(0, .ref h), (1, .int (nI act)), (2, .int y), (3, .int z), (4, .ref (ad 1)), (5, .ref (ad 2)), (6, .ref (ad 3)), (7, .ref (ad 4)), (8, .ref (ad 5)), (9, .ref (ad 6)), (10, .ref (ad 7)), (11, .ref (ad 8)), (12, .ref (ad 9)), (13, .ref (ad 11)), (14, .int (nI a9)), (15, .int (nI b9)), (16, .int (nI gd9)), (17, .int (nI (4 * (T 7 a9 % 4) + b9))), (18, .int (bi (t_lcf T (4 * (T 7 a9 % 4) + b9) (k + 1)))), (19, .int (nI (k + 1)))]
                rw [e_424]
                exact lv_sub hl [2, 3, 4, 5, 6, 7, 8, 9, 10, 11, 12, 13, 14, 15, 16, 17, 18, 19, 1, 0] rfl
              · refine lv_iconst (v := nI 1) hx hb dL_halls_424 (by decide) ?_
                refine lv_goto (tgt := 429) hx hb dL_halls_425 (by decide) ?_
                refine lv_iand hx hb dL_halls_429 ?_
                rw [bi_and1]
                refine lv_istore (lv' := [(18, .int (bi (t_lcf T (4 * (T 7 a9 % 4) + b9) k))), (0, .ref h), (1, .int (nI act)), (2, .int y), (3, .int z), (4, .ref (ad 1)), (5, .ref (ad 2)), (6, .ref (ad 3)), (7, .ref (ad 4)), (8, .ref (ad 5)), (9, .ref (ad 6)), (10, .ref (ad 7)), (11, .ref (ad 8)), (12, .ref (ad 9)), (13, .ref (ad 11)), (14, .int (nI a9)), (15, .int (nI b9)), (16, .int (nI gd9)), (17, .int (nI (4 * (T 7 a9 % 4) + b9))), (19, .int (nI k))]) hx hb dL_halls_430 hl (by decide) rfl (fun ls hl => ?_)
                refine n_iinc (k := 19) (lv' := [(19, .int (nI (k + 1))), (18, .int (bi (t_lcf T (4 * (T 7 a9 % 4) + b9) k))), (0, .ref h), (1, .int (nI act)), (2, .int y), (3, .int z), (4, .ref (ad 1)), (5, .ref (ad 2)), (6, .ref (ad 3)), (7, .ref (ad 4)), (8, .ref (ad 5)), (9, .ref (ad 6)), (10, .ref (ad 7)), (11, .ref (ad 8)), (12, .ref (ad 9)), (13, .ref (ad 11)), (14, .int (nI a9)), (15, .int (nI b9)), (16, .int (nI gd9)), (17, .int (nI (4 * (T 7 a9 % 4) + b9)))]) hx hb dL_halls_432 hl rfl (by decide) rfl (fun ls hl => ?_)
                refine lv_goto (tgt := 399) hx hb dL_halls_435 (by decide) ?_
                have e_425 : t_lcf T (4 * (T 7 a9 % 4) + b9) (k + 1) = t_lcf T (4 * (T 7 a9 % 4) + b9) k := by first | (rw [t_lcf, decide_eq_true (by omega), Bool.and_true]; done) | (rw [t_lcf, decide_eq_false (by omega), Bool.and_false]; done)
                refine ih_382 (by omega) ls ?_
                show lv_has ls 21 [(0, .ref h), (1, .int (nI act)), (2, .int y), (3, .int z), (4, .ref (ad 1)), (5, .ref (ad 2)), (6, .ref (ad 3)), (7, .ref (ad 4)), (8, .ref (ad 5)), (9, .ref (ad 6)), (10, .ref (ad 7)), (11, .ref (ad 8)), (12, .ref (ad 9)), (13, .ref (ad 11)), (14, .int (nI a9)), (15, .int (nI b9)), (16, .int (nI gd9)), (17, .int (nI (4 * (T 7 a9 % 4) + b9))), (18, .int (bi (t_lcf T (4 * (T 7 a9 % 4) + b9) (k + 1)))), (19, .int (nI (k + 1)))]
                rw [e_425]
                exact lv_sub hl [2, 3, 4, 5, 6, 7, 8, 9, 10, 11, 12, 13, 14, 15, 16, 17, 18, 19, 1, 0] rfl
          · have hk9 := hk_379
            refine lv_aload hx hb dL_halls_380 (lv_at hl 12 rfl) ?_
            refine lv_iload hx hb dL_halls_382 (lv_at hl 0 rfl) ?_
            refine a_iald (f := 5) (n := 16) hx hb hKa hPa rfl (by have f1 := ha9; have f2 : T 7 a9 ≤ 16777215 := hT.1 7 a9; have f3 := hb9; omega) (by decide) dL_halls_384 ?_
            refine lv_iconst (v := nI 1) hx hb dL_halls_385 (by decide) ?_
            refine n_icmp_ne (tgt := 393) hx hb dL_halls_386 (by decide) (by have f1 := ha9; have f2 : T 7 a9 ≤ 16777215 := hT.1 7 a9; have f3 := hb9; have f4 : T 5 ((4 * ((T 7 a9) % 4)) + b9) ≤ 1 := hT.1 5 ((4 * ((T 7 a9) % 4)) + b9); omega) (by decide) (fun c_426 => ?_) (fun c_426 => ?_)
            · refine lv_iconst (v := nI 0) hx hb dL_halls_393 (by decide) ?_
              refine lv_istore (lv' := [(18, .int (nI 0)), (17, .int (nI ((4 * ((T 7 a9) % 4)) + b9))), (16, .int (nI gd9)), (15, .int (nI b9)), (14, .int (nI a9)), (0, .ref h), (1, .int (nI act)), (2, .int y), (3, .int z), (4, .ref (ad 1)), (5, .ref (ad 2)), (6, .ref (ad 3)), (7, .ref (ad 4)), (8, .ref (ad 5)), (9, .ref (ad 6)), (10, .ref (ad 7)), (11, .ref (ad 8)), (12, .ref (ad 9)), (13, .ref (ad 11))]) hx hb dL_halls_394 hl (by decide) rfl (fun ls hl => ?_)
              have ej : nI 0 = bi false := rfl
              rw [ej] at hl
              exact hk_379 false (by first | (rw [decide_eq_true (by assumption)]) | (rw [decide_eq_false (by assumption)])) ls (lv_sub hl [0, 1, 2, 3, 4, 5, 6, 7, 8, 9, 10, 11, 12, 13, 14, 15, 16, 17, 18] rfl)
            · refine lv_iconst (v := nI 1) hx hb dL_halls_389 (by decide) ?_
              refine lv_goto (tgt := 394) hx hb dL_halls_390 (by decide) ?_
              refine lv_istore (lv' := [(18, .int (nI 1)), (17, .int (nI ((4 * ((T 7 a9) % 4)) + b9))), (16, .int (nI gd9)), (15, .int (nI b9)), (14, .int (nI a9)), (0, .ref h), (1, .int (nI act)), (2, .int y), (3, .int z), (4, .ref (ad 1)), (5, .ref (ad 2)), (6, .ref (ad 3)), (7, .ref (ad 4)), (8, .ref (ad 5)), (9, .ref (ad 6)), (10, .ref (ad 7)), (11, .ref (ad 8)), (12, .ref (ad 9)), (13, .ref (ad 11))]) hx hb dL_halls_394 hl (by decide) rfl (fun ls hl => ?_)
              have ej : nI 1 = bi true := rfl
              rw [ej] at hl
              exact hk_379 true (by first | (rw [decide_eq_true (by assumption)]) | (rw [decide_eq_false (by assumption)])) ls (lv_sub hl [0, 1, 2, 3, 4, 5, 6, 7, 8, 9, 10, 11, 12, 13, 14, 15, 16, 17, 18] rfl)
        · refine lv_aload_n hx hb dL_halls_272 rfl (lv_at hl 3 rfl) ?_
          refine lv_iload hx hb dL_halls_273 (lv_at hl 1 rfl) ?_
          refine lv_iload hx hb dL_halls_275 (lv_at hl 2 rfl) ?_
          refine lv_iconst (v := nI 3) hx hb dL_halls_277 (by decide) ?_
          refine va_calli (vx_runSW (As := [.ref h, .int (nI b9), .int (nI a9), .int (nI 3)]) (rest := []) ⟨hx, hb, hml, hown, hts⟩ (cw_complain l hst D cI cO cb eA mi st dO dT vF ws hc hM hsI (nI b9) (nI a9) (nI 3)) (vx_cwSW 4 hts gL_halls_L_complain rfl rfl rfl kd_L_complain ⟨Nat.le_of_ble_eq_true rfl, Nat.le_of_ble_eq_true rfl⟩) ⟨kB_blind, kB_pre hK hG hGT hN (fun q h9 => Or.inl h9) hS (fun q h9 => hA q (Nat.le_trans hS.1 h9)) hPw _⟩ rfl rfl hl.1 rfl (lv_room (Nat.le_of_ble_eq_true rfl)) dL_halls_278 ⟨by show 0 + 4 ≤ 40; omega, by show 0 + 114 ≤ 1000; omega⟩) hS (fun _ _ h9 => Or.inl h9) (fun _ h9 => Or.inl h9) (fun r_427 ws_428 U8 H_432 locs_433 ht hvm hu_431 hB hz1 hk1 hS1 => ?_)
          obtain ⟨hr_429, hc_430⟩ := hu_431
          replace hB : va_P D vwCl ws_428 U8.heap := hB
          rw [ht] at hB
          replace hPa := aP_keep hPa hdB hAB hk1
          clear hPw hS
          have hPw := hB
          have hS := hS1
          clear hB hS1 hz1 hk1 hvm ht U8
          have hk_434 : k_complain M (nI b9) (nI a9) (nI 3) = 1 := by exact cmp_1a (by omega) (by omega) (by omega)
          rw [keep_complain (by rw [hk_434]; decide)] at hc_430
          rw [hk_434] at hr_429
          replace hr_429 : r_427 = (-7100) := hr_429
          subst hr_429
          refine lv_sipush (v := (-7100)) hx hb dL_halls_281 (by decide) ?_
          refine lv_icmp_ne (tgt := 317) hx hb dL_halls_284 (by decide)  (fun c9 => absurd c9 (by decide)) (fun _ => ?_)
          refine lv_aload_n hx hb dL_halls_287 rfl (lv_at hl 3 rfl) ?_
          refine lv_bipush (v := nI 8) hx hb dL_halls_288 (by decide) ?_
          refine lv_iconst (v := nI 0) hx hb dL_halls_290 (by decide) ?_
          refine lv_iconst (v := nI 0) hx hb dL_halls_291 (by decide) ?_
          refine va_calli (vx_runSW (As := [.ref h, .int (nI 8), .int (nI 0), .int (nI 0)]) (rest := []) ⟨hx, hb, hml, hown, hts⟩ (cw_complain l hst D cI cO cb eA mi st dO dT vF ws_428 hc_430 hM hsI (nI 8) (nI 0) (nI 0)) (vx_cwSW 4 hts gL_halls_L_complain rfl rfl rfl kd_L_complain ⟨Nat.le_of_ble_eq_true rfl, Nat.le_of_ble_eq_true rfl⟩) ⟨kB_blind, kB_pre hK hG hGT hN (fun q h9 => Or.inl h9) hS (fun q h9 => hA q (Nat.le_trans hS.1 h9)) hPw _⟩ rfl rfl hl.1 rfl (lv_room (Nat.le_of_ble_eq_true rfl)) dL_halls_292 ⟨by show 4 + 4 ≤ 40; omega, by show 114 + 114 ≤ 1000; omega⟩) hS (fun _ _ h9 => Or.inl h9) (fun _ h9 => Or.inl h9) (fun r_435 ws_436 U8 H_440 locs_441 ht hvm hu_439 hB hz1 hk1 hS1 => ?_)
          obtain ⟨hr_437, hc_438⟩ := hu_439
          replace hB : va_P D vwCl ws_436 U8.heap := hB
          rw [ht] at hB
          replace hPa := aP_keep hPa hdB hAB hk1
          clear hPw hS
          have hPw := hB
          have hS := hS1
          clear hB hS1 hz1 hk1 hvm ht U8
          have hk_442 : k_complain M (nI 8) (nI 0) (nI 0) = 1 := by exact cmp_1b (by omega) (by omega)
          rw [keep_complain (by rw [hk_442]; decide)] at hc_438
          rw [hk_442] at hr_437
          replace hr_437 : r_435 = (-7100) := hr_437
          subst hr_437
          refine lv_sipush (v := (-7100)) hx hb dL_halls_295 (by decide) ?_
          refine lv_icmp_ne (tgt := 317) hx hb dL_halls_298 (by decide)  (fun c9 => absurd c9 (by decide)) (fun _ => ?_)
          refine lv_aload_n hx hb dL_halls_301 rfl (lv_at hl 3 rfl) ?_
          refine lv_iload hx hb dL_halls_302 (lv_at hl 2 rfl) ?_
          refine va_calli (vx_runSW (As := [.ref h, .int (nI a9)]) (rest := []) ⟨hx, hb, hml, hown, hts⟩ (cw_sign l hst D cI cO cb eA mi st dO dT vF ws_436 hc_438 hM hsI (nI a9)) (vx_cwSW 2 hts gL_halls_L_sign rfl rfl rfl kd_L_sign ⟨Nat.le_of_ble_eq_true rfl, Nat.le_of_ble_eq_true rfl⟩) ⟨kB_blind, kB_pre hK hG hGT hN (fun q h9 => Or.inl h9) hS (fun q h9 => hA q (Nat.le_trans hS.1 h9)) hPw _⟩ rfl rfl hl.1 rfl (lv_room (Nat.le_of_ble_eq_true rfl)) dL_halls_304 ⟨by show 8 + 4 ≤ 40; omega, by show 228 + 120 ≤ 1000; omega⟩) hS (fun _ _ h9 => Or.inl h9) (fun _ h9 => Or.inl h9) (fun r_443 ws_444 U8 H_448 locs_449 ht hvm hu_447 hB hz1 hk1 hS1 => ?_)
          obtain ⟨hr_445, hc_446⟩ := hu_447
          replace hB : va_P D vwCl ws_444 U8.heap := hB
          rw [ht] at hB
          replace hPa := aP_keep hPa hdB hAB hk1
          clear hPw hS
          have hPw := hB
          have hS := hS1
          clear hB hS1 hz1 hk1 hvm ht U8
          have hk_450 : k_sign M (nI a9) = 1 := by exact sig_1 (by omega) (by omega) (by omega)
          rw [keep_sign (by rw [hk_450]; decide)] at hc_446
          rw [hk_450] at hr_445
          replace hr_445 : r_443 = (-7100) := hr_445
          subst hr_445
          refine lv_sipush (v := (-7100)) hx hb dL_halls_307 (by decide) ?_
          refine lv_icmp_ne (tgt := 317) hx hb dL_halls_310 (by decide)  (fun c9 => absurd c9 (by decide)) (fun _ => ?_)
          refine lv_iconst (v := nI 1) hx hb dL_halls_313 (by decide) ?_
          refine lv_goto (tgt := 318) hx hb dL_halls_314 (by decide) ?_
          have hLR : LR (M) (T) := by exact hR
          have hLT : LT (T) := by exact hT
          refine W.widen (k := 40) (n := 1000) (by omega) (by omega) ?_
          exact W.zret (v := nI 1) hx hb hr rfl (fun U9 ht9 hW9 => ⟨⟨_, (ws_444, M, T), rfl, ⟨rfl, hc_446, hM, hLB, Nat.le_succ_of_le h15, hLR, hLT⟩, by show va_P D vwCl _ U9.heap ∧ va_P D vwCl _ U9.heap; rw [ht9]; exact ⟨hPw, hPa⟩⟩, hS.F ht9⟩) hS.2.2 dL_halls_318
    · have hk9 := hk_3
      refine lv_iconst (v := nI 0) hx hb dL_halls_185 (by decide) ?_
      refine lv_istore (lv' := [(15, .int (nI 0)), (14, .int (nI aw0)), (0, .ref h), (1, .int (nI act)), (2, .int y), (3, .int z), (4, .ref (ad 1)), (5, .ref (ad 2)), (6, .ref (ad 3)), (7, .ref (ad 4)), (8, .ref (ad 5)), (9, .ref (ad 6)), (10, .ref (ad 7)), (11, .ref (ad 8)), (12, .ref (ad 9)), (13, .ref (ad 11))]) hx hb dL_halls_186 hl (by decide) rfl (fun ls hl => ?_)
      refine w_loopS (n := T 11 4) (nL := 21) (fun k x9 => [(0, .ref h), (1, .int (nI act)), (2, .int y), (3, .int z), (4, .ref (ad 1)), (5, .ref (ad 2)), (6, .ref (ad 3)), (7, .ref (ad 4)), (8, .ref (ad 5)), (9, .ref (ad 6)), (10, .ref (ad 7)), (11, .ref (ad 8)), (12, .ref (ad 9)), (13, .ref (ad 11)), (14, .int (nI x9)), (15, .int (nI k))]) (fun k x9 => x9 ≤ T 11 4) (fun k hb_451 x9 hJ_453 ih_452 ls hl => ?_) 0 (Nat.zero_le _) aw0 (by have f1 := haw0; omega) ls (lv_sub hl [2, 3, 4, 5, 6, 7, 8, 9, 10, 11, 12, 13, 14, 15, 1, 0] rfl)
      have hJ9 := hJ_453
      refine lv_iload hx hb dL_halls_188 (lv_at hl 15 rfl) ?_
      refine lv_aload hx hb dL_halls_190 (lv_at hl 13 rfl) ?_
      refine lv_iconst (v := nI 4) hx hb dL_halls_192 (by decide) ?_
      refine a_iald (f := 11) (n := 7) hx hb hKa hPa rfl (by decide) (by decide) dL_halls_193 ?_
      refine n_icmp_ge (tgt := 241) hx hb dL_halls_194 (by decide) (by omega) (by have f1 : T 11 4 ≤ 2000 := hT.1 11 4; have f2 : T 11 4 ≤ 32 := hT.2.2.2.1; omega) (fun c_454 => ?_) (fun c_454 => ?_)
      · exact hk_3 x9 (by have f1 := hJ9; omega) ls (lv_sub hl [14, 0, 1, 2, 3, 4, 5, 6, 7, 8, 9, 10, 11, 12, 13] rfl)
      · refine lv_iload_n hx hb dL_halls_197 rfl (lv_at hl 2 rfl) ?_
        refine lv_sipush (v := nI 768) hx hb dL_halls_198 (by decide) ?_
        refine lv_iand hx hb dL_halls_201 ?_
        refine lv_if_le (tgt := 241) hx hb dL_halls_202 (by decide)  (fun c_455 => ?_) (fun c_455 => ?_)
        · exact hk_3 x9 (by have f1 := hJ9; omega) ls (lv_sub hl [14, 0, 1, 2, 3, 4, 5, 6, 7, 8, 9, 10, 11, 12, 13] rfl)
        · refine lv_iload hx hb dL_halls_205 (lv_at hl 14 rfl) ?_
          refine lv_aload hx hb dL_halls_207 (lv_at hl 13 rfl) ?_
          refine lv_iconst (v := nI 4) hx hb dL_halls_209 (by decide) ?_
          refine a_iald (f := 11) (n := 7) hx hb hKa hPa rfl (by decide) (by decide) dL_halls_210 ?_
          refine n_icmp_eq (tgt := 224) hx hb dL_halls_211 (by decide) (by have f1 := hJ9; omega) (by have f1 : T 11 4 ≤ 2000 := hT.1 11 4; have f2 : T 11 4 ≤ 32 := hT.2.2.2.1; omega) (fun c_456 => ?_) (fun c_456 => ?_)
          · refine lv_iload hx hb dL_halls_224 (lv_at hl 14 rfl) ?_
            refine lv_iconst (v := nI 1) hx hb dL_halls_226 (by decide) ?_
            refine n_iadd hx hb dL_halls_227 (z := x9 + 1) rfl ?_
            refine lv_aload hx hb dL_halls_228 (lv_at hl 13 rfl) ?_
            refine lv_iconst (v := nI 4) hx hb dL_halls_230 (by decide) ?_
            refine a_iald (f := 11) (n := 7) hx hb hKa hPa rfl (by decide) (by decide) dL_halls_231 ?_
            refine n_irem hx hb dL_halls_232 (z := (x9 + 1) % (T 11 4)) (by have f1 := hJ9; omega) (by have f1 : T 11 4 ≤ 2000 := hT.1 11 4; have f2 : T 11 4 ≤ 32 := hT.2.2.2.1; omega) (by have f1 : T 11 4 ≤ 2000 := hT.1 11 4; have f2 : T 11 4 ≤ 32 := hT.2.2.2.1; omega) rfl ?_
            refine lv_istore (lv' := [(14, .int (nI ((x9 + 1) % (T 11 4)))), (0, .ref h), (1, .int (nI act)), (2, .int y), (3, .int z), (4, .ref (ad 1)), (5, .ref (ad 2)), (6, .ref (ad 3)), (7, .ref (ad 4)), (8, .ref (ad 5)), (9, .ref (ad 6)), (10, .ref (ad 7)), (11, .ref (ad 8)), (12, .ref (ad 9)), (13, .ref (ad 11)), (15, .int (nI k))]) hx hb dL_halls_233 hl (by decide) rfl (fun ls hl => ?_)
            refine n_iinc (k := 15) (lv' := [(15, .int (nI (k + 1))), (14, .int (nI ((x9 + 1) % (T 11 4)))), (0, .ref h), (1, .int (nI act)), (2, .int y), (3, .int z), (4, .ref (ad 1)), (5, .ref (ad 2)), (6, .ref (ad 3)), (7, .ref (ad 4)), (8, .ref (ad 5)), (9, .ref (ad 6)), (10, .ref (ad 7)), (11, .ref (ad 8)), (12, .ref (ad 9)), (13, .ref (ad 11))]) hx hb dL_halls_235 hl rfl (by decide) rfl (fun ls hl => ?_)
            refine lv_goto (tgt := 188) hx hb dL_halls_238 (by decide) ?_
            refine ih_452 (by omega) ((x9 + 1) % (T 11 4)) (by first | (have f9 := Nat.mod_lt (x9 + 1) (show 0 < T 11 4 by omega); omega)) ls ?_
            exact lv_sub hl [2, 3, 4, 5, 6, 7, 8, 9, 10, 11, 12, 13, 14, 15, 1, 0] rfl
          · refine lv_aload hx hb dL_halls_214 (lv_at hl 10 rfl) ?_
            refine lv_iload hx hb dL_halls_216 (lv_at hl 14 rfl) ?_
            refine vp_callSi (W.runS (As := [.ref (ad 7), .int (nI x9)]) (rest := []) ⟨hx, hb, hml, hown, hts⟩ (ch_gone l D ad cI T hT x9 (by have f1 := hJ9; omega)) (va_cwS 2 hts gL_halls_L_gone rfl rfl rfl kd_L_gone ⟨Nat.le_of_ble_eq_true rfl, Nat.le_of_ble_eq_true rfl⟩) ⟨aB_blind, a_pre hKa hPa _⟩ rfl rfl hl.1 rfl (lv_room (Nat.le_of_ble_eq_true rfl)) dL_halls_218 ⟨Nat.le_of_ble_eq_true rfl, Nat.le_of_ble_eq_true rfl⟩) (fun r_457 hr_457 => ?_)
            subst hr_457
            refine b_if_eq (tgt := 241) hx hb dL_halls_221 (by decide)  (fun c_458 => ?_) (fun c_458 => ?_)
            · exact hk_3 x9 (by have f1 := hJ9; omega) ls (lv_sub hl [14, 0, 1, 2, 3, 4, 5, 6, 7, 8, 9, 10, 11, 12, 13] rfl)
            · refine lv_iload hx hb dL_halls_224 (lv_at hl 14 rfl) ?_
              refine lv_iconst (v := nI 1) hx hb dL_halls_226 (by decide) ?_
              refine n_iadd hx hb dL_halls_227 (z := x9 + 1) rfl ?_
              refine lv_aload hx hb dL_halls_228 (lv_at hl 13 rfl) ?_
              refine lv_iconst (v := nI 4) hx hb dL_halls_230 (by decide) ?_
              refine a_iald (f := 11) (n := 7) hx hb hKa hPa rfl (by decide) (by decide) dL_halls_231 ?_
              refine n_irem hx hb dL_halls_232 (z := (x9 + 1) % (T 11 4)) (by have f1 := hJ9; omega) (by have f1 : T 11 4 ≤ 2000 := hT.1 11 4; have f2 : T 11 4 ≤ 32 := hT.2.2.2.1; omega) (by have f1 : T 11 4 ≤ 2000 := hT.1 11 4; have f2 : T 11 4 ≤ 32 := hT.2.2.2.1; omega) rfl ?_
              refine lv_istore (lv' := [(14, .int (nI ((x9 + 1) % (T 11 4)))), (0, .ref h), (1, .int (nI act)), (2, .int y), (3, .int z), (4, .ref (ad 1)), (5, .ref (ad 2)), (6, .ref (ad 3)), (7, .ref (ad 4)), (8, .ref (ad 5)), (9, .ref (ad 6)), (10, .ref (ad 7)), (11, .ref (ad 8)), (12, .ref (ad 9)), (13, .ref (ad 11)), (15, .int (nI k))]) hx hb dL_halls_233 hl (by decide) rfl (fun ls hl => ?_)
              refine n_iinc (k := 15) (lv' := [(15, .int (nI (k + 1))), (14, .int (nI ((x9 + 1) % (T 11 4)))), (0, .ref h), (1, .int (nI act)), (2, .int y), (3, .int z), (4, .ref (ad 1)), (5, .ref (ad 2)), (6, .ref (ad 3)), (7, .ref (ad 4)), (8, .ref (ad 5)), (9, .ref (ad 6)), (10, .ref (ad 7)), (11, .ref (ad 8)), (12, .ref (ad 9)), (13, .ref (ad 11))]) hx hb dL_halls_235 hl rfl (by decide) rfl (fun ls hl => ?_)
              refine lv_goto (tgt := 188) hx hb dL_halls_238 (by decide) ?_
              refine ih_452 (by omega) ((x9 + 1) % (T 11 4)) (by first | (have f9 := Nat.mod_lt (x9 + 1) (show 0 < T 11 4 by omega); omega)) ls ?_
              exact lv_sub hl [2, 3, 4, 5, 6, 7, 8, 9, 10, 11, 12, 13, 14, 15, 1, 0] rfl
  · refine lv_iload_n hx hb dL_halls_5 rfl (lv_at hl 2 rfl) ?_
    refine lv_iconst (v := nI 4) hx hb dL_halls_6 (by decide) ?_
    refine vp_callSi (W.runS (As := [.int y, .int (nI 4)]) (rest := []) ⟨hx, hb, hml, hown, hts⟩ (ch_low l y 4 (by omega) (by omega)) (va_cwS 2 hts gL_halls_L_low rfl rfl rfl kd_L_low ⟨Nat.le_of_ble_eq_true rfl, Nat.le_of_ble_eq_true rfl⟩) ⟨fun _ _ _ _ q => q, fun U hU hW => ⟨rfl, trivial⟩⟩ rfl rfl hl.1 rfl (lv_room (Nat.le_of_ble_eq_true rfl)) dL_halls_7 ⟨Nat.le_of_ble_eq_true rfl, Nat.le_of_ble_eq_true rfl⟩) (fun r_459 hr_459 => ?_)
    subst hr_459
    have hj9 : lowN y 4 < 4 := lowN_lt _ (by decide)
    generalize lowN y 4 = j9 at hj9 ⊢
    refine lv_istore (lv' := [(14, .int (nI j9)), (0, .ref h), (1, .int (nI act)), (2, .int y), (3, .int z), (4, .ref (ad 1)), (5, .ref (ad 2)), (6, .ref (ad 3)), (7, .ref (ad 4)), (8, .ref (ad 5)), (9, .ref (ad 6)), (10, .ref (ad 7)), (11, .ref (ad 8)), (12, .ref (ad 9)), (13, .ref (ad 11))]) hx hb dL_halls_10 hl (by decide) rfl (fun ls hl => ?_)
    refine lv_aload hx hb dL_halls_12 (lv_at hl 6 rfl) ?_
    refine lv_iload hx hb dL_halls_14 (lv_at hl 0 rfl) ?_
    refine a_iald2 hx hb hKa hPa (by have f1 := hj9; omega) dL_halls_16 ?_
    refine lv_if_ge (tgt := 62) hx hb dL_halls_17 (by decide)  (fun c_460 => ?_) (fun c_460 => ?_)
    · rw [l_ge0 (by have f9 : T 2 j9 ≤ 10001 := hT.1 2 j9; omega)] at c_460
      have lo9 := hR.lot3 c_460 (by omega)
      refine lv_aload hx hb dL_halls_62 (lv_at hl 5 rfl) ?_
      refine lv_aload hx hb dL_halls_64 (lv_at hl 14 rfl) ?_
      refine lv_iload hx hb dL_halls_66 (lv_at hl 0 rfl) ?_
      refine lv_iconst (v := nI 2) hx hb dL_halls_68 (by decide) ?_
      refine n_idiv hx hb dL_halls_69 (z := j9 / 2) (by have f1 := hj9; omega) (by decide) (by decide) rfl ?_
      refine vp_callSi (W.runS (As := [.ref (ad 1), .ref (ad 11), .int (nI (j9 / 2))]) (rest := []) ⟨hx, hb, hml, hown, hts⟩ (ch_isOpened l D ad cI T hT (j9 / 2) (by have f1 := hj9; omega)) (va_cwS 3 hts gL_halls_L_isOpened rfl rfl rfl kd_L_isOpened ⟨Nat.le_of_ble_eq_true rfl, Nat.le_of_ble_eq_true rfl⟩) ⟨aB_blind, a_pre hKa hPa _⟩ rfl rfl hl.1 rfl (lv_room (Nat.le_of_ble_eq_true rfl)) dL_halls_70 ⟨Nat.le_of_ble_eq_true rfl, Nat.le_of_ble_eq_true rfl⟩) (fun r_461 hr_461 => ?_)
      subst hr_461
      refine b_if_eq (tgt := 109) hx hb dL_halls_73 (by decide)  (fun c_462 => ?_) (fun c_462 => ?_)
      · have kop : t_op T (j9 / 2) = false := c_462
        refine lv_aload_n hx hb dL_halls_109 rfl (lv_at hl 1 rfl) ?_
        refine lv_iload hx hb dL_halls_110 (lv_at hl 0 rfl) ?_
        refine lv_iconst (v := nI 2) hx hb dL_halls_112 (by decide) ?_
        refine n_idiv hx hb dL_halls_113 (z := j9 / 2) (by have f1 := hj9; omega) (by decide) (by decide) rfl ?_
        refine lv_iload hx hb dL_halls_114 (lv_at hl 0 rfl) ?_
        refine lv_iconst (v := nI 2) hx hb dL_halls_116 (by decide) ?_
        refine n_irem hx hb dL_halls_117 (z := j9 % 2) (by have f1 := hj9; omega) (by decide) (by decide) rfl ?_
        refine va_calli (vx_runSW (As := [.ref h, .int (nI (j9 / 2)), .int (nI (j9 % 2))]) (rest := []) ⟨hx, hb, hml, hown, hts⟩ (cw_award l hst D cI cO cb eA mi st dO dT vF ws hc hM hsI (nI (j9 / 2)) (nI (j9 % 2))) (vx_cwSW 3 hts gL_halls_L_award rfl rfl rfl kd_L_award ⟨Nat.le_of_ble_eq_true rfl, Nat.le_of_ble_eq_true rfl⟩) ⟨kB_blind, kB_pre hK hG hGT hN (fun q h9 => Or.inl h9) hS (fun q h9 => hA q (Nat.le_trans hS.1 h9)) hPw _⟩ rfl rfl hl.1 rfl (lv_room (Nat.le_of_ble_eq_true rfl)) dL_halls_118 ⟨by show 0 + 4 ≤ 40; omega, by show 0 + 115 ≤ 1000; omega⟩) hS (fun _ _ h9 => Or.inl h9) (fun _ h9 => Or.inl h9) (fun r_463 ws_464 U8 H_468 locs_469 ht hvm hu_467 hB hz1 hk1 hS1 => ?_)
        obtain ⟨hr_465, hc_466⟩ := hu_467
        replace hB : va_P D vwCl ws_464 U8.heap := hB
        rw [ht] at hB
        replace hPa := aP_keep hPa hdB hAB hk1
        clear hPw hS
        have hPw := hB
        have hS := hS1
        clear hB hS1 hz1 hk1 hvm ht U8
        have hk_470 : k_award M (nI (j9 / 2)) (nI (j9 % 2)) = 2 := by rw [awd_e (by omega) (by rw [hR.lotB hM (by omega)]; exact decide_eq_true (by assumption)), if_neg (fun z9 => absurd (z9.1.symm.trans (show m_op M (j9 / 2) = false by rw [← hR.opn hM lo9.2.1]; exact kop)) (by decide))]
        rw [keep_award (by rw [hk_470]; decide)] at hc_466
        rw [hk_470] at hr_465
        replace hr_465 : r_463 = (-7300) := hr_465
        subst hr_465
        refine lv_sipush (v := (-7300)) hx hb dL_halls_121 (by decide) ?_
        refine lv_icmp_ne (tgt := 131) hx hb dL_halls_124 (by decide)  (fun c9 => absurd c9 (by decide)) (fun _ => ?_)
        refine lv_iconst (v := nI 1) hx hb dL_halls_127 (by decide) ?_
        refine lv_goto (tgt := 132) hx hb dL_halls_128 (by decide) ?_
        have hLR : LR (M) (T) := by exact hR
        have hLT : LT (T) := by exact hT
        refine W.widen (k := 40) (n := 1000) (by omega) (by omega) ?_
        exact W.zret (v := nI 1) hx hb hr rfl (fun U9 ht9 hW9 => ⟨⟨_, (ws_464, M, T), rfl, ⟨rfl, hc_466, hM, hLB, Nat.le_succ_of_le h15, hLR, hLT⟩, by show va_P D vwCl _ U9.heap ∧ va_P D vwCl _ U9.heap; rw [ht9]; exact ⟨hPw, hPa⟩⟩, hS.F ht9⟩) hS.2.2 dL_halls_132
      · have kop1 : t_op T (j9 / 2) = true := c_462
        refine lv_aload hx hb dL_halls_76 (lv_at hl 11 rfl) ?_
        refine lv_aload hx hb dL_halls_78 (lv_at hl 14 rfl) ?_
        refine lv_iload hx hb dL_halls_80 (lv_at hl 0 rfl) ?_
        refine vp_callSi (W.runS (As := [.ref (ad 7), .ref (ad 11), .int (nI j9)]) (rest := []) ⟨hx, hb, hml, hown, hts⟩ (ch_standing l D ad cI T hT j9 (by have f1 := hj9; omega)) (va_cwS 3 hts gL_halls_L_standing rfl rfl rfl kd_L_standing ⟨Nat.le_of_ble_eq_true rfl, Nat.le_of_ble_eq_true rfl⟩) ⟨aB_blind, a_pre hKa hPa _⟩ rfl rfl hl.1 rfl (lv_room (Nat.le_of_ble_eq_true rfl)) dL_halls_82 ⟨Nat.le_of_ble_eq_true rfl, Nat.le_of_ble_eq_true rfl⟩) (fun r_471 hr_471 => ?_)
        subst hr_471
        rcases ho_472 : t_st T j9 with _ | o_472
        · have hn1 : optI (none : Option Nat) = (-1) := rfl
          rw [hn1]
          refine lv_if_ge (tgt := 109) hx hb dL_halls_85 (by decide)  (fun c9 => absurd c9 (by decide)) (fun _ => ?_)
          refine lv_aload hx hb dL_halls_88 (lv_at hl 5 rfl) ?_
          refine lv_aload hx hb dL_halls_90 (lv_at hl 7 rfl) ?_
          refine lv_aload hx hb dL_halls_92 (lv_at hl 8 rfl) ?_
          refine lv_aload hx hb dL_halls_94 (lv_at hl 9 rfl) ?_
          refine lv_aload hx hb dL_halls_96 (lv_at hl 10 rfl) ?_
          refine lv_aload hx hb dL_halls_98 (lv_at hl 14 rfl) ?_
          refine lv_iload hx hb dL_halls_100 (lv_at hl 0 rfl) ?_
          refine lv_iconst (v := nI 0) hx hb dL_halls_102 (by decide) ?_
          refine vp_callSi (W.runS (As := [.ref (ad 1), .ref (ad 3), .ref (ad 4), .ref (ad 5), .ref (ad 6), .ref (ad 11), .int (nI j9), .int (nI 0)]) (rest := []) ⟨hx, hb, hml, hown, hts⟩ (ch_best l D ad cI T hT j9 0 (by have f1 := hj9; omega) (by have f1 := hj9; omega) (by exact hR.w100 hM lo9.2.1) (by exact hR.tp)) (va_cwS 8 hts gL_halls_L_best rfl rfl rfl kd_L_best ⟨Nat.le_of_ble_eq_true rfl, Nat.le_of_ble_eq_true rfl⟩) ⟨aB_blind, a_pre hKa hPa _⟩ rfl rfl hl.1 rfl (lv_room (Nat.le_of_ble_eq_true rfl)) dL_halls_103 ⟨Nat.le_of_ble_eq_true rfl, Nat.le_of_ble_eq_true rfl⟩) (fun r_473 hr_473 => ?_)
          subst hr_473
          rcases ho_474 : t_best T j9 0 with _ | o_474
          · have hn1 : optI (none : Option Nat) = (-1) := rfl
            rw [hn1]
            refine lv_if_ge (tgt := 133) hx hb dL_halls_106 (by decide)  (fun c9 => absurd c9 (by decide)) (fun _ => ?_)
            refine lv_aload_n hx hb dL_halls_109 rfl (lv_at hl 1 rfl) ?_
            refine lv_iload hx hb dL_halls_110 (lv_at hl 0 rfl) ?_
            refine lv_iconst (v := nI 2) hx hb dL_halls_112 (by decide) ?_
            refine n_idiv hx hb dL_halls_113 (z := j9 / 2) (by have f1 := hj9; omega) (by decide) (by decide) rfl ?_
            refine lv_iload hx hb dL_halls_114 (lv_at hl 0 rfl) ?_
            refine lv_iconst (v := nI 2) hx hb dL_halls_116 (by decide) ?_
            refine n_irem hx hb dL_halls_117 (z := j9 % 2) (by have f1 := hj9; omega) (by decide) (by decide) rfl ?_
            refine va_calli (vx_runSW (As := [.ref h, .int (nI (j9 / 2)), .int (nI (j9 % 2))]) (rest := []) ⟨hx, hb, hml, hown, hts⟩ (cw_award l hst D cI cO cb eA mi st dO dT vF ws hc hM hsI (nI (j9 / 2)) (nI (j9 % 2))) (vx_cwSW 3 hts gL_halls_L_award rfl rfl rfl kd_L_award ⟨Nat.le_of_ble_eq_true rfl, Nat.le_of_ble_eq_true rfl⟩) ⟨kB_blind, kB_pre hK hG hGT hN (fun q h9 => Or.inl h9) hS (fun q h9 => hA q (Nat.le_trans hS.1 h9)) hPw _⟩ rfl rfl hl.1 rfl (lv_room (Nat.le_of_ble_eq_true rfl)) dL_halls_118 ⟨by show 0 + 4 ≤ 40; omega, by show 0 + 115 ≤ 1000; omega⟩) hS (fun _ _ h9 => Or.inl h9) (fun _ h9 => Or.inl h9) (fun r_475 ws_476 U8 H_480 locs_481 ht hvm hu_479 hB hz1 hk1 hS1 => ?_)
            obtain ⟨hr_477, hc_478⟩ := hu_479
            replace hB : va_P D vwCl ws_476 U8.heap := hB
            rw [ht] at hB
            replace hPa := aP_keep hPa hdB hAB hk1
            clear hPw hS
            have hPw := hB
            have hS := hS1
            clear hB hS1 hz1 hk1 hvm ht U8
            have hk_482 : k_award M (nI (j9 / 2)) (nI (j9 % 2)) = 2 := by rw [awd_e (by omega) (by rw [hR.lotB hM (by omega)]; exact decide_eq_true (by assumption)), if_neg (fun z9 => absurd ((hR.bnone hM (by omega) lo9.2.1).mp ho_474) z9.2.2.1)]
            rw [keep_award (by rw [hk_482]; decide)] at hc_478
            rw [hk_482] at hr_477
            replace hr_477 : r_475 = (-7300) := hr_477
            subst hr_477
            refine lv_sipush (v := (-7300)) hx hb dL_halls_121 (by decide) ?_
            refine lv_icmp_ne (tgt := 131) hx hb dL_halls_124 (by decide)  (fun c9 => absurd c9 (by decide)) (fun _ => ?_)
            refine lv_iconst (v := nI 1) hx hb dL_halls_127 (by decide) ?_
            refine lv_goto (tgt := 132) hx hb dL_halls_128 (by decide) ?_
            have hLR : LR (M) (T) := by exact hR
            have hLT : LT (T) := by exact hT
            refine W.widen (k := 40) (n := 1000) (by omega) (by omega) ?_
            exact W.zret (v := nI 1) hx hb hr rfl (fun U9 ht9 hW9 => ⟨⟨_, (ws_476, M, T), rfl, ⟨rfl, hc_478, hM, hLB, Nat.le_succ_of_le h15, hLR, hLT⟩, by show va_P D vwCl _ U9.heap ∧ va_P D vwCl _ U9.heap; rw [ht9]; exact ⟨hPw, hPa⟩⟩, hS.F ht9⟩) hS.2.2 dL_halls_132
          · have hn1 : optI (some o_474) = nI o_474 := rfl
            rw [hn1]
            refine n_if_geT (tgt := 133) hx hb dL_halls_106 (by decide) (by have f1 := (t_bsf_some 4 o_474 ho_474).1; have f2 := (t_bsf_some 4 o_474 ho_474).2.1; omega) ?_
            have kst : m_af M (ml j9) = none := by rw [← hR.st hM hU (by omega)]; exact ho_472
            have kbe : m_rk M (ml j9) 0 ≠ none := fun z9 => by have e9 := (hR.bnone hM (by omega) lo9.2.1).mpr z9; rw [ho_474] at e9; cases e9
            have hk0 : k_award M (nI (j9 / 2)) (nI (j9 % 2)) = 0 := by rw [awd_e (by omega) (by rw [hR.lotB hM (by omega)]; exact decide_eq_true (by assumption)), if_pos ⟨by rw [← hR.opn hM lo9.2.1]; exact kop1, kst, kbe, by omega⟩]
            have hgv := hR.gv hM (j := j9) (by omega) lo9.1 lo9.2.1
            refine lv_aload_n hx hb dL_halls_133 rfl (lv_at hl 1 rfl) ?_
            refine lv_iload hx hb dL_halls_134 (lv_at hl 0 rfl) ?_
            refine lv_iconst (v := nI 2) hx hb dL_halls_136 (by decide) ?_
            refine n_idiv hx hb dL_halls_137 (z := j9 / 2) (by have f1 := hj9; omega) (by decide) (by decide) rfl ?_
            refine lv_iload hx hb dL_halls_138 (lv_at hl 0 rfl) ?_
            refine lv_iconst (v := nI 2) hx hb dL_halls_140 (by decide) ?_
            refine n_irem hx hb dL_halls_141 (z := j9 % 2) (by have f1 := hj9; omega) (by decide) (by decide) rfl ?_
            refine va_calli (vx_runSW (As := [.ref h, .int (nI (j9 / 2)), .int (nI (j9 % 2))]) (rest := []) ⟨hx, hb, hml, hown, hts⟩ (cw_award l hst D cI cO cb eA mi st dO dT vF ws hc hM hsI (nI (j9 / 2)) (nI (j9 % 2))) (vx_cwSW 3 hts gL_halls_L_award rfl rfl rfl kd_L_award ⟨Nat.le_of_ble_eq_true rfl, Nat.le_of_ble_eq_true rfl⟩) ⟨kB_blind, kB_pre hK hG hGT hN (fun q h9 => Or.inl h9) hS (fun q h9 => hA q (Nat.le_trans hS.1 h9)) hPw _⟩ rfl rfl hl.1 rfl (lv_room (Nat.le_of_ble_eq_true rfl)) dL_halls_142 ⟨by show 0 + 4 ≤ 40; omega, by show 0 + 115 ≤ 1000; omega⟩) hS (fun _ _ h9 => Or.inl h9) (fun _ h9 => Or.inl h9) (fun r_483 ws_484 U8 H_488 locs_489 ht hvm hu_487 hB hz1 hk1 hS1 => ?_)
            obtain ⟨hr_485, hc_486⟩ := hu_487
            replace hB : va_P D vwCl ws_484 U8.heap := hB
            rw [ht] at hB
            replace hPa := aP_keep hPa hdB hAB hk1
            clear hPw hS
            have hPw := hB
            have hS := hS1
            clear hB hS1 hz1 hk1 hvm ht U8
            have hv9 : e13 (k_award M (nI (j9 / 2)) (nI (j9 % 2))) (r_award M (nI (j9 / 2)) (nI (j9 % 2))) = m_gvr M (ml j9) := by exact (awd_g (by omega) hk0).2
            rw [hv9] at hr_485
            clear hv9
            subst hr_485
            have hM_490 : MI (g_award M (nI (j9 / 2)) (nI (j9 % 2))) := MI_award hM (nI (j9 / 2)) (nI (j9 % 2))
            have hLB_491 : m_LB (g_award M (nI (j9 / 2)) (nI (j9 % 2))) := (LB_award (nI (j9 / 2)) (nI (j9 % 2))).1 hLB
            have h15_492 : (g_award M (nI (j9 / 2)) (nI (j9 % 2))) 15 0 ≤ M 15 0 + 1 := (LB_award (nI (j9 / 2)) (nI (j9 % 2))).2
            refine lv_aload hx hb dL_halls_145 (lv_at hl 5 rfl) ?_
            refine lv_aload hx hb dL_halls_147 (lv_at hl 7 rfl) ?_
            refine lv_aload hx hb dL_halls_149 (lv_at hl 8 rfl) ?_
            refine lv_aload hx hb dL_halls_151 (lv_at hl 9 rfl) ?_
            refine lv_aload hx hb dL_halls_153 (lv_at hl 10 rfl) ?_
            refine lv_aload hx hb dL_halls_155 (lv_at hl 11 rfl) ?_
            refine lv_aload hx hb dL_halls_157 (lv_at hl 14 rfl) ?_
            refine lv_iload hx hb dL_halls_159 (lv_at hl 0 rfl) ?_
            refine va_calli (va_runS (As := [.ref (ad 1), .ref (ad 3), .ref (ad 4), .ref (ad 5), .ref (ad 6), .ref (ad 7), .ref (ad 11), .int (nI j9)]) (rest := [.int (m_gvr M (ml j9))]) ⟨hx, hb, hml, hown, hts⟩ (ch_give l D ad cI T hT hdB j9 (by have f1 := hj9; omega) (by exact hR.w100 hM lo9.2.1) (by exact hR.tp) (by omega)) (va_cwS 8 hts gL_halls_L_give rfl rfl rfl kd_L_give ⟨Nat.le_of_ble_eq_true rfl, Nat.le_of_ble_eq_true rfl⟩) ⟨aB_blind, a_pre hKa hPa _⟩ rfl rfl hl.1 rfl (lv_room (Nat.le_of_ble_eq_true rfl)) dL_halls_161 ⟨by show 4 + 0 ≤ 40; omega, by show 115 + 0 ≤ 1000; omega⟩) hS (fun _ _ h9 => Or.inr h9) (fun _ h9 => Or.inr h9) (fun r_493 u9 U8 H_495 locs_496 ht hvm hr_494 hB hz1 hk1 hS1 => ?_)
            replace hB : va_P D vwCl (aws ad cI (t_gv T j9)) U8.heap := hB
            rw [ht] at hB
            replace hPw := cP_keepB hPw hc_486.dis hAB hk1
            clear hPa hS
            have hPa := hB
            have hS := hS1
            clear hB hS1 hz1 hk1 hvm ht U8
            subst hr_494
            refine W.widen (k := 4) (n := 115) (by omega) (by omega) ?_
            refine lv_icmp_ne (tgt := 171) hx hb dL_halls_164 (by decide)  (fun c_497 => absurd hgv.2.symm c_497) (fun c_497 => ?_)
            refine lv_iconst (v := nI 1) hx hb dL_halls_167 (by decide) ?_
            refine lv_goto (tgt := 172) hx hb dL_halls_168 (by decide) ?_
            have hLR : LR (g_award M (nI (j9 / 2)) (nI (j9 % 2))) (t_gv T j9) := by rw [(awd_g (by omega) hk0).1]; exact hgv.1
            have hLT : LT (t_gv T j9) := by exact LT_gv hT (by omega) (by omega)
            refine W.widen (k := 40) (n := 1000) (by omega) (by omega) ?_
            exact W.zret (v := nI 1) hx hb hr rfl (fun U9 ht9 hW9 => ⟨⟨_, (ws_484, g_award M (nI (j9 / 2)) (nI (j9 % 2)), t_gv T j9), rfl, ⟨rfl, hc_486, hM_490, hLB_491, Nat.le_trans h15_492 (Nat.succ_le_succ h15), hLR, hLT⟩, by show va_P D vwCl _ U9.heap ∧ va_P D vwCl _ U9.heap; rw [ht9]; exact ⟨hPw, hPa⟩⟩, hS.F ht9⟩) hS.2.2 dL_halls_172
        · have hn1 : optI (some o_472) = nI o_472 := rfl
          rw [hn1]
          refine n_if_geT (tgt := 109) hx hb dL_halls_85 (by decide) (by have f1 := (t_stf_some (T 11 4) o_472 ho_472).1; have f2 : T 11 4 ≤ 32 := hT.2.2.2.1; omega) ?_
          refine lv_aload_n hx hb dL_halls_109 rfl (lv_at hl 1 rfl) ?_
          refine lv_iload hx hb dL_halls_110 (lv_at hl 0 rfl) ?_
          refine lv_iconst (v := nI 2) hx hb dL_halls_112 (by decide) ?_
          refine n_idiv hx hb dL_halls_113 (z := j9 / 2) (by have f1 := hj9; omega) (by decide) (by decide) rfl ?_
          refine lv_iload hx hb dL_halls_114 (lv_at hl 0 rfl) ?_
          refine lv_iconst (v := nI 2) hx hb dL_halls_116 (by decide) ?_
          refine n_irem hx hb dL_halls_117 (z := j9 % 2) (by have f1 := hj9; omega) (by decide) (by decide) rfl ?_
          refine va_calli (vx_runSW (As := [.ref h, .int (nI (j9 / 2)), .int (nI (j9 % 2))]) (rest := []) ⟨hx, hb, hml, hown, hts⟩ (cw_award l hst D cI cO cb eA mi st dO dT vF ws hc hM hsI (nI (j9 / 2)) (nI (j9 % 2))) (vx_cwSW 3 hts gL_halls_L_award rfl rfl rfl kd_L_award ⟨Nat.le_of_ble_eq_true rfl, Nat.le_of_ble_eq_true rfl⟩) ⟨kB_blind, kB_pre hK hG hGT hN (fun q h9 => Or.inl h9) hS (fun q h9 => hA q (Nat.le_trans hS.1 h9)) hPw _⟩ rfl rfl hl.1 rfl (lv_room (Nat.le_of_ble_eq_true rfl)) dL_halls_118 ⟨by show 0 + 4 ≤ 40; omega, by show 0 + 115 ≤ 1000; omega⟩) hS (fun _ _ h9 => Or.inl h9) (fun _ h9 => Or.inl h9) (fun r_498 ws_499 U8 H_503 locs_504 ht hvm hu_502 hB hz1 hk1 hS1 => ?_)
          obtain ⟨hr_500, hc_501⟩ := hu_502
          replace hB : va_P D vwCl ws_499 U8.heap := hB
          rw [ht] at hB
          replace hPa := aP_keep hPa hdB hAB hk1
          clear hPw hS
          have hPw := hB
          have hS := hS1
          clear hB hS1 hz1 hk1 hvm ht U8
          have hk_505 : k_award M (nI (j9 / 2)) (nI (j9 % 2)) = 2 := by rw [awd_e (by omega) (by rw [hR.lotB hM (by omega)]; exact decide_eq_true (by assumption)), if_neg (fun z9 => by have e9 := hR.st hM hU (j := j9) (by omega); rw [z9.2.1, ho_472] at e9; cases e9)]
          rw [keep_award (by rw [hk_505]; decide)] at hc_501
          rw [hk_505] at hr_500
          replace hr_500 : r_498 = (-7300) := hr_500
          subst hr_500
          refine lv_sipush (v := (-7300)) hx hb dL_halls_121 (by decide) ?_
          refine lv_icmp_ne (tgt := 131) hx hb dL_halls_124 (by decide)  (fun c9 => absurd c9 (by decide)) (fun _ => ?_)
          refine lv_iconst (v := nI 1) hx hb dL_halls_127 (by decide) ?_
          refine lv_goto (tgt := 132) hx hb dL_halls_128 (by decide) ?_
          have hLR : LR (M) (T) := by exact hR
          have hLT : LT (T) := by exact hT
          refine W.widen (k := 40) (n := 1000) (by omega) (by omega) ?_
          exact W.zret (v := nI 1) hx hb hr rfl (fun U9 ht9 hW9 => ⟨⟨_, (ws_499, M, T), rfl, ⟨rfl, hc_501, hM, hLB, Nat.le_succ_of_le h15, hLR, hLT⟩, by show va_P D vwCl _ U9.heap ∧ va_P D vwCl _ U9.heap; rw [ht9]; exact ⟨hPw, hPa⟩⟩, hS.F ht9⟩) hS.2.2 dL_halls_132
    · rw [l_ge0 (by have f9 : T 2 j9 ≤ 10001 := hT.1 2 j9; omega)] at c_460; have hz9 : T 2 j9 = 0 := by omega
      refine lv_aload_n hx hb dL_halls_20 rfl (lv_at hl 1 rfl) ?_
      refine lv_iload hx hb dL_halls_21 (lv_at hl 0 rfl) ?_
      refine lv_iconst (v := nI 2) hx hb dL_halls_23 (by decide) ?_
      refine n_idiv hx hb dL_halls_24 (z := j9 / 2) (by have f1 := hj9; omega) (by decide) (by decide) rfl ?_
      refine lv_iload hx hb dL_halls_25 (lv_at hl 0 rfl) ?_
      refine lv_iconst (v := nI 2) hx hb dL_halls_27 (by decide) ?_
      refine n_irem hx hb dL_halls_28 (z := j9 % 2) (by have f1 := hj9; omega) (by decide) (by decide) rfl ?_
      refine va_calli (vx_runSW (As := [.ref h, .int (nI (j9 / 2)), .int (nI (j9 % 2))]) (rest := []) ⟨hx, hb, hml, hown, hts⟩ (cw_award l hst D cI cO cb eA mi st dO dT vF ws hc hM hsI (nI (j9 / 2)) (nI (j9 % 2))) (vx_cwSW 3 hts gL_halls_L_award rfl rfl rfl kd_L_award ⟨Nat.le_of_ble_eq_true rfl, Nat.le_of_ble_eq_true rfl⟩) ⟨kB_blind, kB_pre hK hG hGT hN (fun q h9 => Or.inl h9) hS (fun q h9 => hA q (Nat.le_trans hS.1 h9)) hPw _⟩ rfl rfl hl.1 rfl (lv_room (Nat.le_of_ble_eq_true rfl)) dL_halls_29 ⟨by show 0 + 4 ≤ 40; omega, by show 0 + 115 ≤ 1000; omega⟩) hS (fun _ _ h9 => Or.inl h9) (fun _ h9 => Or.inl h9) (fun r_506 ws_507 U8 H_511 locs_512 ht hvm hu_510 hB hz1 hk1 hS1 => ?_)
      obtain ⟨hr_508, hc_509⟩ := hu_510
      replace hB : va_P D vwCl ws_507 U8.heap := hB
      rw [ht] at hB
      replace hPa := aP_keep hPa hdB hAB hk1
      clear hPw hS
      have hPw := hB
      have hS := hS1
      clear hB hS1 hz1 hk1 hvm ht U8
      have hk_513 : k_award M (nI (j9 / 2)) (nI (j9 % 2)) = 1 := by exact awd_1 (by rw [hR.lotB hM (by omega)]; exact decide_eq_false (fun z => z (by assumption)))
      rw [keep_award (by rw [hk_513]; decide)] at hc_509
      rw [hk_513] at hr_508
      replace hr_508 : r_506 = (-7100) := hr_508
      subst hr_508
      refine lv_sipush (v := (-7100)) hx hb dL_halls_32 (by decide) ?_
      refine lv_icmp_ne (tgt := 60) hx hb dL_halls_35 (by decide)  (fun c9 => absurd c9 (by decide)) (fun _ => ?_)
      refine lv_aload_n hx hb dL_halls_38 rfl (lv_at hl 1 rfl) ?_
      refine lv_iload hx hb dL_halls_39 (lv_at hl 0 rfl) ?_
      refine lv_iconst (v := nI 2) hx hb dL_halls_41 (by decide) ?_
      refine n_idiv hx hb dL_halls_42 (z := j9 / 2) (by have f1 := hj9; omega) (by decide) (by decide) rfl ?_
      refine lv_iload hx hb dL_halls_43 (lv_at hl 0 rfl) ?_
      refine lv_iconst (v := nI 2) hx hb dL_halls_45 (by decide) ?_
      refine n_irem hx hb dL_halls_46 (z := j9 % 2) (by have f1 := hj9; omega) (by decide) (by decide) rfl ?_
      refine va_calli (vx_runSW (As := [.ref h, .int (nI (j9 / 2)), .int (nI (j9 % 2))]) (rest := []) ⟨hx, hb, hml, hown, hts⟩ (cw_awardOf l hst D cI cO cb eA mi st dO dT vF ws_507 hc_509 hM hsI (nI (j9 / 2)) (nI (j9 % 2))) (vx_cwSW 3 hts gL_halls_L_awardOf rfl rfl rfl kd_L_awardOf ⟨Nat.le_of_ble_eq_true rfl, Nat.le_of_ble_eq_true rfl⟩) ⟨kB_blind, kB_pre hK hG hGT hN (fun q h9 => Or.inl h9) hS (fun q h9 => hA q (Nat.le_trans hS.1 h9)) hPw _⟩ rfl rfl hl.1 rfl (lv_room (Nat.le_of_ble_eq_true rfl)) dL_halls_47 ⟨by show 4 + 2 ≤ 40; omega, by show 115 + 12 ≤ 1000; omega⟩) hS (fun _ _ h9 => Or.inl h9) (fun _ h9 => Or.inl h9) (fun r_514 ws_515 U8 H_519 locs_520 ht hvm hu_518 hB hz1 hk1 hS1 => ?_)
      obtain ⟨hr_516, hc_517⟩ := hu_518
      replace hB : va_P D vwCl ws_515 U8.heap := hB
      rw [ht] at hB
      replace hPa := aP_keep hPa hdB hAB hk1
      clear hPw hS
      have hPw := hB
      have hS := hS1
      clear hB hS1 hz1 hk1 hvm ht U8
      have hk_521 : k_lot M (nI (j9 / 2)) (nI (j9 % 2)) = 1 := by exact lotk_1 (by rw [hR.lotB hM (by omega)]; exact decide_eq_false (fun z => z (by assumption)))
      rw [hk_521] at hr_516
      replace hr_516 : r_514 = (-7100) := hr_516
      subst hr_516
      refine lv_sipush (v := (-7100)) hx hb dL_halls_50 (by decide) ?_
      refine lv_icmp_ne (tgt := 60) hx hb dL_halls_53 (by decide)  (fun c9 => absurd c9 (by decide)) (fun _ => ?_)
      refine lv_iconst (v := nI 1) hx hb dL_halls_56 (by decide) ?_
      refine lv_goto (tgt := 61) hx hb dL_halls_57 (by decide) ?_
      have hLR : LR (M) (T) := by exact hR
      have hLT : LT (T) := by exact hT
      refine W.widen (k := 40) (n := 1000) (by omega) (by omega) ?_
      exact W.zret (v := nI 1) hx hb hr rfl (fun U9 ht9 hW9 => ⟨⟨_, (ws_515, M, T), rfl, ⟨rfl, hc_517, hM, hLB, Nat.le_succ_of_le h15, hLR, hLT⟩, by show va_P D vwCl _ U9.heap ∧ va_P D vwCl _ U9.heap; rw [ht9]; exact ⟨hPw, hPa⟩⟩, hS.F ht9⟩) hS.2.2 dL_halls_61
