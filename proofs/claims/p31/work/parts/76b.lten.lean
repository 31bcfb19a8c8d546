/-! a turn of the tenders -/
set_option maxHeartbeats 8000000 in
set_option maxRecDepth 100000 in
theorem cb_tenders (l : Launch) (hst : l.stackTraces = false) (D : va_G) (ad : Nat → Nat) (cI cO cb : ClassId) (eA mi : Nat) (st : Nat → Nat) (dO dT : Nat) (vF : Value) {A B : Nat → Prop} (hAB : ∀ q, A q → ¬ B q) (hsI : sInj st) (hdB : aDis B ad) (ws : va_W) {h n15 : Nat} {M T : MS} (hc : cSt cI cO eA st A h M ws) (hM : MI M) (hLB : m_LB M) (h15 : M 15 0 ≤ n15) (hR : LR M T) (hT : LT T) (act : Nat) (y : Int32) (z : Int32) (hact : act < 15) (hC : LC T) (h150 : n15 ≤ 200) : Met l yL_tenders wsL_tenders ({ frames := 10, cells := 42, slots := 930, locals := 244 }) (va_Pc [.ref h, .int (nI act), .int y, .int z, .ref (ad 0), .ref (ad 1), .ref (ad 2), .ref (ad 3), .ref (ad 4), .ref (ad 11)] (bB D ad cI cO cb eA mi st dO dT vF A B ws T)) (va_Qi (fun (ri : Int32) (u : va_W × MS × MS) => ri = nI 1 ∧ LQ cI cO eA st A h (n15 + 1) u) (fun u U9 => va_P D vwCl u.1 U9.heap ∧ va_P D vwCl (aws ad cI u.2.2) U9.heap) (fun q => A q ∨ B q)) 42 930 (fun q => A q ∨ B q) := by
  refine Met.ofW (cc := cL_tenders) (maxL := 18) (ret := (some .boolean)) (by decide) rfl ?_
  intro p e s m args below meth c s₁ B9 hml hv
  obtain ⟨rfl, hPw, hK, hG, hGT, hA, hN, hPa, hKa⟩ := hv
  have hx := B9.exec
  have hb := B9.bytes
  have hr := B9.returns
  have hts := atoms_spec (ws := wsL_tenders) B9.pre
  have hown : s.vm.findClass RL = some m.cls := findClass_of_methodNamed B9.named
  have hlocks := B9.notSynchronized
  have hS : va_S (fun q => A q ∨ B q) s.heap s.heap [] := va_S.rf
  have hl := lv_entry ([.ref h, .int (nI act), .int y, .int z, .ref (ad 0), .ref (ad 1), .ref (ad 2), .ref (ad 3), .ref (ad 4), .ref (ad 11)]) (n := 18) (Nat.le_of_ble_eq_true rfl)
  rw [lg_entry_eq]
  generalize (lg_sl ([.ref h, .int (nI act), .int y, .int z, .ref (ad 0), .ref (ad 1), .ref (ad 2), .ref (ad 3), .ref (ad 4), .ref (ad 11)]) ++ List.replicate (18 - (lg_sl ([.ref h, .int (nI act), .int y, .int z, .ref (ad 0), .ref (ad 1), .ref (ad 2), .ref (ad 3), .ref (ad 4), .ref (ad 11)])).length) Slot.unset).toArray = ls at hl ⊢
  have hl : lv_has ls 18 [(0, .ref h), (1, .int (nI act)), (2, .int y), (3, .int z), (4, .ref (ad 0)), (5, .ref (ad 1)), (6, .ref (ad 2)), (7, .ref (ad 3)), (8, .ref (ad 4)), (9, .ref (ad 11))] := hl
  obtain ⟨g0, g1, g2, g3, g4, g5, g6⟩ := hR.1
  obtain ⟨C0, C3, C4, C5, C6⟩ := hC
  have hT2 := hT.2
  have hM1 : M 1 0 ≤ 2000 := hM 1 0
  refine lv_iload_n hx hb dL_tenders_0 rfl (lv_at hl 2 rfl) ?_
  refine lv_iconst (v := nI 4) hx hb dL_tenders_1 (by decide) ?_
  refine vp_callSi (W.runS (As := [.int y, .int (nI 4)]) (rest := []) ⟨hx, hb, hml, hown, hts⟩ (ch_low l y 4 (by omega) (by omega)) (va_cwS 2 hts gL_tenders_L_low rfl rfl rfl kd_L_low ⟨Nat.le_of_ble_eq_true rfl, Nat.le_of_ble_eq_true rfl⟩) ⟨fun _ _ _ _ q => q, fun U hU hW => ⟨rfl, trivial⟩⟩ rfl rfl hl.1 rfl (lv_room (Nat.le_of_ble_eq_true rfl)) dL_tenders_2 ⟨Nat.le_of_ble_eq_true rfl, Nat.le_of_ble_eq_true rfl⟩) (fun r_1 hr_1 => ?_)
  subst hr_1
  have hb9 : lowN y 4 < 4 := lowN_lt _ (by decide)
  generalize lowN y 4 = b9 at hb9 ⊢
  refine lv_istore (lv' := [(10, .int (nI b9)), (0, .ref h), (1, .int (nI act)), (2, .int y), (3, .int z), (4, .ref (ad 0)), (5, .ref (ad 1)), (6, .ref (ad 2)), (7, .ref (ad 3)), (8, .ref (ad 4)), (9, .ref (ad 11))]) hx hb dL_tenders_5 hl (by decide) rfl (fun ls hl => ?_)
  refine lv_iload_n hx hb dL_tenders_7 rfl (lv_at hl 4 rfl) ?_
  refine lv_iconst (v := nI 2) hx hb dL_tenders_8 (by decide) ?_
  refine vp_callSi (W.runS (As := [.int z, .int (nI 2)]) (rest := []) ⟨hx, hb, hml, hown, hts⟩ (ch_low l z 2 (by omega) (by omega)) (va_cwS 2 hts gL_tenders_L_low rfl rfl rfl kd_L_low ⟨Nat.le_of_ble_eq_true rfl, Nat.le_of_ble_eq_true rfl⟩) ⟨fun _ _ _ _ q => q, fun U hU hW => ⟨rfl, trivial⟩⟩ rfl rfl hl.1 rfl (lv_room (Nat.le_of_ble_eq_true rfl)) dL_tenders_9 ⟨Nat.le_of_ble_eq_true rfl, Nat.le_of_ble_eq_true rfl⟩) (fun r_2 hr_2 => ?_)
  subst hr_2
  have ht9 : lowN z 2 < 2 := lowN_lt _ (by decide)
  generalize lowN z 2 = t9 at ht9 ⊢
  refine lv_istore (lv' := [(11, .int (nI t9)), (10, .int (nI b9)), (0, .ref h), (1, .int (nI act)), (2, .int y), (3, .int z), (4, .ref (ad 0)), (5, .ref (ad 1)), (6, .ref (ad 2)), (7, .ref (ad 3)), (8, .ref (ad 4)), (9, .ref (ad 11))]) hx hb dL_tenders_12 hl (by decide) rfl (fun ls hl => ?_)
  refine lv_iload_n hx hb dL_tenders_14 rfl (lv_at hl 5 rfl) ?_
  refine lv_iconst (v := nI 2) hx hb dL_tenders_15 (by decide) ?_
  refine lv_ishr hx hb dL_tenders_16 ?_
  refine lv_iconst (v := nI 2) hx hb dL_tenders_17 (by decide) ?_
  refine vp_callSi (W.runS (As := [.int (z >>> ((nI 2) &&& 31)), .int (nI 2)]) (rest := []) ⟨hx, hb, hml, hown, hts⟩ (ch_low l (z >>> ((nI 2) &&& 31)) 2 (by omega) (by omega)) (va_cwS 2 hts gL_tenders_L_low rfl rfl rfl kd_L_low ⟨Nat.le_of_ble_eq_true rfl, Nat.le_of_ble_eq_true rfl⟩) ⟨fun _ _ _ _ q => q, fun U hU hW => ⟨rfl, trivial⟩⟩ rfl rfl hl.1 rfl (lv_room (Nat.le_of_ble_eq_true rfl)) dL_tenders_18 ⟨Nat.le_of_ble_eq_true rfl, Nat.le_of_ble_eq_true rfl⟩) (fun r_3 hr_3 => ?_)
  subst hr_3
  have hj9 : lowN (z >>> ((nI 2) &&& 31)) 2 < 2 := lowN_lt _ (by decide)
  generalize lowN (z >>> ((nI 2) &&& 31)) 2 = j9 at hj9 ⊢
  refine lv_istore (lv' := [(12, .int (nI j9)), (11, .int (nI t9)), (10, .int (nI b9)), (0, .ref h), (1, .int (nI act)), (2, .int y), (3, .int z), (4, .ref (ad 0)), (5, .ref (ad 1)), (6, .ref (ad 2)), (7, .ref (ad 3)), (8, .ref (ad 4)), (9, .ref (ad 11))]) hx hb dL_tenders_21 hl (by decide) rfl (fun ls hl => ?_)
  refine lv_iload_n hx hb dL_tenders_23 rfl (lv_at hl 4 rfl) ?_
  refine n_if_ne (tgt := 291) hx hb dL_tenders_24 (by decide) (by omega) (fun c_4 => ?_) (fun c_4 => ?_)
  · refine lv_iload_n hx hb dL_tenders_291 rfl (lv_at hl 4 rfl) ?_
    refine lv_iconst (v := nI 4) hx hb dL_tenders_292 (by decide) ?_
    refine n_icmp_ge (tgt := 446) hx hb dL_tenders_293 (by decide) (by omega) (by decide) (fun c_5 => ?_) (fun c_5 => ?_)
    · refine lv_iload hx hb dL_tenders_446 (lv_at hl 1 rfl) ?_
      refine lv_aload hx hb dL_tenders_448 (lv_at hl 12 rfl) ?_
      refine lv_iconst (v := nI 1) hx hb dL_tenders_450 (by decide) ?_
      refine a_iald (f := 11) (n := 7) hx hb hKa hPa rfl (by decide) (by decide) dL_tenders_451 ?_
      refine n_icmp_lt (tgt := 506) hx hb dL_tenders_452 (by decide) (by have f1 := ht9; omega) (by have f1 : T 11 1 ≤ 2000 := hT.1 11 1; have f2 : T 11 1 ≤ 2 := hT.2.1; omega) (fun c_6 => ?_) (fun c_6 => ?_)
      · refine lv_iload_n hx hb dL_tenders_506 rfl (lv_at hl 4 rfl) ?_
        refine lv_bipush (v := nI 6) hx hb dL_tenders_507 (by decide) ?_
        refine n_icmp_ge (tgt := 663) hx hb dL_tenders_509 (by decide) (by omega) (by decide) (fun c_7 => ?_) (fun c_7 => ?_)
        · refine lv_aload hx hb dL_tenders_663 (lv_at hl 9 rfl) ?_
          refine lv_iconst (v := nI 2) hx hb dL_tenders_665 (by decide) ?_
          refine lv_iload hx hb dL_tenders_666 (lv_at hl 1 rfl) ?_
          refine n_imul hx hb dL_tenders_668 (z := 2 * t9) rfl ?_
          refine lv_iload hx hb dL_tenders_669 (lv_at hl 0 rfl) ?_
          refine n_iadd hx hb dL_tenders_671 (z := (2 * t9) + j9) rfl ?_
          refine a_iald2 hx hb hKa hPa (by have f1 := ht9; have f2 := hj9; omega) dL_tenders_672 ?_
          refine lv_if_ge (tgt := 730) hx hb dL_tenders_673 (by decide)  (fun c_8 => ?_) (fun c_8 => ?_)
          · rw [l_ge0 (by have := hT.1 2 (2 * t9 + j9); simp only [lcap] at this; omega)] at c_8
            refine lv_bipush (v := nI 8) hx hb dL_tenders_730 (by decide) ?_
            refine lv_iload hx hb dL_tenders_732 (lv_at hl 1 rfl) ?_
            refine n_imul hx hb dL_tenders_734 (z := 8 * t9) rfl ?_
            refine lv_iconst (v := nI 4) hx hb dL_tenders_735 (by decide) ?_
            refine lv_iload hx hb dL_tenders_736 (lv_at hl 0 rfl) ?_
            refine n_imul hx hb dL_tenders_738 (z := 4 * j9) rfl ?_
            refine n_iadd hx hb dL_tenders_739 (z := (8 * t9) + (4 * j9)) rfl ?_
            refine lv_iload hx hb dL_tenders_740 (lv_at hl 2 rfl) ?_
            refine n_iadd hx hb dL_tenders_742 (z := ((8 * t9) + (4 * j9)) + b9) rfl ?_
            refine lv_istore (lv' := [(13, .int (nI (((8 * t9) + (4 * j9)) + b9))), (12, .int (nI j9)), (11, .int (nI t9)), (10, .int (nI b9)), (0, .ref h), (1, .int (nI act)), (2, .int y), (3, .int z), (4, .ref (ad 0)), (5, .ref (ad 1)), (6, .ref (ad 2)), (7, .ref (ad 3)), (8, .ref (ad 4)), (9, .ref (ad 11))]) hx hb dL_tenders_743 hl (by decide) rfl (fun ls hl => ?_)
            refine lv_iload_n hx hb dL_tenders_745 rfl (lv_at hl 5 rfl) ?_
            refine lv_bipush (v := nI 14) hx hb dL_tenders_746 (by decide) ?_
            refine n_icmp_ge (tgt := 1044) hx hb dL_tenders_748 (by decide) (by omega) (by decide) (fun c_9 => ?_) (fun c_9 => ?_)
            · refine lv_aload hx hb dL_tenders_1044 (lv_at hl 11 rfl) ?_
              refine lv_iload hx hb dL_tenders_1046 (lv_at hl 0 rfl) ?_
              refine vp_callSi (W.runS (As := [.ref (ad 3), .int (nI (((8 * t9) + (4 * j9)) + b9))]) (rest := []) ⟨hx, hb, hml, hown, hts⟩ (ch_price l D ad cI T hT (((8 * t9) + (4 * j9)) + b9) (by have f1 := ht9; have f2 := hj9; have f3 := hb9; omega)) (va_cwS 2 hts gL_tenders_L_price rfl rfl rfl kd_L_price ⟨Nat.le_of_ble_eq_true rfl, Nat.le_of_ble_eq_true rfl⟩) ⟨aB_blind, a_pre hKa hPa _⟩ rfl rfl hl.1 rfl (lv_room (Nat.le_of_ble_eq_true rfl)) dL_tenders_1048 ⟨Nat.le_of_ble_eq_true rfl, Nat.le_of_ble_eq_true rfl⟩) (fun r_10 hr_10 => ?_)
              subst hr_10
              refine lv_istore (lv' := [(14, .int (nI (t_pr T (((8 * t9) + (4 * j9)) + b9)))), (13, .int (nI (((8 * t9) + (4 * j9)) + b9))), (12, .int (nI j9)), (11, .int (nI t9)), (10, .int (nI b9)), (0, .ref h), (1, .int (nI act)), (2, .int y), (3, .int z), (4, .ref (ad 0)), (5, .ref (ad 1)), (6, .ref (ad 2)), (7, .ref (ad 3)), (8, .ref (ad 4)), (9, .ref (ad 11))]) hx hb dL_tenders_1051 hl (by decide) rfl (fun ls hl => ?_)
              refine lv_aload hx hb dL_tenders_1053 (lv_at hl 10 rfl) ?_
              refine lv_aload hx hb dL_tenders_1055 (lv_at hl 14 rfl) ?_
              refine lv_iload hx hb dL_tenders_1057 (lv_at hl 3 rfl) ?_
              refine vp_callSi (W.runS (As := [.ref (ad 1), .ref (ad 11), .int (nI t9)]) (rest := []) ⟨hx, hb, hml, hown, hts⟩ (ch_isOpened l D ad cI T hT t9 (by have f1 := ht9; omega)) (va_cwS 3 hts gL_tenders_L_isOpened rfl rfl rfl kd_L_isOpened ⟨Nat.le_of_ble_eq_true rfl, Nat.le_of_ble_eq_true rfl⟩) ⟨aB_blind, a_pre hKa hPa _⟩ rfl rfl hl.1 rfl (lv_room (Nat.le_of_ble_eq_true rfl)) dL_tenders_1059 ⟨Nat.le_of_ble_eq_true rfl, Nat.le_of_ble_eq_true rfl⟩) (fun r_11 hr_11 => ?_)
              subst hr_11
              refine b_if_ne (tgt := 1070) hx hb dL_tenders_1062 (by decide)  (fun c_12 => ?_) (fun c_12 => ?_)
              · refine lv_aload_n hx hb dL_tenders_1070 rfl (lv_at hl 5 rfl) ?_
                refine lv_iload hx hb dL_tenders_1071 (lv_at hl 4 rfl) ?_
                refine lv_iload hx hb dL_tenders_1073 (lv_at hl 3 rfl) ?_
                refine lv_iload hx hb dL_tenders_1075 (lv_at hl 2 rfl) ?_
                refine va_calli (vx_runSW (As := [.ref h, .int (nI b9), .int (nI t9), .int (nI j9)]) (rest := []) ⟨hx, hb, hml, hown, hts⟩ (cw_withdraw l hst D cI cO cb eA mi st dO dT vF ws hc hM hsI (nI b9) (nI t9) (nI j9)) (vx_cwSW 4 hts gL_tenders_L_withdraw rfl rfl rfl kd_L_withdraw ⟨Nat.le_of_ble_eq_true rfl, Nat.le_of_ble_eq_true rfl⟩) ⟨kB_blind, kB_pre hK hG hGT hN (fun q h9 => Or.inl h9) hS (fun q h9 => hA q (Nat.le_trans hS.1 h9)) hPw _⟩ rfl rfl hl.1 rfl (lv_room (Nat.le_of_ble_eq_true rfl)) dL_tenders_1077 ⟨by show 0 + 4 ≤ 42; omega, by show 0 + 24 ≤ 930; omega⟩) hS (fun _ _ h9 => Or.inl h9) (fun _ h9 => Or.inl h9) (fun r_13 ws_14 U8 H_18 locs_19 ht hvm hu_17 hB hz1 hk1 hS1 => ?_)
                obtain ⟨hr_15, hc_16⟩ := hu_17
                replace hB : va_P D vwCl ws_14 U8.heap := hB
                rw [ht] at hB
                replace hPa := aP_keep hPa hdB hAB hk1
                clear hPw hS
                have hPw := hB
                have hS := hS1
                clear hB hS1 hz1 hk1 hvm ht U8
                have hk_20 : k_withdraw M (nI b9) (nI t9) (nI j9) = 2 := by exact wd_2 (by omega) (by omega) (by omega) (by rw [hR.lotT hM (by omega) (by omega)]; exact decide_eq_true (by omega)) (by first | exact Or.inl (show m_op M t9 = true by rw [← hR.opn hM (by omega)]; assumption) | exact Or.inr (by rw [← hR.pr (by omega)]; assumption))
                rw [keep_withdraw (by rw [hk_20]; decide)] at hc_16
                rw [hk_20] at hr_15
                replace hr_15 : r_13 = (-7300) := hr_15
                subst hr_15
                refine lv_sipush (v := (-7300)) hx hb dL_tenders_1080 (by decide) ?_
                refine lv_icmp_ne (tgt := 1090) hx hb dL_tenders_1083 (by decide)  (fun c9 => absurd c9 (by decide)) (fun _ => ?_)
                refine lv_iconst (v := nI 1) hx hb dL_tenders_1086 (by decide) ?_
                refine lv_goto (tgt := 1091) hx hb dL_tenders_1087 (by decide) ?_
                have hLR : LR (M) (T) := by exact hR
                have hLT : LT (T) := by exact hT
                refine W.widen (k := 42) (n := 930) (by omega) (by omega) ?_
                exact W.zret (v := nI 1) hx hb hr rfl (fun U9 ht9 hW9 => ⟨⟨_, (ws_14, M, T), rfl, ⟨rfl, hc_16, hM, hLB, Nat.le_succ_of_le h15, hLR, hLT⟩, by show va_P D vwCl _ U9.heap ∧ va_P D vwCl _ U9.heap; rw [ht9]; exact ⟨hPw, hPa⟩⟩, hS.F ht9⟩) hS.2.2 dL_tenders_1091
              · refine lv_iload hx hb dL_tenders_1065 (lv_at hl 0 rfl) ?_
                refine n_if_ne (tgt := 1092) hx hb dL_tenders_1067 (by decide) (by have f1 : t_pr T (((8 * t9) + (4 * j9)) + b9) < 1048576 := Nat.mod_lt _ (by decide); omega) (fun c_21 => ?_) (fun c_21 => ?_)
                · have hk0 := wd_0 (M := M) (b := b9) (t := t9) (k := j9) (by omega) (by omega) (by omega) (by rw [hR.lotT hM (by omega) (by omega)]; exact decide_eq_true (by omega)) (show m_op M t9 = false by rw [← hR.opn hM (by omega)]; assumption) (by rw [← hR.pr (by omega)]; omega)
                  refine lv_aload hx hb dL_tenders_1092 (lv_at hl 12 rfl) ?_
                  refine lv_iload hx hb dL_tenders_1094 (lv_at hl 1 rfl) ?_
                  refine lv_iconst (v := nI 0) hx hb dL_tenders_1096 (by decide) ?_
                  refine b_iast (f := 3) (n := 16) (v := 0) hx hb hKa hPa hPw hdB hc.dis hAB hS (by decide) rfl (by have f1 := ht9; have f2 := hj9; have f3 := hb9; omega) (by decide) (aset_3 _ _ _ _ _) dL_tenders_1097 (fun H1 locs1 hPa1 hPw1 hS1 => ?_)
                  clear hPa hPw hS
                  have hPa := hPa1; have hPw := hPw1; have hS := hS1; clear hPa1 hPw1 hS1
                  refine lv_aload_n hx hb dL_tenders_1098 rfl (lv_at hl 5 rfl) ?_
                  refine lv_iload hx hb dL_tenders_1099 (lv_at hl 4 rfl) ?_
                  refine lv_iload hx hb dL_tenders_1101 (lv_at hl 3 rfl) ?_
                  refine lv_iload hx hb dL_tenders_1103 (lv_at hl 2 rfl) ?_
                  refine va_calli (vx_runSW (As := [.ref h, .int (nI b9), .int (nI t9), .int (nI j9)]) (rest := []) ⟨hx, hb, hml, hown, hts⟩ (cw_withdraw l hst D cI cO cb eA mi st dO dT vF ws hc hM hsI (nI b9) (nI t9) (nI j9)) (vx_cwSW 4 hts gL_tenders_L_withdraw rfl rfl rfl kd_L_withdraw ⟨Nat.le_of_ble_eq_true rfl, Nat.le_of_ble_eq_true rfl⟩) ⟨kB_blind, kB_pre hK hG hGT hN (fun q h9 => Or.inl h9) hS (fun q h9 => hA q (Nat.le_trans hS.1 h9)) hPw _⟩ rfl rfl hl.1 rfl (lv_room (Nat.le_of_ble_eq_true rfl)) dL_tenders_1105 ⟨by show 0 + 4 ≤ 42; omega, by show 0 + 24 ≤ 930; omega⟩) hS (fun _ _ h9 => Or.inl h9) (fun _ h9 => Or.inl h9) (fun r_22 ws_23 U8 H_27 locs_28 ht hvm hu_26 hB hz1 hk1 hS1 => ?_)
                  obtain ⟨hr_24, hc_25⟩ := hu_26
                  replace hB : va_P D vwCl ws_23 U8.heap := hB
                  rw [ht] at hB
                  replace hPa := aP_keep hPa hdB hAB hk1
                  clear hPw hS
                  have hPw := hB
                  have hS := hS1
                  clear hB hS1 hz1 hk1 hvm ht U8
                  have hv9 : e13 (k_withdraw M (nI b9) (nI t9) (nI j9)) (r_withdraw M (nI b9) (nI t9) (nI j9)) = nI (t_pr T (8 * t9 + 4 * j9 + b9)) := by rw [wd_r (by omega) (by omega) (by omega) hk0, hR.pr (by omega)]
                  rw [hv9] at hr_24
                  clear hv9
                  subst hr_24
                  have hM_29 : MI (g_withdraw M (nI b9) (nI t9) (nI j9)) := MI_withdraw hM (nI b9) (nI t9) (nI j9)
                  have hLB_30 : m_LB (g_withdraw M (nI b9) (nI t9) (nI j9)) := (LB_withdraw (nI b9) (nI t9) (nI j9)).1 hLB
                  have h15_31 : (g_withdraw M (nI b9) (nI t9) (nI j9)) 15 0 ≤ M 15 0 + 1 := (LB_withdraw (nI b9) (nI t9) (nI j9)).2
                  refine lv_iload hx hb dL_tenders_1108 (lv_at hl 0 rfl) ?_
                  refine n_icmp_ne (tgt := 1117) hx hb dL_tenders_1110 (by decide) (by have f1 : t_pr T (8 * t9 + 4 * j9 + b9) < 1048576 := Nat.mod_lt _ (by decide); omega) (by have f1 : t_pr T (((8 * t9) + (4 * j9)) + b9) < 1048576 := Nat.mod_lt _ (by decide); omega) (fun c_32 => absurd (by omega) c_32) (fun c_32 => ?_)
                  refine lv_iconst (v := nI 1) hx hb dL_tenders_1113 (by decide) ?_
                  refine lv_goto (tgt := 1118) hx hb dL_tenders_1114 (by decide) ?_
                  have hLR : LR (g_withdraw M (nI b9) (nI t9) (nI j9)) (mu T 3 (((8 * t9) + (4 * j9)) + b9) 0) := by rw [wd_g (by omega) (by omega) (by omega) hk0]; exact hR.withdrawS hM (by omega) (by omega) (show m_op M ((8 * t9 + 4 * j9 + b9) / 8) = false by rw [show (8 * t9 + 4 * j9 + b9) / 8 = t9 by omega, ← hR.opn hM (by omega)]; assumption)
                  have hLT : LT (mu T 3 (((8 * t9) + (4 * j9)) + b9) 0) := by exact ⟨(LTb_mu hT.1 (by show _ ≤ 134217727; omega)), by simp [mu]; omega, by simp [mu]; omega, by simp [mu]; omega, by simp [mu]; omega, by simp [mu]; omega⟩
                  refine W.widen (k := 42) (n := 930) (by omega) (by omega) ?_
                  exact W.zret (v := nI 1) hx hb hr rfl (fun U9 ht9 hW9 => ⟨⟨_, (ws_23, g_withdraw M (nI b9) (nI t9) (nI j9), mu T 3 (((8 * t9) + (4 * j9)) + b9) 0), rfl, ⟨rfl, hc_25, hM_29, hLB_30, Nat.le_trans h15_31 (Nat.succ_le_succ h15), hLR, hLT⟩, by show va_P D vwCl _ U9.heap ∧ va_P D vwCl _ U9.heap; rw [ht9]; exact ⟨hPw, hPa⟩⟩, hS.F ht9⟩) hS.2.2 dL_tenders_1118
                · refine lv_aload_n hx hb dL_tenders_1070 rfl (lv_at hl 5 rfl) ?_
                  refine lv_iload hx hb dL_tenders_1071 (lv_at hl 4 rfl) ?_
                  refine lv_iload hx hb dL_tenders_1073 (lv_at hl 3 rfl) ?_
                  refine lv_iload hx hb dL_tenders_1075 (lv_at hl 2 rfl) ?_
                  refine va_calli (vx_runSW (As := [.ref h, .int (nI b9), .int (nI t9), .int (nI j9)]) (rest := []) ⟨hx, hb, hml, hown, hts⟩ (cw_withdraw l hst D cI cO cb eA mi st dO dT vF ws hc hM hsI (nI b9) (nI t9) (nI j9)) (vx_cwSW 4 hts gL_tenders_L_withdraw rfl rfl rfl kd_L_withdraw ⟨Nat.le_of_ble_eq_true rfl, Nat.le_of_ble_eq_true rfl⟩) ⟨kB_blind, kB_pre hK hG hGT hN (fun q h9 => Or.inl h9) hS (fun q h9 => hA q (Nat.le_trans hS.1 h9)) hPw _⟩ rfl rfl hl.1 rfl (lv_room (Nat.le_of_ble_eq_true rfl)) dL_tenders_1077 ⟨by show 0 + 4 ≤ 42; omega, by show 0 + 24 ≤ 930; omega⟩) hS (fun _ _ h9 => Or.inl h9) (fun _ h9 => Or.inl h9) (fun r_33 ws_34 U8 H_38 locs_39 ht hvm hu_37 hB hz1 hk1 hS1 => ?_)
                  obtain ⟨hr_35, hc_36⟩ := hu_37
                  replace hB : va_P D vwCl ws_34 U8.heap := hB
                  rw [ht] at hB
                  replace hPa := aP_keep hPa hdB hAB hk1
                  clear hPw hS
                  have hPw := hB
                  have hS := hS1
                  clear hB hS1 hz1 hk1 hvm ht U8
                  have hk_40 : k_withdraw M (nI b9) (nI t9) (nI j9) = 2 := by exact wd_2 (by omega) (by omega) (by omega) (by rw [hR.lotT hM (by omega) (by omega)]; exact decide_eq_true (by omega)) (by first | exact Or.inl (show m_op M t9 = true by rw [← hR.opn hM (by omega)]; assumption) | exact Or.inr (by rw [← hR.pr (by omega)]; assumption))
                  rw [keep_withdraw (by rw [hk_40]; decide)] at hc_36
                  rw [hk_40] at hr_35
                  replace hr_35 : r_33 = (-7300) := hr_35
                  subst hr_35
                  refine lv_sipush (v := (-7300)) hx hb dL_tenders_1080 (by decide) ?_
                  refine lv_icmp_ne (tgt := 1090) hx hb dL_tenders_1083 (by decide)  (fun c9 => absurd c9 (by decide)) (fun _ => ?_)
                  refine lv_iconst (v := nI 1) hx hb dL_tenders_1086 (by decide) ?_
                  refine lv_goto (tgt := 1091) hx hb dL_tenders_1087 (by decide) ?_
                  have hLR : LR (M) (T) := by exact hR
                  have hLT : LT (T) := by exact hT
                  refine W.widen (k := 42) (n := 930) (by omega) (by omega) ?_
                  exact W.zret (v := nI 1) hx hb hr rfl (fun U9 ht9 hW9 => ⟨⟨_, (ws_34, M, T), rfl, ⟨rfl, hc_36, hM, hLB, Nat.le_succ_of_le h15, hLR, hLT⟩, by show va_P D vwCl _ U9.heap ∧ va_P D vwCl _ U9.heap; rw [ht9]; exact ⟨hPw, hPa⟩⟩, hS.F ht9⟩) hS.2.2 dL_tenders_1091
            · refine w_join (nL := 18) (pc1 := 789) (sk1 := []) (fun pr9 => [(14, .int (nI pr9)), (13, .int (nI (((8 * t9) + (4 * j9)) + b9))), (12, .int (nI j9)), (11, .int (nI t9)), (10, .int (nI b9)), (0, .ref h), (1, .int (nI act)), (2, .int y), (3, .int z), (4, .ref (ad 0)), (5, .ref (ad 1)), (6, .ref (ad 2)), (7, .ref (ad 3)), (8, .ref (ad 4)), (9, .ref (ad 11))]) (fun pr9 => 0 < pr9 ∧ pr9 ≤ 100000) (fun pr9 hpr9 ls hl => ?_) (fun hk_41 => ?_)
              · have h9_pr9 := hpr9
                refine w_join (nL := 18) (pc1 := 824) (sk1 := []) (fun qu9 => [(15, .int (nI qu9)), (14, .int (nI pr9)), (13, .int (nI (((8 * t9) + (4 * j9)) + b9))), (12, .int (nI j9)), (11, .int (nI t9)), (10, .int (nI b9)), (0, .ref h), (1, .int (nI act)), (2, .int y), (3, .int z), (4, .ref (ad 0)), (5, .ref (ad 1)), (6, .ref (ad 2)), (7, .ref (ad 3)), (8, .ref (ad 4)), (9, .ref (ad 11))]) (fun qu9 => qu9 ≤ 100) (fun qu9 hqu9 ls hl => ?_) (fun hk_42 => ?_)
                · have h9_qu9 := hqu9
                  refine lv_aload_n hx hb dL_tenders_824 rfl (lv_at hl 6 rfl) ?_
                  refine lv_bipush (v := nI 8) hx hb dL_tenders_825 (by decide) ?_
                  refine lv_iload hx hb dL_tenders_827 (lv_at hl 4 rfl) ?_
                  refine lv_iload hx hb dL_tenders_829 (lv_at hl 3 rfl) ?_
                  refine lv_iconst (v := nI 0) hx hb dL_tenders_831 (by decide) ?_
                  refine lv_iconst (v := nI 0) hx hb dL_tenders_832 (by decide) ?_
                  refine va_calli (vx_runSW (As := [.ref h, .int (nI 8), .int (nI t9), .int (nI j9), .int (nI 0), .int (nI 0)]) (rest := []) ⟨hx, hb, hml, hown, hts⟩ (cw_bid l hst D cI cO cb eA mi st dO dT vF ws hc hM hsI (nI 8) (nI t9) (nI j9) (nI 0) (nI 0)) (vx_cwSW 6 hts gL_tenders_L_bid rfl rfl rfl kd_L_bid ⟨Nat.le_of_ble_eq_true rfl, Nat.le_of_ble_eq_true rfl⟩) ⟨kB_blind, kB_pre hK hG hGT hN (fun q h9 => Or.inl h9) hS (fun q h9 => hA q (Nat.le_trans hS.1 h9)) hPw _⟩ rfl rfl hl.1 rfl (lv_room (Nat.le_of_ble_eq_true rfl)) dL_tenders_833 ⟨by show 0 + 6 ≤ 42; omega, by show 0 + 132 ≤ 930; omega⟩) hS (fun _ _ h9 => Or.inl h9) (fun _ h9 => Or.inl h9) (fun r_43 ws_44 U8 H_48 locs_49 ht hvm hu_47 hB hz1 hk1 hS1 => ?_)
                  obtain ⟨hr_45, hc_46⟩ := hu_47
                  replace hB : va_P D vwCl ws_44 U8.heap := hB
                  rw [ht] at hB
                  replace hPa := aP_keep hPa hdB hAB hk1
                  clear hPw hS
                  have hPw := hB
                  have hS := hS1
                  clear hB hS1 hz1 hk1 hvm ht U8
                  have hk_50 : k_bid M (nI 8) (nI t9) (nI j9) (nI 0) (nI 0) = 1 := by exact bid_1b (by omega) (by omega)
                  rw [keep_bid (by rw [hk_50]; decide)] at hc_46
                  rw [hk_50] at hr_45
                  replace hr_45 : r_43 = (-7100) := hr_45
                  subst hr_45
                  refine lv_sipush (v := (-7100)) hx hb dL_tenders_836 (by decide) ?_
                  refine lv_icmp_ne (tgt := 901) hx hb dL_tenders_839 (by decide)  (fun c9 => absurd c9 (by decide)) (fun _ => ?_)
                  refine lv_aload_n hx hb dL_tenders_842 rfl (lv_at hl 6 rfl) ?_
                  refine lv_iload hx hb dL_tenders_843 (lv_at hl 5 rfl) ?_
                  refine lv_iload hx hb dL_tenders_845 (lv_at hl 4 rfl) ?_
                  refine lv_iload hx hb dL_tenders_847 (lv_at hl 3 rfl) ?_
                  refine lv_iconst (v := nI 0) hx hb dL_tenders_849 (by decide) ?_
                  refine lv_iload hx hb dL_tenders_850 (lv_at hl 0 rfl) ?_
                  refine va_calli (vx_runSW (As := [.ref h, .int (nI b9), .int (nI t9), .int (nI j9), .int (nI 0), .int (nI qu9)]) (rest := []) ⟨hx, hb, hml, hown, hts⟩ (cw_bid l hst D cI cO cb eA mi st dO dT vF ws_44 hc_46 hM hsI (nI b9) (nI t9) (nI j9) (nI 0) (nI qu9)) (vx_cwSW 6 hts gL_tenders_L_bid rfl rfl rfl kd_L_bid ⟨Nat.le_of_ble_eq_true rfl, Nat.le_of_ble_eq_true rfl⟩) ⟨kB_blind, kB_pre hK hG hGT hN (fun q h9 => Or.inl h9) hS (fun q h9 => hA q (Nat.le_trans hS.1 h9)) hPw _⟩ rfl rfl hl.1 rfl (lv_room (Nat.le_of_ble_eq_true rfl)) dL_tenders_852 ⟨by show 6 + 6 ≤ 42; omega, by show 132 + 132 ≤ 930; omega⟩) hS (fun _ _ h9 => Or.inl h9) (fun _ h9 => Or.inl h9) (fun r_51 ws_52 U8 H_56 locs_57 ht hvm hu_55 hB hz1 hk1 hS1 => ?_)
                  obtain ⟨hr_53, hc_54⟩ := hu_55
                  replace hB : va_P D vwCl ws_52 U8.heap := hB
                  rw [ht] at hB
                  replace hPa := aP_keep hPa hdB hAB hk1
                  clear hPw hS
                  have hPw := hB
                  have hS := hS1
                  clear hB hS1 hz1 hk1 hvm ht U8
                  have hk_58 : k_bid M (nI b9) (nI t9) (nI j9) (nI 0) (nI qu9) = 2 := by exact bid_2 (by omega) (by rw [hR.lotT hM (by omega) (by omega)]; exact decide_eq_true (by omega)) (bid_p (by omega) (Or.inl rfl))
                  rw [keep_bid (by rw [hk_58]; decide)] at hc_54
                  rw [hk_58] at hr_53
                  replace hr_53 : r_51 = (-7200) := hr_53
                  subst hr_53
                  refine lv_sipush (v := (-7200)) hx hb dL_tenders_855 (by decide) ?_
                  refine lv_icmp_ne (tgt := 901) hx hb dL_tenders_858 (by decide)  (fun c9 => absurd c9 (by decide)) (fun _ => ?_)
                  refine lv_aload_n hx hb dL_tenders_861 rfl (lv_at hl 6 rfl) ?_
                  refine lv_iload hx hb dL_tenders_862 (lv_at hl 5 rfl) ?_
                  refine lv_iload hx hb dL_tenders_864 (lv_at hl 4 rfl) ?_
                  refine lv_iload hx hb dL_tenders_866 (lv_at hl 3 rfl) ?_
                  refine lv_ldc (v := nI 100001) hx hb hown (hts (.constant RL 167 (100001)) (List.mem_of_getElem? (i := 2) rfl)) dL_tenders_868 ?_
                  refine lv_iload hx hb dL_tenders_870 (lv_at hl 0 rfl) ?_
                  refine va_calli (vx_runSW (As := [.ref h, .int (nI b9), .int (nI t9), .int (nI j9), .int (nI 100001), .int (nI qu9)]) (rest := []) ⟨hx, hb, hml, hown, hts⟩ (cw_bid l hst D cI cO cb eA mi st dO dT vF ws_52 hc_54 hM hsI (nI b9) (nI t9) (nI j9) (nI 100001) (nI qu9)) (vx_cwSW 6 hts gL_tenders_L_bid rfl rfl rfl kd_L_bid ⟨Nat.le_of_ble_eq_true rfl, Nat.le_of_ble_eq_true rfl⟩) ⟨kB_blind, kB_pre hK hG hGT hN (fun q h9 => Or.inl h9) hS (fun q h9 => hA q (Nat.le_trans hS.1 h9)) hPw _⟩ rfl rfl hl.1 rfl (lv_room (Nat.le_of_ble_eq_true rfl)) dL_tenders_872 ⟨by show 12 + 6 ≤ 42; omega, by show 264 + 132 ≤ 930; omega⟩) hS (fun _ _ h9 => Or.inl h9) (fun _ h9 => Or.inl h9) (fun r_59 ws_60 U8 H_64 locs_65 ht hvm hu_63 hB hz1 hk1 hS1 => ?_)
                  obtain ⟨hr_61, hc_62⟩ := hu_63
                  replace hB : va_P D vwCl ws_60 U8.heap := hB
                  rw [ht] at hB
                  replace hPa := aP_keep hPa hdB hAB hk1
                  clear hPw hS
                  have hPw := hB
                  have hS := hS1
                  clear hB hS1 hz1 hk1 hvm ht U8
                  have hk_66 : k_bid M (nI b9) (nI t9) (nI j9) (nI 100001) (nI qu9) = 2 := by exact bid_2 (by omega) (by rw [hR.lotT hM (by omega) (by omega)]; exact decide_eq_true (by omega)) (bid_p (by omega) (Or.inr (by omega)))
                  rw [keep_bid (by rw [hk_66]; decide)] at hc_62
                  rw [hk_66] at hr_61
                  replace hr_61 : r_59 = (-7200) := hr_61
                  subst hr_61
                  refine lv_sipush (v := (-7200)) hx hb dL_tenders_875 (by decide) ?_
                  refine lv_icmp_ne (tgt := 901) hx hb dL_tenders_878 (by decide)  (fun c9 => absurd c9 (by decide)) (fun _ => ?_)
                  refine lv_aload_n hx hb dL_tenders_881 rfl (lv_at hl 6 rfl) ?_
                  refine lv_iload hx hb dL_tenders_882 (lv_at hl 5 rfl) ?_
                  refine lv_iload hx hb dL_tenders_884 (lv_at hl 4 rfl) ?_
                  refine lv_iload hx hb dL_tenders_886 (lv_at hl 3 rfl) ?_
                  refine lv_iload hx hb dL_tenders_888 (lv_at hl 1 rfl) ?_
                  refine lv_bipush (v := nI 101) hx hb dL_tenders_890 (by decide) ?_
                  refine va_calli (vx_runSW (As := [.ref h, .int (nI b9), .int (nI t9), .int (nI j9), .int (nI pr9), .int (nI 101)]) (rest := []) ⟨hx, hb, hml, hown, hts⟩ (cw_bid l hst D cI cO cb eA mi st dO dT vF ws_60 hc_62 hM hsI (nI b9) (nI t9) (nI j9) (nI pr9) (nI 101)) (vx_cwSW 6 hts gL_tenders_L_bid rfl rfl rfl kd_L_bid ⟨Nat.le_of_ble_eq_true rfl, Nat.le_of_ble_eq_true rfl⟩) ⟨kB_blind, kB_pre hK hG hGT hN (fun q h9 => Or.inl h9) hS (fun q h9 => hA q (Nat.le_trans hS.1 h9)) hPw _⟩ rfl rfl hl.1 rfl (lv_room (Nat.le_of_ble_eq_true rfl)) dL_tenders_892 ⟨by show 18 + 6 ≤ 42; omega, by show 396 + 132 ≤ 930; omega⟩) hS (fun _ _ h9 => Or.inl h9) (fun _ h9 => Or.inl h9) (fun r_67 ws_68 U8 H_72 locs_73 ht hvm hu_71 hB hz1 hk1 hS1 => ?_)
                  obtain ⟨hr_69, hc_70⟩ := hu_71
                  replace hB : va_P D vwCl ws_68 U8.heap := hB
                  rw [ht] at hB
                  replace hPa := aP_keep hPa hdB hAB hk1
                  clear hPw hS
                  have hPw := hB
                  have hS := hS1
                  clear hB hS1 hz1 hk1 hvm ht U8
                  have hk_74 : k_bid M (nI b9) (nI t9) (nI j9) (nI pr9) (nI 101) = 2 := by exact bid_2 (by omega) (by rw [hR.lotT hM (by omega) (by omega)]; exact decide_eq_true (by omega)) (bid_q (by omega) (by omega))
                  rw [keep_bid (by rw [hk_74]; decide)] at hc_70
                  rw [hk_74] at hr_69
                  replace hr_69 : r_67 = (-7200) := hr_69
                  subst hr_69
                  refine lv_sipush (v := (-7200)) hx hb dL_tenders_895 (by decide) ?_
                  refine lv_icmp_eq (tgt := 903) hx hb dL_tenders_898 (by decide)  (fun _ => ?_) (fun c9 => absurd c9 (by decide))
                  refine lv_aload hx hb dL_tenders_903 (lv_at hl 11 rfl) ?_
                  refine lv_aload hx hb dL_tenders_905 (lv_at hl 15 rfl) ?_
                  refine lv_iload hx hb dL_tenders_907 (lv_at hl 4 rfl) ?_
                  refine vp_callSi (W.runS (As := [.ref (ad 1), .ref (ad 11), .int (nI t9)]) (rest := []) ⟨hx, hb, hml, hown, hts⟩ (ch_isOpened l D ad cI T hT t9 (by have f1 := ht9; omega)) (va_cwS 3 hts gL_tenders_L_isOpened rfl rfl rfl kd_L_isOpened ⟨Nat.le_of_ble_eq_true rfl, Nat.le_of_ble_eq_true rfl⟩) ⟨aB_blind, a_pre hKa hPa _⟩ rfl rfl hl.1 rfl (lv_room (Nat.le_of_ble_eq_true rfl)) dL_tenders_909 ⟨Nat.le_of_ble_eq_true rfl, Nat.le_of_ble_eq_true rfl⟩) (fun r_75 hr_75 => ?_)
                  subst hr_75
                  refine b_if_eq (tgt := 941) hx hb dL_tenders_912 (by decide)  (fun c_76 => ?_) (fun c_76 => ?_)
                  · refine lv_aload hx hb dL_tenders_941 (lv_at hl 13 rfl) ?_
                    refine lv_iload hx hb dL_tenders_943 (lv_at hl 2 rfl) ?_
                    refine lv_iload hx hb dL_tenders_945 (lv_at hl 1 rfl) ?_
                    refine lv_iload hx hb dL_tenders_947 (lv_at hl 0 rfl) ?_
                    refine lv_bipush (v := nI 20) hx hb dL_tenders_949 (by decide) ?_
                    refine lv_ishl hx hb dL_tenders_951 ?_
                    rw [show (nI qu9) <<< ((nI 20) &&& 31) = nI (qu9 * 1048576) from n_shlK (by decide) rfl (by have f1 := hqu9; omega)]
                    refine n_iadd hx hb dL_tenders_952 (z := pr9 + (qu9 * 1048576)) rfl ?_
                    refine b_iast (f := 3) (n := 16) (v := pr9 + (qu9 * 1048576)) hx hb hKa hPa hPw hdB hc_70.dis hAB hS (by decide) rfl (by have f1 := ht9; have f2 := hj9; have f3 := hb9; omega) (by decide) (aset_3 _ _ _ _ _) dL_tenders_953 (fun H1 locs1 hPa1 hPw1 hS1 => ?_)
                    clear hPa hPw hS
                    have hPa := hPa1; have hPw := hPw1; have hS := hS1; clear hPa1 hPw1 hS1
                    refine lv_aload hx hb dL_tenders_954 (lv_at hl 15 rfl) ?_
                    refine lv_iconst (v := nI 2) hx hb dL_tenders_956 (by decide) ?_
                    refine lv_dup2_11 hx hb dL_tenders_957 rfl rfl ?_
                    refine a_iald (f := 11) (n := 7) hx hb hKa hPa rfl (by decide) (by decide) dL_tenders_958 ?_
                    rw [show (mu T 3 (((8 * t9) + (4 * j9)) + b9) (pr9 + (qu9 * 1048576))) 11 2 = T 11 2 from (by simp [mu])]
                    refine lv_iconst (v := nI 1) hx hb dL_tenders_959 (by decide) ?_
                    refine n_iadd hx hb dL_tenders_960 (z := (T 11 2) + 1) rfl ?_
                    refine b_iast (f := 11) (n := 7) (v := (T 11 2) + 1) hx hb hKa hPa hPw hdB hc_70.dis hAB hS (by decide) rfl (by decide) (by decide) (aset_11 _ _ _ _ _) dL_tenders_961 (fun H1 locs1 hPa1 hPw1 hS1 => ?_)
                    clear hPa hPw hS
                    have hPa := hPa1; have hPw := hPw1; have hS := hS1; clear hPa1 hPw1 hS1
                    refine lv_aload hx hb dL_tenders_962 (lv_at hl 14 rfl) ?_
                    refine lv_iload hx hb dL_tenders_964 (lv_at hl 2 rfl) ?_
                    refine lv_aload hx hb dL_tenders_966 (lv_at hl 15 rfl) ?_
                    refine lv_iconst (v := nI 2) hx hb dL_tenders_968 (by decide) ?_
                    refine a_iald (f := 11) (n := 7) hx hb hKa hPa rfl (by decide) (by decide) dL_tenders_969 ?_
                    rw [show (mu (mu T 3 (((8 * t9) + (4 * j9)) + b9) (pr9 + (qu9 * 1048576))) 11 2 ((T 11 2) + 1)) 11 2 = T 11 2 + 1 from (by simp [mu])]
                    refine b_iast (f := 4) (n := 16) (v := T 11 2 + 1) hx hb hKa hPa hPw hdB hc_70.dis hAB hS (by decide) rfl (by have f1 := ht9; have f2 := hj9; have f3 := hb9; omega) (by decide) (aset_4 _ _ _ _ _) dL_tenders_970 (fun H1 locs1 hPa1 hPw1 hS1 => ?_)
                    clear hPa hPw hS
                    have hPa := hPa1; have hPw := hPw1; have hS := hS1; clear hPa1 hPw1 hS1
                    have hTn : LT (mu (mu (mu T 3 (((8 * t9) + (4 * j9)) + b9) (pr9 + (qu9 * 1048576))) 11 2 ((T 11 2) + 1)) 4 (((8 * t9) + (4 * j9)) + b9) (T 11 2 + 1)) := ⟨LTb_mu (LTb_mu (LTb_mu hT.1 (by show _ ≤ 134217727; omega)) (by show _ ≤ 2000; omega)) (by show _ ≤ 1000; omega), by simp [mu]; omega, by simp [mu]; omega, by simp [mu]; omega, by simp [mu]; omega, by simp [mu]; omega⟩
                    obtain ⟨T9, eT9⟩ : ∃ T9 : MS, T9 = mu (mu (mu T 3 (((8 * t9) + (4 * j9)) + b9) (pr9 + (qu9 * 1048576))) 11 2 ((T 11 2) + 1)) 4 (((8 * t9) + (4 * j9)) + b9) (T 11 2 + 1) := ⟨_, rfl⟩
                    rw [← eT9] at hTn hPa
                    refine lv_iconst (v := nI 0) hx hb dL_tenders_971 (by decide) ?_
                    refine lv_istore (lv' := [(16, .int (nI 0)), (15, .int (nI qu9)), (14, .int (nI pr9)), (13, .int (nI (((8 * t9) + (4 * j9)) + b9))), (12, .int (nI j9)), (11, .int (nI t9)), (10, .int (nI b9)), (0, .ref h), (1, .int (nI act)), (2, .int y), (3, .int z), (4, .ref (ad 0)), (5, .ref (ad 1)), (6, .ref (ad 2)), (7, .ref (ad 3)), (8, .ref (ad 4)), (9, .ref (ad 11))]) hx hb dL_tenders_972 hl (by decide) rfl (fun ls hl => ?_)
                    refine lv_iload hx hb dL_tenders_974 (lv_at hl 3 rfl) ?_
                    refine lv_iconst (v := nI 4) hx hb dL_tenders_976 (by decide) ?_
                    refine n_idiv hx hb dL_tenders_977 (z := (((8 * t9) + (4 * j9)) + b9) / 4) (by have f1 := ht9; have f2 := hj9; have f3 := hb9; omega) (by decide) (by decide) rfl ?_
                    refine lv_iconst (v := nI 4) hx hb dL_tenders_978 (by decide) ?_
                    refine n_imul hx hb dL_tenders_979 (z := ((((8 * t9) + (4 * j9)) + b9) / 4) * 4) rfl ?_
                    refine lv_istore (lv' := [(17, .int (nI (((((8 * t9) + (4 * j9)) + b9) / 4) * 4))), (16, .int (nI 0)), (15, .int (nI qu9)), (14, .int (nI pr9)), (13, .int (nI (((8 * t9) + (4 * j9)) + b9))), (12, .int (nI j9)), (11, .int (nI t9)), (10, .int (nI b9)), (0, .ref h), (1, .int (nI act)), (2, .int y), (3, .int z), (4, .ref (ad 0)), (5, .ref (ad 1)), (6, .ref (ad 2)), (7, .ref (ad 3)), (8, .ref (ad 4)), (9, .ref (ad 11))]) hx hb dL_tenders_980 hl (by decide) rfl (fun ls hl => ?_)
                    have eI_77 : 8 * t9 + 4 * j9 + b9 = ((8 * t9) + (4 * j9)) + b9 := by rfl
                    have eI_78 : t_bcf T9 (8 * t9 + 4 * j9 + b9) 0 = 0 := by rfl
                    have eI_79 : (8 * t9 + 4 * j9 + b9) / 4 * 4 + 0 = ((((8 * t9) + (4 * j9)) + b9) / 4) * 4 := by omega
                    refine w_loop (e := 4) (nL := 18) (fun k => [(0, .ref h), (1, .int (nI act)), (2, .int y), (3, .int z), (4, .ref (ad 0)), (5, .ref (ad 1)), (6, .ref (ad 2)), (7, .ref (ad 3)), (8, .ref (ad 4)), (9, .ref (ad 11)), (10, .int (nI b9)), (11, .int (nI t9)), (12, .int (nI j9)), (13, .int (nI (8 * t9 + 4 * j9 + b9))), (14, .int (nI pr9)), (15, .int (nI qu9)), (16, .int (nI (t_bcf T9 (8 * t9 + 4 * j9 + b9) k))), (17, .int (nI ((8 * t9 + 4 * j9 + b9) / 4 * 4 + k)))]) (fun k hb_81 ih_80 ls hl => ?_) 0 (by omega) ls (lv_sub hl [8, 9, 10, 11, 12, 13, 14, 15, 16, 17, 7, 6, 5, 4, 3, 2, 1, 0] (by show lv_pick _ _ = [(0, .ref h), (1, .int (nI act)), (2, .int y), (3, .int z), (4, .ref (ad 0)), (5, .ref (ad 1)), (6, .ref (ad 2)), (7, .ref (ad 3)), (8, .ref (ad 4)), (9, .ref (ad 11)), (10, .int (nI b9)), (11, .int (nI t9)), (12, .int (nI j9)), (13, .int (nI (8 * t9 + 4 * j9 + b9))), (14, .int (nI pr9)), (15, .int (nI qu9)), (16, .int (nI (t_bcf T9 (8 * t9 + 4 * j9 + b9) 0))), (17, .int (nI ((8 * t9 + 4 * j9 + b9) / 4 * 4 + 0)))]; rw [eI_77, eI_78, eI_79]; rfl))
                    refine lv_iload hx hb dL_tenders_982 (lv_at hl 17 rfl) ?_
                    refine lv_iload hx hb dL_tenders_984 (lv_at hl 13 rfl) ?_
                    refine lv_iconst (v := nI 4) hx hb dL_tenders_986 (by decide) ?_
                    refine n_idiv hx hb dL_tenders_987 (z := (8 * t9 + 4 * j9 + b9) / 4) (by have f1 := hb9; have f2 := ht9; have f3 := hj9; omega) (by decide) (by decide) rfl ?_
                    refine lv_iconst (v := nI 4) hx hb dL_tenders_988 (by decide) ?_
                    refine n_imul hx hb dL_tenders_989 (z := ((8 * t9 + 4 * j9 + b9) / 4) * 4) rfl ?_
                    refine lv_iconst (v := nI 4) hx hb dL_tenders_990 (by decide) ?_
                    refine n_iadd hx hb dL_tenders_991 (z := (((8 * t9 + 4 * j9 + b9) / 4) * 4) + 4) rfl ?_
                    refine n_icmp_ge (tgt := 1019) hx hb dL_tenders_992 (by decide) (by omega) (by have f1 := hb9; have f2 := ht9; have f3 := hj9; omega) (fun c_83 => ?_) (fun c_83 => ?_)
                    · obtain rfl : 4 = k := by omega
                      have hk0 := bid_0 (M := M) (b := b9) (t := t9) (q := pr9) (z := qu9) (k := nI j9) (by omega) (by omega) (by rw [hR.lotT hM (by omega) (by omega)]; exact decide_eq_true (by omega)) (by omega) (by omega) (by omega) (show m_op M t9 = false by rw [← hR.opn hM (by omega)]; assumption)
                      have hL9 := hR.bidS hM (x := 8 * t9 + 4 * j9 + b9) (pr := pr9) (qu := qu9) (by omega) (by omega) (by have := hR.lot3 (j := 2 * t9 + j9) (by omega) (by omega); rw [show (8 * t9 + 4 * j9 + b9) / 4 % 2 = j9 by omega, show (8 * t9 + 4 * j9 + b9) / 8 = t9 by omega]; rw [show (2 * t9 + j9) % 2 = j9 by omega, show (2 * t9 + j9) / 2 = t9 by omega] at this; exact this.1) (by rw [show (8 * t9 + 4 * j9 + b9) / 8 = t9 by omega]; exact (show m_op M t9 = false by rw [← hR.opn hM (by omega)]; assumption)) (by omega) (by omega)
                      rw [← bid_g hk0 (by omega) (by omega) (by omega) (by omega) (by omega), show pr9 + 1048576 * qu9 = pr9 + qu9 * 1048576 by omega, ← eT9] at hL9
                      refine lv_aload_n hx hb dL_tenders_1019 rfl (lv_at hl 0 rfl) ?_
                      refine lv_iload hx hb dL_tenders_1020 (lv_at hl 10 rfl) ?_
                      refine lv_iload hx hb dL_tenders_1022 (lv_at hl 11 rfl) ?_
                      refine lv_iload hx hb dL_tenders_1024 (lv_at hl 12 rfl) ?_
                      refine lv_iload hx hb dL_tenders_1026 (lv_at hl 14 rfl) ?_
                      refine lv_iload hx hb dL_tenders_1028 (lv_at hl 15 rfl) ?_
                      refine va_calli (vx_runSW (As := [.ref h, .int (nI b9), .int (nI t9), .int (nI j9), .int (nI pr9), .int (nI qu9)]) (rest := []) ⟨hx, hb, hml, hown, hts⟩ (cw_bid l hst D cI cO cb eA mi st dO dT vF ws_68 hc_70 hM hsI (nI b9) (nI t9) (nI j9) (nI pr9) (nI qu9)) (vx_cwSW 6 hts gL_tenders_L_bid rfl rfl rfl kd_L_bid ⟨Nat.le_of_ble_eq_true rfl, Nat.le_of_ble_eq_true rfl⟩) ⟨kB_blind, kB_pre hK hG hGT hN (fun q h9 => Or.inl h9) hS (fun q h9 => hA q (Nat.le_trans hS.1 h9)) hPw _⟩ rfl rfl hl.1 rfl (lv_room (Nat.le_of_ble_eq_true rfl)) dL_tenders_1030 ⟨by show 24 + 6 ≤ 42; omega, by show 528 + 132 ≤ 930; omega⟩) hS (fun _ _ h9 => Or.inl h9) (fun _ h9 => Or.inl h9) (fun r_84 ws_85 U8 H_89 locs_90 ht hvm hu_88 hB hz1 hk1 hS1 => ?_)
                      obtain ⟨hr_86, hc_87⟩ := hu_88
                      replace hB : va_P D vwCl ws_85 U8.heap := hB
                      rw [ht] at hB
                      replace hPa := aP_keep hPa hdB hAB hk1
                      clear hPw hS
                      have hPw := hB
                      have hS := hS1
                      clear hB hS1 hz1 hk1 hvm ht U8
                      have hv9 : er (k_bid M (nI b9) (nI t9) (nI j9) (nI pr9) (nI qu9)) (r_bid M (nI b9) (nI t9) (nI j9) (nI pr9) (nI qu9)) = nI (t_bcf T9 (8 * t9 + 4 * j9 + b9) 4) := by have hk0 := bid_0 (M := M) (b := b9) (t := t9) (q := pr9) (z := qu9) (k := nI j9) (by omega) (by omega) (by rw [hR.lotT hM (by omega) (by omega)]; exact decide_eq_true (by omega)) (by omega) (by omega) (by omega) (show m_op M t9 = false by rw [← hR.opn hM (by omega)]; assumption); unfold r_bid; rw [if_pos hk0, hk0, nI_clamp (by omega), nI_clamp (by omega), hL9.bcf (by omega), show ml ((8 * t9 + 4 * j9 + b9) / 4) = 3 * t9 + j9 by show 3 * ((8 * t9 + 4 * j9 + b9) / 4 / 2) + (8 * t9 + 4 * j9 + b9) / 4 % 2 = _; omega]; rfl
                      rw [hv9] at hr_86
                      clear hv9
                      subst hr_86
                      have hM_91 : MI (g_bid M (nI b9) (nI t9) (nI j9) (nI pr9) (nI qu9)) := MI_bid hM (by omega) (nI b9) (nI t9) (nI j9) (nI pr9) (nI qu9)
                      have hLB_92 : m_LB (g_bid M (nI b9) (nI t9) (nI j9) (nI pr9) (nI qu9)) := (LB_bid (nI b9) (nI t9) (nI j9) (nI pr9) (nI qu9)).1 hLB
                      have h15_93 : (g_bid M (nI b9) (nI t9) (nI j9) (nI pr9) (nI qu9)) 15 0 ≤ M 15 0 + 1 := (LB_bid (nI b9) (nI t9) (nI j9) (nI pr9) (nI qu9)).2
                      refine lv_iload hx hb dL_tenders_1033 (lv_at hl 16 rfl) ?_
                      refine n_icmp_ne (tgt := 1042) hx hb dL_tenders_1035 (by decide) (by have f1 := (t_bcf_le (T := T9) (8 * t9 + 4 * j9 + b9) 4); omega) (by have f1 := (t_bcf_le (T := T9) (8 * t9 + 4 * j9 + b9) 4); omega) (fun c_94 => absurd (by omega) c_94) (fun c_94 => ?_)
                      refine lv_iconst (v := nI 1) hx hb dL_tenders_1038 (by decide) ?_
                      refine lv_goto (tgt := 1043) hx hb dL_tenders_1039 (by decide) ?_
                      have hLR : LR (g_bid M (nI b9) (nI t9) (nI j9) (nI pr9) (nI qu9)) (T9) := by exact hL9
                      have hLT : LT (T9) := by exact hTn
                      refine W.widen (k := 42) (n := 930) (by omega) (by omega) ?_
                      exact W.zret (v := nI 1) hx hb hr rfl (fun U9 ht9 hW9 => ⟨⟨_, (ws_85, g_bid M (nI b9) (nI t9) (nI j9) (nI pr9) (nI qu9), T9), rfl, ⟨rfl, hc_87, hM_91, hLB_92, Nat.le_trans h15_93 (Nat.succ_le_succ h15), hLR, hLT⟩, by show va_P D vwCl _ U9.heap ∧ va_P D vwCl _ U9.heap; rw [ht9]; exact ⟨hPw, hPa⟩⟩, hS.F ht9⟩) hS.2.2 dL_tenders_1043
                    · refine lv_iload hx hb dL_tenders_995 (lv_at hl 16 rfl) ?_
                      refine lv_aload hx hb dL_tenders_997 (lv_at hl 7 rfl) ?_
                      refine lv_iload hx hb dL_tenders_999 (lv_at hl 17 rfl) ?_
                      refine a_iald (f := 3) (n := 16) hx hb hKa hPa rfl (by omega) (by decide) dL_tenders_1001 ?_
                      refine n_if_le (tgt := 1009) hx hb dL_tenders_1002 (by decide) (by have f1 : T9 3 ((8 * t9 + 4 * j9 + b9) / 4 * 4 + k) ≤ 134217727 := hTn.1 3 ((8 * t9 + 4 * j9 + b9) / 4 * 4 + k); omega) (fun c_95 => ?_) (fun c_95 => ?_)
                      · refine lv_iconst (v := nI 0) hx hb dL_tenders_1009 (by decide) ?_
                        refine n_iadd hx hb dL_tenders_1010 (z := (t_bcf T9 (8 * t9 + 4 * j9 + b9) k) + 0) rfl ?_
                        refine lv_istore (lv' := [(16, .int (nI ((t_bcf T9 (8 * t9 + 4 * j9 + b9) k) + 0))), (0, .ref h), (1, .int (nI act)), (2, .int y), (3, .int z), (4, .ref (ad 0)), (5, .ref (ad 1)), (6, .ref (ad 2)), (7, .ref (ad 3)), (8, .ref (ad 4)), (9, .ref (ad 11)), (10, .int (nI b9)), (11, .int (nI t9)), (12, .int (nI j9)), (13, .int (nI (8 * t9 + 4 * j9 + b9))), (14, .int (nI pr9)), (15, .int (nI qu9)), (17, .int (nI ((8 * t9 + 4 * j9 + b9) / 4 * 4 + k)))]) hx hb dL_tenders_1011 hl (by decide) rfl (fun ls hl => ?_)
                        refine n_iinc (k := 17) (lv' := [(17, .int (nI ((8 * t9 + 4 * j9 + b9) / 4 * 4 + k + 1))), (16, .int (nI ((t_bcf T9 (8 * t9 + 4 * j9 + b9) k) + 0))), (0, .ref h), (1, .int (nI act)), (2, .int y), (3, .int z), (4, .ref (ad 0)), (5, .ref (ad 1)), (6, .ref (ad 2)), (7, .ref (ad 3)), (8, .ref (ad 4)), (9, .ref (ad 11)), (10, .int (nI b9)), (11, .int (nI t9)), (12, .int (nI j9)), (13, .int (nI (8 * t9 + 4 * j9 + b9))), (14, .int (nI pr9)), (15, .int (nI qu9))]) hx hb dL_tenders_1013 hl rfl (by decide) rfl (fun ls hl => ?_)
                        refine lv_goto (tgt := 982) hx hb dL_tenders_1016 (by decide) ?_
                        have e_96 : t_bcf T9 (8 * t9 + 4 * j9 + b9) (k + 1) = (t_bcf T9 (8 * t9 + 4 * j9 + b9) k) + 0 := by first | (rw [t_bcf, if_pos (by assumption)]) | (rw [t_bcf, if_neg (by omega)])
                        have e_97 : (8 * t9 + 4 * j9 + b9) / 4 * 4 + (k + 1) = (8 * t9 + 4 * j9 + b9) / 4 * 4 + k + 1 := by omega
                        refine ih_80 (by omega) ls ?_
                        show lv_has ls 18 [(0, .ref h), (1, .int (nI act)), (2, .int y), (3, .int z), (4, .ref (ad 0)), (5, .ref (ad 1)), (6, .ref (ad 2)), (7, .ref (ad 3)), (8, .ref (ad 4)), (9, .ref (ad 11)), (10, .int (nI b9)), (11, .int (nI t9)), (12, .int (nI j9)), (13, .int (nI (8 * t9 + 4 * j9 + b9))), (14, .int (nI pr9)), (15, .int (nI qu9)), (16, .int (nI (t_bcf T9 (8 * t9 + 4 * j9 + b9) (k + 1)))), (17, .int (nI ((8 * t9 + 4 * j9 + b9) / 4 * 4 + (k + 1))))]
                        rw [e_96, e_97]
                        exact lv_sub hl [2, 3, 4, 5, 6, 7, 8, 9, 10, 11, 12, 13, 14, 15, 16, 17, 1, 0] rfl
                      · refine lv_iconst (v := nI 1) hx hb dL_tenders_1005 (by decide) ?_
                        refine lv_goto (tgt := 1010) hx hb dL_tenders_1006 (by decide) ?_
                        refine n_iadd hx hb dL_tenders_1010 (z := (t_bcf T9 (8 * t9 + 4 * j9 + b9) k) + 1) rfl ?_
                        refine lv_istore (lv' := [(16, .int (nI ((t_bcf T9 (8 * t9 + 4 * j9 + b9) k) + 1))), (0, .ref h), (1, .int (nI act)), (2, .int y), (3, .int z), (4, .ref (ad 0)), (5, .ref (ad 1)), (6, .ref (ad 2)), (7, .ref (ad 3)), (8, .ref (ad 4)), (9, .ref (ad 11)), (10, .int (nI b9)), (11, .int (nI t9)), (12, .int (nI j9)), (13, .int (nI (8 * t9 + 4 * j9 + b9))), (14, .int (nI pr9)), (15, .int (nI qu9)), (17, .int (nI ((8 * t9 + 4 * j9 + b9) / 4 * 4 + k)))]) hx hb dL_tenders_1011 hl (by decide) rfl (fun ls hl => ?_)
                        refine n_iinc (k := 17) (lv' := [(17, .int (nI ((8 * t9 + 4 * j9 + b9) / 4 * 4 + k + 1))), (16, .int (nI ((t_bcf T9 (8 * t9 + 4 * j9 + b9) k) + 1))), (0, .ref h), (1, .int (nI act)), (2, .int y), (3, .int z), (4, .ref (ad 0)), (5, .ref (ad 1)), (6, .ref (ad 2)), (7, .ref (ad 3)), (8, .ref (ad 4)), (9, .ref (ad 11)), (10, .int (nI b9)), (11, .int (nI t9)), (12, .int (nI j9)), (13, .int (nI (8 * t9 + 4 * j9 + b9))), (14, .int (nI pr9)), (15, .int (nI qu9))]) hx hb dL_tenders_1013 hl rfl (by decide) rfl (fun ls hl => ?_)
                        refine lv_goto (tgt := 982) hx hb dL_tenders_1016 (by decide) ?_
                        have e_98 : t_bcf T9 (8 * t9 + 4 * j9 + b9) (k + 1) = (t_bcf T9 (8 * t9 + 4 * j9 + b9) k) + 1 := by first | (rw [t_bcf, if_pos (by assumption)]) | (rw [t_bcf, if_neg (by omega)])
                        have e_99 : (8 * t9 + 4 * j9 + b9) / 4 * 4 + (k + 1) = (8 * t9 + 4 * j9 + b9) / 4 * 4 + k + 1 := by omega
                        refine ih_80 (by omega) ls ?_
                        show lv_has ls 18 [(0, .ref h), (1, .int (nI act)), (2, .int y), (3, .int z), (4, .ref (ad 0)), (5, .ref (ad 1)), (6, .ref (ad 2)), (7, .ref (ad 3)), (8, .ref (ad 4)), (9, .ref (ad 11)), (10, .int (nI b9)), (11, .int (nI t9)), (12, .int (nI j9)), (13, .int (nI (8 * t9 + 4 * j9 + b9))), (14, .int (nI pr9)), (15, .int (nI qu9)), (16, .int (nI (t_bcf T9 (8 * t9 + 4 * j9 + b9) (k + 1)))), (17, .int (nI ((8 * t9 + 4 * j9 + b9) / 4 * 4 + (k + 1))))]
                        rw [e_98, e_99]
                        exact lv_sub hl [2, 3, 4, 5, 6, 7, 8, 9, 10, 11, 12, 13, 14, 15, 16, 17, 1, 0] rfl
                  · refine lv_aload_n hx hb dL_tenders_915 rfl (lv_at hl 6 rfl) ?_
                    refine lv_iload hx hb dL_tenders_916 (lv_at hl 5 rfl) ?_
                    refine lv_iload hx hb dL_tenders_918 (lv_at hl 4 rfl) ?_
                    refine lv_iload hx hb dL_tenders_920 (lv_at hl 3 rfl) ?_
                    refine lv_iload hx hb dL_tenders_922 (lv_at hl 1 rfl) ?_
                    refine lv_iload hx hb dL_tenders_924 (lv_at hl 0 rfl) ?_
                    refine va_calli (vx_runSW (As := [.ref h, .int (nI b9), .int (nI t9), .int (nI j9), .int (nI pr9), .int (nI qu9)]) (rest := []) ⟨hx, hb, hml, hown, hts⟩ (cw_bid l hst D cI cO cb eA mi st dO dT vF ws_68 hc_70 hM hsI (nI b9) (nI t9) (nI j9) (nI pr9) (nI qu9)) (vx_cwSW 6 hts gL_tenders_L_bid rfl rfl rfl kd_L_bid ⟨Nat.le_of_ble_eq_true rfl, Nat.le_of_ble_eq_true rfl⟩) ⟨kB_blind, kB_pre hK hG hGT hN (fun q h9 => Or.inl h9) hS (fun q h9 => hA q (Nat.le_trans hS.1 h9)) hPw _⟩ rfl rfl hl.1 rfl (lv_room (Nat.le_of_ble_eq_true rfl)) dL_tenders_926 ⟨by show 24 + 6 ≤ 42; omega, by show 528 + 132 ≤ 930; omega⟩) hS (fun _ _ h9 => Or.inl h9) (fun _ h9 => Or.inl h9) (fun r_100 ws_101 U8 H_105 locs_106 ht hvm hu_104 hB hz1 hk1 hS1 => ?_)
                    obtain ⟨hr_102, hc_103⟩ := hu_104
                    replace hB : va_P D vwCl ws_101 U8.heap := hB
                    rw [ht] at hB
                    replace hPa := aP_keep hPa hdB hAB hk1
                    clear hPw hS
                    have hPw := hB
                    have hS := hS1
                    clear hB hS1 hz1 hk1 hvm ht U8
                    have hk_107 : k_bid M (nI b9) (nI t9) (nI j9) (nI pr9) (nI qu9) = 3 := by exact bid_3 (by omega) (by omega) (by rw [hR.lotT hM (by omega) (by omega)]; exact decide_eq_true (by omega)) (by omega) (by omega) (by omega) (show m_op M t9 = true by rw [← hR.opn hM (by omega)]; assumption)
                    rw [keep_bid (by rw [hk_107]; decide)] at hc_103
                    rw [hk_107] at hr_102
                    replace hr_102 : r_100 = (-7300) := hr_102
                    subst hr_102
                    refine lv_sipush (v := (-7300)) hx hb dL_tenders_929 (by decide) ?_
                    refine lv_icmp_ne (tgt := 939) hx hb dL_tenders_932 (by decide)  (fun c9 => absurd c9 (by decide)) (fun _ => ?_)
                    refine lv_iconst (v := nI 1) hx hb dL_tenders_935 (by decide) ?_
                    refine lv_goto (tgt := 940) hx hb dL_tenders_936 (by decide) ?_
                    have hLR : LR (M) (T) := by exact hR
                    have hLT : LT (T) := by exact hT
                    refine W.widen (k := 42) (n := 930) (by omega) (by omega) ?_
                    exact W.zret (v := nI 1) hx hb hr rfl (fun U9 ht9 hW9 => ⟨⟨_, (ws_101, M, T), rfl, ⟨rfl, hc_103, hM, hLB, Nat.le_succ_of_le h15, hLR, hLT⟩, by show va_P D vwCl _ U9.heap ∧ va_P D vwCl _ U9.heap; rw [ht9]; exact ⟨hPw, hPa⟩⟩, hS.F ht9⟩) hS.2.2 dL_tenders_940
                · have hk9 := hk_42
                  refine lv_iload_n hx hb dL_tenders_789 rfl (lv_at hl 8 rfl) ?_
                  refine lv_bipush (v := nI 96) hx hb dL_tenders_790 (by decide) ?_
                  refine lv_iand hx hb dL_tenders_792 ?_
                  refine lv_if_ne (tgt := 808) hx hb dL_tenders_793 (by decide)  (fun c_108 => ?_) (fun c_108 => ?_)
                  · refine lv_bipush (v := nI 50) hx hb dL_tenders_808 (by decide) ?_
                    refine lv_bipush (v := nI 10) hx hb dL_tenders_810 (by decide) ?_
                    refine lv_iload_n hx hb dL_tenders_812 rfl (lv_at hl 8 rfl) ?_
                    refine lv_bipush (v := nI 7) hx hb dL_tenders_813 (by decide) ?_
                    refine lv_ishr hx hb dL_tenders_815 ?_
                    refine lv_iconst (v := nI 3) hx hb dL_tenders_816 (by decide) ?_
                    refine vp_callSi (W.runS (As := [.int (z >>> ((nI 7) &&& 31)), .int (nI 3)]) (rest := [.int (nI 10), .int (nI 50)]) ⟨hx, hb, hml, hown, hts⟩ (ch_low l (z >>> ((nI 7) &&& 31)) 3 (by omega) (by omega)) (va_cwS 2 hts gL_tenders_L_low rfl rfl rfl kd_L_low ⟨Nat.le_of_ble_eq_true rfl, Nat.le_of_ble_eq_true rfl⟩) ⟨fun _ _ _ _ q => q, fun U hU hW => ⟨rfl, trivial⟩⟩ rfl rfl hl.1 rfl (lv_room (Nat.le_of_ble_eq_true rfl)) dL_tenders_817 ⟨Nat.le_of_ble_eq_true rfl, Nat.le_of_ble_eq_true rfl⟩) (fun r_109 hr_109 => ?_)
                    subst hr_109
                    have hq9 : lowN (z >>> ((nI 7) &&& 31)) 3 < 3 := lowN_lt _ (by decide)
                    generalize lowN (z >>> ((nI 7) &&& 31)) 3 = q9 at hq9 ⊢
                    refine n_imul hx hb dL_tenders_820 (z := 10 * q9) rfl ?_
                    refine n_iadd hx hb dL_tenders_821 (z := 50 + (10 * q9)) rfl ?_
                    refine lv_istore (lv' := [(15, .int (nI (50 + (10 * q9)))), (14, .int (nI pr9)), (13, .int (nI (((8 * t9) + (4 * j9)) + b9))), (12, .int (nI j9)), (11, .int (nI t9)), (10, .int (nI b9)), (0, .ref h), (1, .int (nI act)), (2, .int y), (3, .int z), (4, .ref (ad 0)), (5, .ref (ad 1)), (6, .ref (ad 2)), (7, .ref (ad 3)), (8, .ref (ad 4)), (9, .ref (ad 11))]) hx hb dL_tenders_822 hl (by decide) rfl (fun ls hl => ?_)
                    exact hk_42 (50 + (10 * q9)) (by have f1 := hq9; omega) ls (lv_sub hl [0, 1, 2, 3, 4, 5, 6, 7, 8, 9, 10, 11, 12, 13, 14, 15] rfl)
                  · refine lv_iload_n hx hb dL_tenders_796 rfl (lv_at hl 8 rfl) ?_
                    refine lv_bipush (v := nI 7) hx hb dL_tenders_797 (by decide) ?_
                    refine lv_ishr hx hb dL_tenders_799 ?_
                    refine lv_bipush (v := nI 101) hx hb dL_tenders_800 (by decide) ?_
                    refine vp_callSi (W.runS (As := [.int (z >>> ((nI 7) &&& 31)), .int (nI 101)]) (rest := []) ⟨hx, hb, hml, hown, hts⟩ (ch_low l (z >>> ((nI 7) &&& 31)) 101 (by omega) (by omega)) (va_cwS 2 hts gL_tenders_L_low rfl rfl rfl kd_L_low ⟨Nat.le_of_ble_eq_true rfl, Nat.le_of_ble_eq_true rfl⟩) ⟨fun _ _ _ _ q => q, fun U hU hW => ⟨rfl, trivial⟩⟩ rfl rfl hl.1 rfl (lv_room (Nat.le_of_ble_eq_true rfl)) dL_tenders_802 ⟨Nat.le_of_ble_eq_true rfl, Nat.le_of_ble_eq_true rfl⟩) (fun r_110 hr_110 => ?_)
                    subst hr_110
                    have hq9 : lowN (z >>> ((nI 7) &&& 31)) 101 < 101 := lowN_lt _ (by decide)
                    generalize lowN (z >>> ((nI 7) &&& 31)) 101 = q9 at hq9 ⊢
                    refine lv_goto (tgt := 822) hx hb dL_tenders_805 (by decide) ?_
                    refine lv_istore (lv' := [(15, .int (nI q9)), (14, .int (nI pr9)), (13, .int (nI (((8 * t9) + (4 * j9)) + b9))), (12, .int (nI j9)), (11, .int (nI t9)), (10, .int (nI b9)), (0, .ref h), (1, .int (nI act)), (2, .int y), (3, .int z), (4, .ref (ad 0)), (5, .ref (ad 1)), (6, .ref (ad 2)), (7, .ref (ad 3)), (8, .ref (ad 4)), (9, .ref (ad 11))]) hx hb dL_tenders_822 hl (by decide) rfl (fun ls hl => ?_)
                    exact hk_42 q9 (by have f1 := hq9; omega) ls (lv_sub hl [0, 1, 2, 3, 4, 5, 6, 7, 8, 9, 10, 11, 12, 13, 14, 15] rfl)
              · have hk9 := hk_41
                refine lv_iload_n hx hb dL_tenders_751 rfl (lv_at hl 6 rfl) ?_
                refine lv_bipush (v := nI 96) hx hb dL_tenders_752 (by decide) ?_
                refine lv_iand hx hb dL_tenders_754 ?_
                refine lv_if_ne (tgt := 772) hx hb dL_tenders_755 (by decide)  (fun c_111 => ?_) (fun c_111 => ?_)
                · refine lv_bipush (v := nI 100) hx hb dL_tenders_772 (by decide) ?_
                  refine lv_bipush (v := nI 10) hx hb dL_tenders_774 (by decide) ?_
                  refine lv_iload_n hx hb dL_tenders_776 rfl (lv_at hl 6 rfl) ?_
                  refine lv_bipush (v := nI 7) hx hb dL_tenders_777 (by decide) ?_
                  refine lv_ishr hx hb dL_tenders_779 ?_
                  refine lv_bipush (v := nI 9) hx hb dL_tenders_780 (by decide) ?_
                  refine vp_callSi (W.runS (As := [.int (y >>> ((nI 7) &&& 31)), .int (nI 9)]) (rest := [.int (nI 10), .int (nI 100)]) ⟨hx, hb, hml, hown, hts⟩ (ch_low l (y >>> ((nI 7) &&& 31)) 9 (by omega) (by omega)) (va_cwS 2 hts gL_tenders_L_low rfl rfl rfl kd_L_low ⟨Nat.le_of_ble_eq_true rfl, Nat.le_of_ble_eq_true rfl⟩) ⟨fun _ _ _ _ q => q, fun U hU hW => ⟨rfl, trivial⟩⟩ rfl rfl hl.1 rfl (lv_room (Nat.le_of_ble_eq_true rfl)) dL_tenders_782 ⟨Nat.le_of_ble_eq_true rfl, Nat.le_of_ble_eq_true rfl⟩) (fun r_112 hr_112 => ?_)
                  subst hr_112
                  have hp9 : lowN (y >>> ((nI 7) &&& 31)) 9 < 9 := lowN_lt _ (by decide)
                  generalize lowN (y >>> ((nI 7) &&& 31)) 9 = p9 at hp9 ⊢
                  refine n_imul hx hb dL_tenders_785 (z := 10 * p9) rfl ?_
                  refine n_iadd hx hb dL_tenders_786 (z := 100 + (10 * p9)) rfl ?_
                  refine lv_istore (lv' := [(14, .int (nI (100 + (10 * p9)))), (13, .int (nI (((8 * t9) + (4 * j9)) + b9))), (12, .int (nI j9)), (11, .int (nI t9)), (10, .int (nI b9)), (0, .ref h), (1, .int (nI act)), (2, .int y), (3, .int z), (4, .ref (ad 0)), (5, .ref (ad 1)), (6, .ref (ad 2)), (7, .ref (ad 3)), (8, .ref (ad 4)), (9, .ref (ad 11))]) hx hb dL_tenders_787 hl (by decide) rfl (fun ls hl => ?_)
                  exact hk_41 (100 + (10 * p9)) (by have f1 := hp9; omega) ls (lv_sub hl [0, 1, 2, 3, 4, 5, 6, 7, 8, 9, 10, 11, 12, 13, 14] rfl)
                · refine lv_iconst (v := nI 1) hx hb dL_tenders_758 (by decide) ?_
                  refine lv_iload_n hx hb dL_tenders_759 rfl (lv_at hl 6 rfl) ?_
                  refine lv_bipush (v := nI 7) hx hb dL_tenders_760 (by decide) ?_
                  refine lv_ishr hx hb dL_tenders_762 ?_
                  refine lv_ldc (v := nI 100000) hx hb hown (hts (.constant RL 166 (100000)) (List.mem_of_getElem? (i := 1) rfl)) dL_tenders_763 ?_
                  refine vp_callSi (W.runS (As := [.int (y >>> ((nI 7) &&& 31)), .int (nI 100000)]) (rest := [.int (nI 1)]) ⟨hx, hb, hml, hown, hts⟩ (ch_low l (y >>> ((nI 7) &&& 31)) 100000 (by omega) (by omega)) (va_cwS 2 hts gL_tenders_L_low rfl rfl rfl kd_L_low ⟨Nat.le_of_ble_eq_true rfl, Nat.le_of_ble_eq_true rfl⟩) ⟨fun _ _ _ _ q => q, fun U hU hW => ⟨rfl, trivial⟩⟩ rfl rfl hl.1 rfl (lv_room (Nat.le_of_ble_eq_true rfl)) dL_tenders_765 ⟨Nat.le_of_ble_eq_true rfl, Nat.le_of_ble_eq_true rfl⟩) (fun r_113 hr_113 => ?_)
                  subst hr_113
                  have hp9 : lowN (y >>> ((nI 7) &&& 31)) 100000 < 100000 := lowN_lt _ (by decide)
                  generalize lowN (y >>> ((nI 7) &&& 31)) 100000 = p9 at hp9 ⊢
                  refine n_iadd hx hb dL_tenders_768 (z := 1 + p9) rfl ?_
                  refine lv_goto (tgt := 787) hx hb dL_tenders_769 (by decide) ?_
                  refine lv_istore (lv' := [(14, .int (nI (1 + p9))), (13, .int (nI (((8 * t9) + (4 * j9)) + b9))), (12, .int (nI j9)), (11, .int (nI t9)), (10, .int (nI b9)), (0, .ref h), (1, .int (nI act)), (2, .int y), (3, .int z), (4, .ref (ad 0)), (5, .ref (ad 1)), (6, .ref (ad 2)), (7, .ref (ad 3)), (8, .ref (ad 4)), (9, .ref (ad 11))]) hx hb dL_tenders_787 hl (by decide) rfl (fun ls hl => ?_)
                  exact hk_41 (1 + p9) (by have f1 := hp9; omega) ls (lv_sub hl [0, 1, 2, 3, 4, 5, 6, 7, 8, 9, 10, 11, 12, 13, 14] rfl)
          · rw [l_ge0 (by have := hT.1 2 (2 * t9 + j9); simp only [lcap] at this; omega)] at c_8
            refine lv_aload_n hx hb dL_tenders_676 rfl (lv_at hl 3 rfl) ?_
            refine lv_iload hx hb dL_tenders_677 (lv_at hl 2 rfl) ?_
            refine lv_iload hx hb dL_tenders_679 (lv_at hl 1 rfl) ?_
            refine lv_iload hx hb dL_tenders_681 (lv_at hl 0 rfl) ?_
            refine lv_iconst (v := nI 0) hx hb dL_tenders_683 (by decide) ?_
            refine lv_iconst (v := nI 0) hx hb dL_tenders_684 (by decide) ?_
            refine va_calli (vx_runSW (As := [.ref h, .int (nI b9), .int (nI t9), .int (nI j9), .int (nI 0), .int (nI 0)]) (rest := []) ⟨hx, hb, hml, hown, hts⟩ (cw_bid l hst D cI cO cb eA mi st dO dT vF ws hc hM hsI (nI b9) (nI t9) (nI j9) (nI 0) (nI 0)) (vx_cwSW 6 hts gL_tenders_L_bid rfl rfl rfl kd_L_bid ⟨Nat.le_of_ble_eq_true rfl, Nat.le_of_ble_eq_true rfl⟩) ⟨kB_blind, kB_pre hK hG hGT hN (fun q h9 => Or.inl h9) hS (fun q h9 => hA q (Nat.le_trans hS.1 h9)) hPw _⟩ rfl rfl hl.1 rfl (lv_room (Nat.le_of_ble_eq_true rfl)) dL_tenders_685 ⟨by show 0 + 6 ≤ 42; omega, by show 0 + 132 ≤ 930; omega⟩) hS (fun _ _ h9 => Or.inl h9) (fun _ h9 => Or.inl h9) (fun r_114 ws_115 U8 H_119 locs_120 ht hvm hu_118 hB hz1 hk1 hS1 => ?_)
            obtain ⟨hr_116, hc_117⟩ := hu_118
            replace hB : va_P D vwCl ws_115 U8.heap := hB
            rw [ht] at hB
            replace hPa := aP_keep hPa hdB hAB hk1
            clear hPw hS
            have hPw := hB
            have hS := hS1
            clear hB hS1 hz1 hk1 hvm ht U8
            have hk_121 : k_bid M (nI b9) (nI t9) (nI j9) (nI 0) (nI 0) = 1 := by exact bid_1l (by rw [hR.lotT hM (by omega) (by omega)]; exact decide_eq_false (by omega))
            rw [keep_bid (by rw [hk_121]; decide)] at hc_117
            rw [hk_121] at hr_116
            replace hr_116 : r_114 = (-7100) := hr_116
            subst hr_116
            refine lv_sipush (v := (-7100)) hx hb dL_tenders_688 (by decide) ?_
            refine lv_icmp_ne (tgt := 728) hx hb dL_tenders_691 (by decide)  (fun c9 => absurd c9 (by decide)) (fun _ => ?_)
            refine lv_aload_n hx hb dL_tenders_694 rfl (lv_at hl 3 rfl) ?_
            refine lv_bipush (v := nI 8) hx hb dL_tenders_695 (by decide) ?_
            refine lv_iload hx hb dL_tenders_697 (lv_at hl 1 rfl) ?_
            refine lv_iconst (v := nI 0) hx hb dL_tenders_699 (by decide) ?_
            refine va_calli (vx_runSW (As := [.ref h, .int (nI 8), .int (nI t9), .int (nI 0)]) (rest := []) ⟨hx, hb, hml, hown, hts⟩ (cw_withdraw l hst D cI cO cb eA mi st dO dT vF ws_115 hc_117 hM hsI (nI 8) (nI t9) (nI 0)) (vx_cwSW 4 hts gL_tenders_L_withdraw rfl rfl rfl kd_L_withdraw ⟨Nat.le_of_ble_eq_true rfl, Nat.le_of_ble_eq_true rfl⟩) ⟨kB_blind, kB_pre hK hG hGT hN (fun q h9 => Or.inl h9) hS (fun q h9 => hA q (Nat.le_trans hS.1 h9)) hPw _⟩ rfl rfl hl.1 rfl (lv_room (Nat.le_of_ble_eq_true rfl)) dL_tenders_700 ⟨by show 6 + 4 ≤ 42; omega, by show 132 + 24 ≤ 930; omega⟩) hS (fun _ _ h9 => Or.inl h9) (fun _ h9 => Or.inl h9) (fun r_122 ws_123 U8 H_127 locs_128 ht hvm hu_126 hB hz1 hk1 hS1 => ?_)
            obtain ⟨hr_124, hc_125⟩ := hu_126
            replace hB : va_P D vwCl ws_123 U8.heap := hB
            rw [ht] at hB
            replace hPa := aP_keep hPa hdB hAB hk1
            clear hPw hS
            have hPw := hB
            have hS := hS1
            clear hB hS1 hz1 hk1 hvm ht U8
            have hk_129 : k_withdraw M (nI 8) (nI t9) (nI 0) = 1 := by exact wd_1b (by omega) (by omega)
            rw [keep_withdraw (by rw [hk_129]; decide)] at hc_125
            rw [hk_129] at hr_124
            replace hr_124 : r_122 = (-7100) := hr_124
            subst hr_124
            refine lv_sipush (v := (-7100)) hx hb dL_tenders_703 (by decide) ?_
            refine lv_icmp_ne (tgt := 728) hx hb dL_tenders_706 (by decide)  (fun c9 => absurd c9 (by decide)) (fun _ => ?_)
            refine lv_aload_n hx hb dL_tenders_709 rfl (lv_at hl 3 rfl) ?_
            refine lv_iload hx hb dL_tenders_710 (lv_at hl 1 rfl) ?_
            refine lv_iload hx hb dL_tenders_712 (lv_at hl 0 rfl) ?_
            refine lv_iconst (v := (-1)) hx hb dL_tenders_714 (by decide) ?_
            refine va_calli (vx_runSW (As := [.ref h, .int (nI t9), .int (nI j9), .int (-1)]) (rest := []) ⟨hx, hb, hml, hown, hts⟩ (cw_ranked l hst D cI cO cb eA mi st dO dT vF ws_123 hc_125 hM hsI (nI t9) (nI j9) (-1)) (vx_cwSW 4 hts gL_tenders_L_ranked rfl rfl rfl kd_L_ranked ⟨Nat.le_of_ble_eq_true rfl, Nat.le_of_ble_eq_true rfl⟩) ⟨kB_blind, kB_pre hK hG hGT hN (fun q h9 => Or.inl h9) hS (fun q h9 => hA q (Nat.le_trans hS.1 h9)) hPw _⟩ rfl rfl hl.1 rfl (lv_room (Nat.le_of_ble_eq_true rfl)) dL_tenders_715 ⟨by show 10 + 3 ≤ 42; omega, by show 156 + 18 ≤ 930; omega⟩) hS (fun _ _ h9 => Or.inl h9) (fun _ h9 => Or.inl h9) (fun r_130 ws_131 U8 H_135 locs_136 ht hvm hu_134 hB hz1 hk1 hS1 => ?_)
            obtain ⟨hr_132, hc_133⟩ := hu_134
            replace hB : va_P D vwCl ws_131 U8.heap := hB
            rw [ht] at hB
            replace hPa := aP_keep hPa hdB hAB hk1
            clear hPw hS
            have hPw := hB
            have hS := hS1
            clear hB hS1 hz1 hk1 hvm ht U8
            have hk_137 : k_ranked M (nI t9) (nI j9) (-1) = 1 := by exact rk_1 (by rw [hR.lotT hM (by omega) (by omega)]; exact decide_eq_false (by omega))
            rw [hk_137] at hr_132
            replace hr_132 : r_130 = (-7100) := hr_132
            subst hr_132
            refine lv_sipush (v := (-7100)) hx hb dL_tenders_718 (by decide) ?_
            refine lv_icmp_ne (tgt := 728) hx hb dL_tenders_721 (by decide)  (fun c9 => absurd c9 (by decide)) (fun _ => ?_)
            refine lv_iconst (v := nI 1) hx hb dL_tenders_724 (by decide) ?_
            refine lv_goto (tgt := 729) hx hb dL_tenders_725 (by decide) ?_
            have hLR : LR (M) (T) := by exact hR
            have hLT : LT (T) := by exact hT
            refine W.widen (k := 42) (n := 930) (by omega) (by omega) ?_
            exact W.zret (v := nI 1) hx hb hr rfl (fun U9 ht9 hW9 => ⟨⟨_, (ws_131, M, T), rfl, ⟨rfl, hc_133, hM, hLB, Nat.le_succ_of_le h15, hLR, hLT⟩, by show va_P D vwCl _ U9.heap ∧ va_P D vwCl _ U9.heap; rw [ht9]; exact ⟨hPw, hPa⟩⟩, hS.F ht9⟩) hS.2.2 dL_tenders_729
        · refine lv_iload_n hx hb dL_tenders_512 rfl (lv_at hl 5 rfl) ?_
          refine lv_sipush (v := nI 1000) hx hb dL_tenders_513 (by decide) ?_
          refine vp_callSi (W.runS (As := [.int y, .int (nI 1000)]) (rest := []) ⟨hx, hb, hml, hown, hts⟩ (ch_low l y 1000 (by omega) (by omega)) (va_cwS 2 hts gL_tenders_L_low rfl rfl rfl kd_L_low ⟨Nat.le_of_ble_eq_true rfl, Nat.le_of_ble_eq_true rfl⟩) ⟨fun _ _ _ _ q => q, fun U hU hW => ⟨rfl, trivial⟩⟩ rfl rfl hl.1 rfl (lv_room (Nat.le_of_ble_eq_true rfl)) dL_tenders_516 ⟨Nat.le_of_ble_eq_true rfl, Nat.le_of_ble_eq_true rfl⟩) (fun r_138 hr_138 => ?_)
          subst hr_138
          have hd9 : lowN y 1000 < 1000 := lowN_lt _ (by decide)
          generalize lowN y 1000 = d9 at hd9 ⊢
          refine lv_istore (lv' := [(13, .int (nI d9)), (12, .int (nI j9)), (11, .int (nI t9)), (10, .int (nI b9)), (0, .ref h), (1, .int (nI act)), (2, .int y), (3, .int z), (4, .ref (ad 0)), (5, .ref (ad 1)), (6, .ref (ad 2)), (7, .ref (ad 3)), (8, .ref (ad 4)), (9, .ref (ad 11))]) hx hb dL_tenders_519 hl (by decide) rfl (fun ls hl => ?_)
          refine lv_aload_n hx hb dL_tenders_521 rfl (lv_at hl 4 rfl) ?_
          refine lv_iload hx hb dL_tenders_522 (lv_at hl 2 rfl) ?_
          refine lv_sipush (v := nI 10001) hx hb dL_tenders_524 (by decide) ?_
          refine va_calli (vx_runSW (As := [.ref h, .int (nI t9), .int (nI 10001)]) (rest := []) ⟨hx, hb, hml, hown, hts⟩ (cw_addLot l hst D cI cO cb eA mi st dO dT vF ws hc hM hsI (nI t9) (nI 10001)) (vx_cwSW 3 hts gL_tenders_L_addLot rfl rfl rfl kd_L_addLot ⟨Nat.le_of_ble_eq_true rfl, Nat.le_of_ble_eq_true rfl⟩) ⟨kB_blind, kB_pre hK hG hGT hN (fun q h9 => Or.inl h9) hS (fun q h9 => hA q (Nat.le_trans hS.1 h9)) hPw _⟩ rfl rfl hl.1 rfl (lv_room (Nat.le_of_ble_eq_true rfl)) dL_tenders_527 ⟨by show 0 + 6 ≤ 42; omega, by show 0 + 126 ≤ 930; omega⟩) hS (fun _ _ h9 => Or.inl h9) (fun _ h9 => Or.inl h9) (fun r_139 ws_140 U8 H_144 locs_145 ht hvm hu_143 hB hz1 hk1 hS1 => ?_)
          obtain ⟨hr_141, hc_142⟩ := hu_143
          replace hB : va_P D vwCl ws_140 U8.heap := hB
          rw [ht] at hB
          replace hPa := aP_keep hPa hdB hAB hk1
          clear hPw hS
          have hPw := hB
          have hS := hS1
          clear hB hS1 hz1 hk1 hvm ht U8
          have hk_146 : k_addLot M (nI t9) (nI 10001) = 2 := by exact lot_2 (by omega) (by omega) (by omega) (by omega)
          rw [keep_addLot (by rw [hk_146]; decide)] at hc_142
          rw [hk_146] at hr_141
          replace hr_141 : r_139 = (-7200) := hr_141
          subst hr_141
          refine lv_sipush (v := (-7200)) hx hb dL_tenders_530 (by decide) ?_
          refine lv_icmp_ne (tgt := 549) hx hb dL_tenders_533 (by decide)  (fun c9 => absurd c9 (by decide)) (fun _ => ?_)
          refine lv_aload_n hx hb dL_tenders_536 rfl (lv_at hl 4 rfl) ?_
          refine lv_iload hx hb dL_tenders_537 (lv_at hl 2 rfl) ?_
          refine lv_iconst (v := (-1)) hx hb dL_tenders_539 (by decide) ?_
          refine va_calli (vx_runSW (As := [.ref h, .int (nI t9), .int (-1)]) (rest := []) ⟨hx, hb, hml, hown, hts⟩ (cw_addLot l hst D cI cO cb eA mi st dO dT vF ws_140 hc_142 hM hsI (nI t9) (-1)) (vx_cwSW 3 hts gL_tenders_L_addLot rfl rfl rfl kd_L_addLot ⟨Nat.le_of_ble_eq_true rfl, Nat.le_of_ble_eq_true rfl⟩) ⟨kB_blind, kB_pre hK hG hGT hN (fun q h9 => Or.inl h9) hS (fun q h9 => hA q (Nat.le_trans hS.1 h9)) hPw _⟩ rfl rfl hl.1 rfl (lv_room (Nat.le_of_ble_eq_true rfl)) dL_tenders_540 ⟨by show 6 + 6 ≤ 42; omega, by show 126 + 126 ≤ 930; omega⟩) hS (fun _ _ h9 => Or.inl h9) (fun _ h9 => Or.inl h9) (fun r_147 ws_148 U8 H_152 locs_153 ht hvm hu_151 hB hz1 hk1 hS1 => ?_)
          obtain ⟨hr_149, hc_150⟩ := hu_151
          replace hB : va_P D vwCl ws_148 U8.heap := hB
          rw [ht] at hB
          replace hPa := aP_keep hPa hdB hAB hk1
          clear hPw hS
          have hPw := hB
          have hS := hS1
          clear hB hS1 hz1 hk1 hvm ht U8
          have hk_154 : k_addLot M (nI t9) (-1) = 2 := by exact lot_2n (by omega) (by omega) (by decide)
          rw [keep_addLot (by rw [hk_154]; decide)] at hc_150
          rw [hk_154] at hr_149
          replace hr_149 : r_147 = (-7200) := hr_149
          subst hr_149
          refine lv_sipush (v := (-7200)) hx hb dL_tenders_543 (by decide) ?_
          refine lv_icmp_eq (tgt := 551) hx hb dL_tenders_546 (by decide)  (fun _ => ?_) (fun c9 => absurd c9 (by decide))
          refine lv_aload hx hb dL_tenders_551 (lv_at hl 9 rfl) ?_
          refine lv_aload hx hb dL_tenders_553 (lv_at hl 13 rfl) ?_
          refine lv_iload hx hb dL_tenders_555 (lv_at hl 2 rfl) ?_
          refine vp_callSi (W.runS (As := [.ref (ad 1), .ref (ad 11), .int (nI t9)]) (rest := []) ⟨hx, hb, hml, hown, hts⟩ (ch_isOpened l D ad cI T hT t9 (by have f1 := ht9; omega)) (va_cwS 3 hts gL_tenders_L_isOpened rfl rfl rfl kd_L_isOpened ⟨Nat.le_of_ble_eq_true rfl, Nat.le_of_ble_eq_true rfl⟩) ⟨aB_blind, a_pre hKa hPa _⟩ rfl rfl hl.1 rfl (lv_room (Nat.le_of_ble_eq_true rfl)) dL_tenders_557 ⟨Nat.le_of_ble_eq_true rfl, Nat.le_of_ble_eq_true rfl⟩) (fun r_155 hr_155 => ?_)
          subst hr_155
          refine b_if_eq (tgt := 583) hx hb dL_tenders_560 (by decide)  (fun c_156 => ?_) (fun c_156 => ?_)
          · refine lv_aload hx hb dL_tenders_583 (lv_at hl 10 rfl) ?_
            refine lv_iconst (v := nI 2) hx hb dL_tenders_585 (by decide) ?_
            refine lv_iload hx hb dL_tenders_586 (lv_at hl 2 rfl) ?_
            refine n_imul hx hb dL_tenders_588 (z := 2 * t9) rfl ?_
            refine lv_iconst (v := nI 1) hx hb dL_tenders_589 (by decide) ?_
            refine n_iadd hx hb dL_tenders_590 (z := (2 * t9) + 1) rfl ?_
            refine a_iald2 hx hb hKa hPa (by have f1 := ht9; omega) dL_tenders_591 ?_
            refine lv_if_lt (tgt := 615) hx hb dL_tenders_592 (by decide)  (fun c_157 => ?_) (fun c_157 => ?_)
            · rw [l_lt0 (by have := hT.1 2 (2 * t9 + 1); simp only [lcap] at this; omega)] at c_157
              refine w_join (nL := 18) (pc1 := 632) (sk1 := []) (fun i9 => [(14, .int (nI i9)), (13, .int (nI d9)), (12, .int (nI j9)), (11, .int (nI t9)), (10, .int (nI b9)), (0, .ref h), (1, .int (nI act)), (2, .int y), (3, .int z), (4, .ref (ad 0)), (5, .ref (ad 1)), (6, .ref (ad 2)), (7, .ref (ad 3)), (8, .ref (ad 4)), (9, .ref (ad 11))]) (fun i9 => i9 = M 8 t9 ∧ i9 < 2) (fun i9 hi9 ls hl => ?_) (fun hk_158 => ?_)
              · have h9_i9 := hi9
                refine lv_aload hx hb dL_tenders_632 (lv_at hl 11 rfl) ?_
                refine lv_iconst (v := nI 2) hx hb dL_tenders_634 (by decide) ?_
                refine lv_iload hx hb dL_tenders_635 (lv_at hl 3 rfl) ?_
                refine n_imul hx hb dL_tenders_637 (z := 2 * t9) rfl ?_
                refine lv_iload hx hb dL_tenders_638 (lv_at hl 0 rfl) ?_
                refine n_iadd hx hb dL_tenders_640 (z := (2 * t9) + i9) rfl ?_
                refine lv_iload hx hb dL_tenders_641 (lv_at hl 1 rfl) ?_
                refine b_iast2 (v := d9) hx hb hKa hPa hPw hdB hc_150.dis hAB hS (by have f1 := ht9; have f2 := hi9.1; have f3 := hi9.2; omega) dL_tenders_643 (fun H1 locs1 hPa1 hPw1 hS1 => ?_)
                clear hPa hPw hS
                have hPa := hPa1; have hPw := hPw1; have hS := hS1; clear hPa1 hPw1 hS1
                refine lv_aload_n hx hb dL_tenders_644 rfl (lv_at hl 5 rfl) ?_
                refine lv_iload hx hb dL_tenders_645 (lv_at hl 3 rfl) ?_
                refine lv_iload hx hb dL_tenders_647 (lv_at hl 1 rfl) ?_
                refine va_calli (vx_runSW (As := [.ref h, .int (nI t9), .int (nI d9)]) (rest := []) ⟨hx, hb, hml, hown, hts⟩ (cw_addLot l hst D cI cO cb eA mi st dO dT vF ws_148 hc_150 hM hsI (nI t9) (nI d9)) (vx_cwSW 3 hts gL_tenders_L_addLot rfl rfl rfl kd_L_addLot ⟨Nat.le_of_ble_eq_true rfl, Nat.le_of_ble_eq_true rfl⟩) ⟨kB_blind, kB_pre hK hG hGT hN (fun q h9 => Or.inl h9) hS (fun q h9 => hA q (Nat.le_trans hS.1 h9)) hPw _⟩ rfl rfl hl.1 rfl (lv_room (Nat.le_of_ble_eq_true rfl)) dL_tenders_649 ⟨by show 12 + 6 ≤ 42; omega, by show 252 + 126 ≤ 930; omega⟩) hS (fun _ _ h9 => Or.inl h9) (fun _ h9 => Or.inl h9) (fun r_159 ws_160 U8 H_164 locs_165 ht hvm hu_163 hB hz1 hk1 hS1 => ?_)
                obtain ⟨hr_161, hc_162⟩ := hu_163
                replace hB : va_P D vwCl ws_160 U8.heap := hB
                rw [ht] at hB
                replace hPa := aP_keep hPa hdB hAB hk1
                clear hPw hS
                have hPw := hB
                have hS := hS1
                clear hB hS1 hz1 hk1 hvm ht U8
                have hv9 : er (k_addLot M (nI t9) (nI d9)) (if k_addLot M (nI t9) (nI d9) = 0 then nI (M 8 (nI t9).toNatClampNeg) else nI 0) = nI i9 := by have hl8 := hR.lot8 (show t9 < 2 by omega); have hk0 := lot_0 (M := M) (t := t9) (d := d9) (by omega) (by omega) (by omega) (by omega) (show m_op M t9 = false by rw [← hR.opn hM (by omega)]; assumption); rw [hk0, if_pos rfl, nI_clamp (by omega), hi9.1]; rfl
                rw [hv9] at hr_161
                clear hv9
                subst hr_161
                have hM_166 : MI (g_addLot M (nI t9) (nI d9)) := MI_addLot hM (nI t9) (nI d9)
                have hLB_167 : m_LB (g_addLot M (nI t9) (nI d9)) := (LB_addLot (nI t9) (nI d9)).1 hLB
                have h15_168 : (g_addLot M (nI t9) (nI d9)) 15 0 ≤ M 15 0 + 1 := (LB_addLot (nI t9) (nI d9)).2
                refine lv_iload hx hb dL_tenders_652 (lv_at hl 0 rfl) ?_
                refine n_icmp_ne (tgt := 661) hx hb dL_tenders_654 (by decide) (by have f1 := hi9.1; have f2 := (hR.lot8 (show t9 < 2 by omega)).2.2; omega) (by have f1 := hi9.1; have f2 := hi9.2; omega) (fun c_169 => absurd (by omega) c_169) (fun c_169 => ?_)
                refine lv_iconst (v := nI 1) hx hb dL_tenders_657 (by decide) ?_
                refine lv_goto (tgt := 662) hx hb dL_tenders_658 (by decide) ?_
                have hLR : LR (g_addLot M (nI t9) (nI d9)) (mu T 2 ((2 * t9) + i9) (d9 + 1)) := by have hl8 := hR.lot8 (show t9 < 2 by omega); rw [lot_g (lot_0 (by omega) (by omega) (by omega) (by omega) (show m_op M t9 = false by rw [← hR.opn hM (by omega)]; assumption)) (by omega) (by omega), hi9.1]; exact hR.lotS hM (by omega) (by omega)
                have hLT : LT (mu T 2 ((2 * t9) + i9) (d9 + 1)) := by exact ⟨(LTb_mu hT.1 (by show _ ≤ 10001; omega)), by simp [mu]; omega, by simp [mu]; omega, by simp [mu]; omega, by simp [mu]; omega, by simp [mu]; omega⟩
                refine W.widen (k := 42) (n := 930) (by omega) (by omega) ?_
                exact W.zret (v := nI 1) hx hb hr rfl (fun U9 ht9 hW9 => ⟨⟨_, (ws_160, g_addLot M (nI t9) (nI d9), mu T 2 ((2 * t9) + i9) (d9 + 1)), rfl, ⟨rfl, hc_162, hM_166, hLB_167, Nat.le_trans h15_168 (Nat.succ_le_succ h15), hLR, hLT⟩, by show va_P D vwCl _ U9.heap ∧ va_P D vwCl _ U9.heap; rw [ht9]; exact ⟨hPw, hPa⟩⟩, hS.F ht9⟩) hS.2.2 dL_tenders_662
              · have hk9 := hk_158
                refine lv_aload hx hb dL_tenders_615 (lv_at hl 10 rfl) ?_
                refine lv_iconst (v := nI 2) hx hb dL_tenders_617 (by decide) ?_
                refine lv_iload hx hb dL_tenders_618 (lv_at hl 2 rfl) ?_
                refine n_imul hx hb dL_tenders_620 (z := 2 * t9) rfl ?_
                refine a_iald2 hx hb hKa hPa (by have f1 := ht9; omega) dL_tenders_621 ?_
                refine lv_if_ge (tgt := 629) hx hb dL_tenders_622 (by decide)  (fun c_170 => ?_) (fun c_170 => ?_)
                · rw [l_ge0 (by have := hT.1 2 (2 * t9); simp only [lcap] at this; omega)] at c_170
                  refine lv_iconst (v := nI 1) hx hb dL_tenders_629 (by decide) ?_
                  refine lv_istore (lv' := [(14, .int (nI 1)), (13, .int (nI d9)), (12, .int (nI j9)), (11, .int (nI t9)), (10, .int (nI b9)), (0, .ref h), (1, .int (nI act)), (2, .int y), (3, .int z), (4, .ref (ad 0)), (5, .ref (ad 1)), (6, .ref (ad 2)), (7, .ref (ad 3)), (8, .ref (ad 4)), (9, .ref (ad 11))]) hx hb dL_tenders_630 hl (by decide) rfl (fun ls hl => ?_)
                  exact hk_158 1 (by have hl8 := hR.lot8 (show t9 < 2 by omega); omega) ls (lv_sub hl [0, 1, 2, 3, 4, 5, 6, 7, 8, 9, 10, 11, 12, 13, 14] rfl)
                · rw [l_ge0 (by have := hT.1 2 (2 * t9); simp only [lcap] at this; omega)] at c_170
                  refine lv_iconst (v := nI 0) hx hb dL_tenders_625 (by decide) ?_
                  refine lv_goto (tgt := 630) hx hb dL_tenders_626 (by decide) ?_
                  refine lv_istore (lv' := [(14, .int (nI 0)), (13, .int (nI d9)), (12, .int (nI j9)), (11, .int (nI t9)), (10, .int (nI b9)), (0, .ref h), (1, .int (nI act)), (2, .int y), (3, .int z), (4, .ref (ad 0)), (5, .ref (ad 1)), (6, .ref (ad 2)), (7, .ref (ad 3)), (8, .ref (ad 4)), (9, .ref (ad 11))]) hx hb dL_tenders_630 hl (by decide) rfl (fun ls hl => ?_)
                  exact hk_158 0 (by have hl8 := hR.lot8 (show t9 < 2 by omega); omega) ls (lv_sub hl [0, 1, 2, 3, 4, 5, 6, 7, 8, 9, 10, 11, 12, 13, 14] rfl)
            · rw [l_lt0 (by have := hT.1 2 (2 * t9 + 1); simp only [lcap] at this; omega)] at c_157
              refine lv_aload_n hx hb dL_tenders_595 rfl (lv_at hl 4 rfl) ?_
              refine lv_iconst (v := nI 0) hx hb dL_tenders_596 (by decide) ?_
              refine lv_iload hx hb dL_tenders_597 (lv_at hl 2 rfl) ?_
              refine lv_iconst (v := nI 2) hx hb dL_tenders_599 (by decide) ?_
              refine va_calli (vx_runSW (As := [.ref h, .int (nI 0), .int (nI t9), .int (nI 2)]) (rest := []) ⟨hx, hb, hml, hown, hts⟩ (cw_isIn l hst D cI cO cb eA mi st dO dT vF ws_148 hc_150 hM hsI (nI 0) (nI t9) (nI 2)) (vx_cwSW 4 hts gL_tenders_L_isIn rfl rfl rfl kd_L_isIn ⟨Nat.le_of_ble_eq_true rfl, Nat.le_of_ble_eq_true rfl⟩) ⟨kB_blind, kB_pre hK hG hGT hN (fun q h9 => Or.inl h9) hS (fun q h9 => hA q (Nat.le_trans hS.1 h9)) hPw _⟩ rfl rfl hl.1 rfl (lv_room (Nat.le_of_ble_eq_true rfl)) dL_tenders_600 ⟨by show 12 + 3 ≤ 42; omega, by show 252 + 18 ≤ 930; omega⟩) hS (fun _ _ h9 => Or.inl h9) (fun _ h9 => Or.inl h9) (fun r_171 ws_172 U8 H_176 locs_177 ht hvm hu_175 hB hz1 hk1 hS1 => ?_)
              obtain ⟨hr_173, hc_174⟩ := hu_175
              replace hB : va_P D vwCl ws_172 U8.heap := hB
              rw [ht] at hB
              replace hPa := aP_keep hPa hdB hAB hk1
              clear hPw hS
              have hPw := hB
              have hS := hS1
              clear hB hS1 hz1 hk1 hvm ht U8
              have hk_178 : k_ask M (nI 0) (nI t9) (nI 2) = 1 := by exact ask_1l (m_isLot_k (hM 8 t9) (by omega) (by omega) (by have hl8 := hR.lot8 (show t9 < 2 by omega); omega))
              rw [hk_178] at hr_173
              replace hr_173 : r_171 = (-7100) := hr_173
              subst hr_173
              refine lv_sipush (v := (-7100)) hx hb dL_tenders_603 (by decide) ?_
              refine lv_icmp_ne (tgt := 613) hx hb dL_tenders_606 (by decide)  (fun c9 => absurd c9 (by decide)) (fun _ => ?_)
              refine lv_iconst (v := nI 1) hx hb dL_tenders_609 (by decide) ?_
              refine lv_goto (tgt := 614) hx hb dL_tenders_610 (by decide) ?_
              have hLR : LR (M) (T) := by exact hR
              have hLT : LT (T) := by exact hT
              refine W.widen (k := 42) (n := 930) (by omega) (by omega) ?_
              exact W.zret (v := nI 1) hx hb hr rfl (fun U9 ht9 hW9 => ⟨⟨_, (ws_172, M, T), rfl, ⟨rfl, hc_174, hM, hLB, Nat.le_succ_of_le h15, hLR, hLT⟩, by show va_P D vwCl _ U9.heap ∧ va_P D vwCl _ U9.heap; rw [ht9]; exact ⟨hPw, hPa⟩⟩, hS.F ht9⟩) hS.2.2 dL_tenders_614
          · refine lv_aload_n hx hb dL_tenders_563 rfl (lv_at hl 4 rfl) ?_
            refine lv_iload hx hb dL_tenders_564 (lv_at hl 2 rfl) ?_
            refine lv_iload hx hb dL_tenders_566 (lv_at hl 0 rfl) ?_
            refine va_calli (vx_runSW (As := [.ref h, .int (nI t9), .int (nI d9)]) (rest := []) ⟨hx, hb, hml, hown, hts⟩ (cw_addLot l hst D cI cO cb eA mi st dO dT vF ws_148 hc_150 hM hsI (nI t9) (nI d9)) (vx_cwSW 3 hts gL_tenders_L_addLot rfl rfl rfl kd_L_addLot ⟨Nat.le_of_ble_eq_true rfl, Nat.le_of_ble_eq_true rfl⟩) ⟨kB_blind, kB_pre hK hG hGT hN (fun q h9 => Or.inl h9) hS (fun q h9 => hA q (Nat.le_trans hS.1 h9)) hPw _⟩ rfl rfl hl.1 rfl (lv_room (Nat.le_of_ble_eq_true rfl)) dL_tenders_568 ⟨by show 12 + 6 ≤ 42; omega, by show 252 + 126 ≤ 930; omega⟩) hS (fun _ _ h9 => Or.inl h9) (fun _ h9 => Or.inl h9) (fun r_179 ws_180 U8 H_184 locs_185 ht hvm hu_183 hB hz1 hk1 hS1 => ?_)
            obtain ⟨hr_181, hc_182⟩ := hu_183
            replace hB : va_P D vwCl ws_180 U8.heap := hB
            rw [ht] at hB
            replace hPa := aP_keep hPa hdB hAB hk1
            clear hPw hS
            have hPw := hB
            have hS := hS1
            clear hB hS1 hz1 hk1 hvm ht U8
            have hk_186 : k_addLot M (nI t9) (nI d9) = 3 := by exact lot_3 (by omega) (by omega) (by omega) (Or.inr (show m_op M t9 = true by rw [← hR.opn hM (by omega)]; assumption))
            rw [keep_addLot (by rw [hk_186]; decide)] at hc_182
            rw [hk_186] at hr_181
            replace hr_181 : r_179 = (-7300) := hr_181
            subst hr_181
            refine lv_sipush (v := (-7300)) hx hb dL_tenders_571 (by decide) ?_
            refine lv_icmp_ne (tgt := 581) hx hb dL_tenders_574 (by decide)  (fun c9 => absurd c9 (by decide)) (fun _ => ?_)
            refine lv_iconst (v := nI 1) hx hb dL_tenders_577 (by decide) ?_
            refine lv_goto (tgt := 582) hx hb dL_tenders_578 (by decide) ?_
            have hLR : LR (M) (T) := by exact hR
            have hLT : LT (T) := by exact hT
            refine W.widen (k := 42) (n := 930) (by omega) (by omega) ?_
            exact W.zret (v := nI 1) hx hb hr rfl (fun U9 ht9 hW9 => ⟨⟨_, (ws_180, M, T), rfl, ⟨rfl, hc_182, hM, hLB, Nat.le_succ_of_le h15, hLR, hLT⟩, by show va_P D vwCl _ U9.heap ∧ va_P D vwCl _ U9.heap; rw [ht9]; exact ⟨hPw, hPa⟩⟩, hS.F ht9⟩) hS.2.2 dL_tenders_582
      · refine lv_aload_n hx hb dL_tenders_455 rfl (lv_at hl 3 rfl) ?_
        refine lv_iload hx hb dL_tenders_456 (lv_at hl 1 rfl) ?_
        refine lv_iconst (v := (-1)) hx hb dL_tenders_458 (by decide) ?_
        refine va_calli (vx_runSW (As := [.ref h, .int (nI t9), .int (-1)]) (rest := []) ⟨hx, hb, hml, hown, hts⟩ (cw_addLot l hst D cI cO cb eA mi st dO dT vF ws hc hM hsI (nI t9) (-1)) (vx_cwSW 3 hts gL_tenders_L_addLot rfl rfl rfl kd_L_addLot ⟨Nat.le_of_ble_eq_true rfl, Nat.le_of_ble_eq_true rfl⟩) ⟨kB_blind, kB_pre hK hG hGT hN (fun q h9 => Or.inl h9) hS (fun q h9 => hA q (Nat.le_trans hS.1 h9)) hPw _⟩ rfl rfl hl.1 rfl (lv_room (Nat.le_of_ble_eq_true rfl)) dL_tenders_459 ⟨by show 0 + 6 ≤ 42; omega, by show 0 + 126 ≤ 930; omega⟩) hS (fun _ _ h9 => Or.inl h9) (fun _ h9 => Or.inl h9) (fun r_187 ws_188 U8 H_192 locs_193 ht hvm hu_191 hB hz1 hk1 hS1 => ?_)
        obtain ⟨hr_189, hc_190⟩ := hu_191
        replace hB : va_P D vwCl ws_188 U8.heap := hB
        rw [ht] at hB
        replace hPa := aP_keep hPa hdB hAB hk1
        clear hPw hS
        have hPw := hB
        have hS := hS1
        clear hB hS1 hz1 hk1 hvm ht U8
        have hk_194 : k_addLot M (nI t9) (-1) = 1 := by exact lot_1 (by omega) (by omega) (by omega)
        rw [keep_addLot (by rw [hk_194]; decide)] at hc_190
        rw [hk_194] at hr_189
        replace hr_189 : r_187 = (-7100) := hr_189
        subst hr_189
        refine lv_sipush (v := (-7100)) hx hb dL_tenders_462 (by decide) ?_
        refine lv_icmp_ne (tgt := 504) hx hb dL_tenders_465 (by decide)  (fun c9 => absurd c9 (by decide)) (fun _ => ?_)
        refine lv_aload_n hx hb dL_tenders_468 rfl (lv_at hl 3 rfl) ?_
        refine lv_iload hx hb dL_tenders_469 (lv_at hl 2 rfl) ?_
        refine lv_iload hx hb dL_tenders_471 (lv_at hl 1 rfl) ?_
        refine lv_iconst (v := nI 0) hx hb dL_tenders_473 (by decide) ?_
        refine lv_iconst (v := nI 0) hx hb dL_tenders_474 (by decide) ?_
        refine lv_iconst (v := nI 0) hx hb dL_tenders_475 (by decide) ?_
        refine va_calli (vx_runSW (As := [.ref h, .int (nI b9), .int (nI t9), .int (nI 0), .int (nI 0), .int (nI 0)]) (rest := []) ⟨hx, hb, hml, hown, hts⟩ (cw_bid l hst D cI cO cb eA mi st dO dT vF ws_188 hc_190 hM hsI (nI b9) (nI t9) (nI 0) (nI 0) (nI 0)) (vx_cwSW 6 hts gL_tenders_L_bid rfl rfl rfl kd_L_bid ⟨Nat.le_of_ble_eq_true rfl, Nat.le_of_ble_eq_true rfl⟩) ⟨kB_blind, kB_pre hK hG hGT hN (fun q h9 => Or.inl h9) hS (fun q h9 => hA q (Nat.le_trans hS.1 h9)) hPw _⟩ rfl rfl hl.1 rfl (lv_room (Nat.le_of_ble_eq_true rfl)) dL_tenders_476 ⟨by show 6 + 6 ≤ 42; omega, by show 126 + 132 ≤ 930; omega⟩) hS (fun _ _ h9 => Or.inl h9) (fun _ h9 => Or.inl h9) (fun r_195 ws_196 U8 H_200 locs_201 ht hvm hu_199 hB hz1 hk1 hS1 => ?_)
        obtain ⟨hr_197, hc_198⟩ := hu_199
        replace hB : va_P D vwCl ws_196 U8.heap := hB
        rw [ht] at hB
        replace hPa := aP_keep hPa hdB hAB hk1
        clear hPw hS
        have hPw := hB
        have hS := hS1
        clear hB hS1 hz1 hk1 hvm ht U8
        have hk_202 : k_bid M (nI b9) (nI t9) (nI 0) (nI 0) (nI 0) = 1 := by exact bid_1l (m_isLot_t (by omega) (by omega) (by omega))
        rw [keep_bid (by rw [hk_202]; decide)] at hc_198
        rw [hk_202] at hr_197
        replace hr_197 : r_195 = (-7100) := hr_197
        subst hr_197
        refine lv_sipush (v := (-7100)) hx hb dL_tenders_479 (by decide) ?_
        refine lv_icmp_ne (tgt := 504) hx hb dL_tenders_482 (by decide)  (fun c9 => absurd c9 (by decide)) (fun _ => ?_)
        refine lv_aload_n hx hb dL_tenders_485 rfl (lv_at hl 3 rfl) ?_
        refine lv_iload hx hb dL_tenders_486 (lv_at hl 2 rfl) ?_
        refine lv_iload hx hb dL_tenders_488 (lv_at hl 1 rfl) ?_
        refine lv_iconst (v := nI 0) hx hb dL_tenders_490 (by decide) ?_
        refine va_calli (vx_runSW (As := [.ref h, .int (nI b9), .int (nI t9), .int (nI 0)]) (rest := []) ⟨hx, hb, hml, hown, hts⟩ (cw_withdraw l hst D cI cO cb eA mi st dO dT vF ws_196 hc_198 hM hsI (nI b9) (nI t9) (nI 0)) (vx_cwSW 4 hts gL_tenders_L_withdraw rfl rfl rfl kd_L_withdraw ⟨Nat.le_of_ble_eq_true rfl, Nat.le_of_ble_eq_true rfl⟩) ⟨kB_blind, kB_pre hK hG hGT hN (fun q h9 => Or.inl h9) hS (fun q h9 => hA q (Nat.le_trans hS.1 h9)) hPw _⟩ rfl rfl hl.1 rfl (lv_room (Nat.le_of_ble_eq_true rfl)) dL_tenders_491 ⟨by show 12 + 4 ≤ 42; omega, by show 258 + 24 ≤ 930; omega⟩) hS (fun _ _ h9 => Or.inl h9) (fun _ h9 => Or.inl h9) (fun r_203 ws_204 U8 H_208 locs_209 ht hvm hu_207 hB hz1 hk1 hS1 => ?_)
        obtain ⟨hr_205, hc_206⟩ := hu_207
        replace hB : va_P D vwCl ws_204 U8.heap := hB
        rw [ht] at hB
        replace hPa := aP_keep hPa hdB hAB hk1
        clear hPw hS
        have hPw := hB
        have hS := hS1
        clear hB hS1 hz1 hk1 hvm ht U8
        have hk_210 : k_withdraw M (nI b9) (nI t9) (nI 0) = 1 := by exact wd_1l (m_isLot_t (by omega) (by omega) (by omega))
        rw [keep_withdraw (by rw [hk_210]; decide)] at hc_206
        rw [hk_210] at hr_205
        replace hr_205 : r_203 = (-7100) := hr_205
        subst hr_205
        refine lv_sipush (v := (-7100)) hx hb dL_tenders_494 (by decide) ?_
        refine lv_icmp_ne (tgt := 504) hx hb dL_tenders_497 (by decide)  (fun c9 => absurd c9 (by decide)) (fun _ => ?_)
        refine lv_iconst (v := nI 1) hx hb dL_tenders_500 (by decide) ?_
        refine lv_goto (tgt := 505) hx hb dL_tenders_501 (by decide) ?_
        have hLR : LR (M) (T) := by exact hR
        have hLT : LT (T) := by exact hT
        refine W.widen (k := 42) (n := 930) (by omega) (by omega) ?_
        exact W.zret (v := nI 1) hx hb hr rfl (fun U9 ht9 hW9 => ⟨⟨_, (ws_204, M, T), rfl, ⟨rfl, hc_206, hM, hLB, Nat.le_succ_of_le h15, hLR, hLT⟩, by show va_P D vwCl _ U9.heap ∧ va_P D vwCl _ U9.heap; rw [ht9]; exact ⟨hPw, hPa⟩⟩, hS.F ht9⟩) hS.2.2 dL_tenders_505
    · refine lv_iload_n hx hb dL_tenders_296 rfl (lv_at hl 6 rfl) ?_
      refine lv_bipush (v := nI 6) hx hb dL_tenders_297 (by decide) ?_
      refine vp_callSi (W.runS (As := [.int z, .int (nI 6)]) (rest := []) ⟨hx, hb, hml, hown, hts⟩ (ch_low l z 6 (by omega) (by omega)) (va_cwS 2 hts gL_tenders_L_low rfl rfl rfl kd_L_low ⟨Nat.le_of_ble_eq_true rfl, Nat.le_of_ble_eq_true rfl⟩) ⟨fun _ _ _ _ q => q, fun U hU hW => ⟨rfl, trivial⟩⟩ rfl rfl hl.1 rfl (lv_room (Nat.le_of_ble_eq_true rfl)) dL_tenders_299 ⟨Nat.le_of_ble_eq_true rfl, Nat.le_of_ble_eq_true rfl⟩) (fun r_211 hr_211 => ?_)
      subst hr_211
      have hk9 : lowN z 6 < 6 := lowN_lt _ (by decide)
      generalize lowN z 6 = k9 at hk9 ⊢
      refine lv_istore (lv' := [(13, .int (nI k9)), (12, .int (nI j9)), (11, .int (nI t9)), (10, .int (nI b9)), (0, .ref h), (1, .int (nI act)), (2, .int y), (3, .int z), (4, .ref (ad 0)), (5, .ref (ad 1)), (6, .ref (ad 2)), (7, .ref (ad 3)), (8, .ref (ad 4)), (9, .ref (ad 11))]) hx hb dL_tenders_302 hl (by decide) rfl (fun ls hl => ?_)
      refine w_join (nL := 18) (pc1 := 333) (sk1 := []) (fun x9 => [(14, .int (nI x9 - nI 1)), (13, .int (nI k9)), (12, .int (nI j9)), (11, .int (nI t9)), (10, .int (nI b9)), (0, .ref h), (1, .int (nI act)), (2, .int y), (3, .int z), (4, .ref (ad 0)), (5, .ref (ad 1)), (6, .ref (ad 2)), (7, .ref (ad 3)), (8, .ref (ad 4)), (9, .ref (ad 11))]) (fun x9 => x9 ≤ 500) (fun x9 hx9 ls hl => ?_) (fun hk_212 => ?_)
      · have h9_x9 := hx9
        refine lv_aload hx hb dL_tenders_333 (lv_at hl 9 rfl) ?_
        refine lv_bipush (v := nI 6) hx hb dL_tenders_335 (by decide) ?_
        refine lv_iload hx hb dL_tenders_337 (lv_at hl 4 rfl) ?_
        refine n_imul hx hb dL_tenders_339 (z := 6 * b9) rfl ?_
        refine lv_iload hx hb dL_tenders_340 (lv_at hl 1 rfl) ?_
        refine n_iadd hx hb dL_tenders_342 (z := (6 * b9) + k9) rfl ?_
        refine a_iald (f := 0) (n := 24) hx hb hKa hPa rfl (by have f1 := hb9; have f2 := hk9; omega) (by decide) dL_tenders_343 ?_
        refine lv_iconst (v := nI 1) hx hb dL_tenders_344 (by decide) ?_
        refine lv_isub hx hb dL_tenders_345 ?_
        refine lv_istore (lv' := [(15, .int ((nI (T 0 ((6 * b9) + k9))) - (nI 1))), (14, .int (nI x9 - nI 1)), (13, .int (nI k9)), (12, .int (nI j9)), (11, .int (nI t9)), (10, .int (nI b9)), (0, .ref h), (1, .int (nI act)), (2, .int y), (3, .int z), (4, .ref (ad 0)), (5, .ref (ad 1)), (6, .ref (ad 2)), (7, .ref (ad 3)), (8, .ref (ad 4)), (9, .ref (ad 11))]) hx hb dL_tenders_346 hl (by decide) rfl (fun ls hl => ?_)
        refine lv_aload hx hb dL_tenders_348 (lv_at hl 10 rfl) ?_
        refine lv_bipush (v := nI 6) hx hb dL_tenders_350 (by decide) ?_
        refine lv_iload hx hb dL_tenders_352 (lv_at hl 5 rfl) ?_
        refine n_imul hx hb dL_tenders_354 (z := 6 * b9) rfl ?_
        refine lv_iload hx hb dL_tenders_355 (lv_at hl 2 rfl) ?_
        refine n_iadd hx hb dL_tenders_357 (z := (6 * b9) + k9) rfl ?_
        refine lv_iload hx hb dL_tenders_358 (lv_at hl 1 rfl) ?_
        refine lv_iconst (v := nI 1) hx hb dL_tenders_360 (by decide) ?_
        refine lv_iadd hx hb dL_tenders_361 ?_
        rw [show (nI x9 - nI 1 + nI 1 : Int32) = nI x9 from n_sub_add1 x9]
        refine b_iast (f := 0) (n := 24) (v := x9) hx hb hKa hPa hPw hdB hc.dis hAB hS (by decide) rfl (by have f1 := hb9; have f2 := hk9; omega) (by decide) (aset_0 _ _ _ _ _) dL_tenders_362 (fun H1 locs1 hPa1 hPw1 hS1 => ?_)
        clear hPa hPw hS
        have hPa := hPa1; have hPw := hPw1; have hS := hS1; clear hPa1 hPw1 hS1
        refine lv_aload_n hx hb dL_tenders_363 rfl (lv_at hl 6 rfl) ?_
        refine lv_bipush (v := nI 8) hx hb dL_tenders_364 (by decide) ?_
        refine lv_iconst (v := nI 0) hx hb dL_tenders_366 (by decide) ?_
        refine lv_iconst (v := nI 0) hx hb dL_tenders_367 (by decide) ?_
        refine va_calli (vx_runSW (As := [.ref h, .int (nI 8), .int (nI 0), .int (nI 0)]) (rest := []) ⟨hx, hb, hml, hown, hts⟩ (cw_paper l hst D cI cO cb eA mi st dO dT vF ws hc hM hsI (nI 8) (nI 0) (nI 0)) (vx_cwSW 4 hts gL_tenders_L_paper rfl rfl rfl kd_L_paper ⟨Nat.le_of_ble_eq_true rfl, Nat.le_of_ble_eq_true rfl⟩) ⟨kB_blind, kB_pre hK hG hGT hN (fun q h9 => Or.inl h9) hS (fun q h9 => hA q (Nat.le_trans hS.1 h9)) hPw _⟩ rfl rfl hl.1 rfl (lv_room (Nat.le_of_ble_eq_true rfl)) dL_tenders_368 ⟨by show 0 + 1 ≤ 42; omega, by show 0 + 6 ≤ 930; omega⟩) hS (fun _ _ h9 => Or.inl h9) (fun _ h9 => Or.inl h9) (fun r_213 ws_214 U8 H_218 locs_219 ht hvm hu_217 hB hz1 hk1 hS1 => ?_)
        obtain ⟨hr_215, hc_216⟩ := hu_217
        replace hB : va_P D vwCl ws_214 U8.heap := hB
        rw [ht] at hB
        replace hPa := aP_keep hPa hdB hAB hk1
        clear hPw hS
        have hPw := hB
        have hS := hS1
        clear hB hS1 hz1 hk1 hvm ht U8
        have hk_220 : k_paper (nI 8) (nI 0) (nI 0) = 1 := by exact pap_1b (by omega) (by omega)
        rw [keep_paper (by rw [hk_220]; decide)] at hc_216
        rw [hk_220] at hr_215
        replace hr_215 : r_213 = (-7100) := hr_215
        subst hr_215
        refine lv_sipush (v := (-7100)) hx hb dL_tenders_371 (by decide) ?_
        refine lv_icmp_ne (tgt := 444) hx hb dL_tenders_374 (by decide)  (fun c9 => absurd c9 (by decide)) (fun _ => ?_)
        refine lv_aload_n hx hb dL_tenders_377 rfl (lv_at hl 6 rfl) ?_
        refine lv_iload hx hb dL_tenders_378 (lv_at hl 5 rfl) ?_
        refine lv_bipush (v := nI 6) hx hb dL_tenders_380 (by decide) ?_
        refine lv_iconst (v := nI 0) hx hb dL_tenders_382 (by decide) ?_
        refine va_calli (vx_runSW (As := [.ref h, .int (nI b9), .int (nI 6), .int (nI 0)]) (rest := []) ⟨hx, hb, hml, hown, hts⟩ (cw_paper l hst D cI cO cb eA mi st dO dT vF ws_214 hc_216 hM hsI (nI b9) (nI 6) (nI 0)) (vx_cwSW 4 hts gL_tenders_L_paper rfl rfl rfl kd_L_paper ⟨Nat.le_of_ble_eq_true rfl, Nat.le_of_ble_eq_true rfl⟩) ⟨kB_blind, kB_pre hK hG hGT hN (fun q h9 => Or.inl h9) hS (fun q h9 => hA q (Nat.le_trans hS.1 h9)) hPw _⟩ rfl rfl hl.1 rfl (lv_room (Nat.le_of_ble_eq_true rfl)) dL_tenders_383 ⟨by show 1 + 1 ≤ 42; omega, by show 6 + 6 ≤ 930; omega⟩) hS (fun _ _ h9 => Or.inl h9) (fun _ h9 => Or.inl h9) (fun r_221 ws_222 U8 H_226 locs_227 ht hvm hu_225 hB hz1 hk1 hS1 => ?_)
        obtain ⟨hr_223, hc_224⟩ := hu_225
        replace hB : va_P D vwCl ws_222 U8.heap := hB
        rw [ht] at hB
        replace hPa := aP_keep hPa hdB hAB hk1
        clear hPw hS
        have hPw := hB
        have hS := hS1
        clear hB hS1 hz1 hk1 hvm ht U8
        have hk_228 : k_paper (nI b9) (nI 6) (nI 0) = 1 := by exact pap_1k (by omega) (by omega)
        rw [keep_paper (by rw [hk_228]; decide)] at hc_224
        rw [hk_228] at hr_223
        replace hr_223 : r_221 = (-7100) := hr_223
        subst hr_223
        refine lv_sipush (v := (-7100)) hx hb dL_tenders_386 (by decide) ?_
        refine lv_icmp_ne (tgt := 444) hx hb dL_tenders_389 (by decide)  (fun c9 => absurd c9 (by decide)) (fun _ => ?_)
        refine lv_aload_n hx hb dL_tenders_392 rfl (lv_at hl 6 rfl) ?_
        refine lv_iload hx hb dL_tenders_393 (lv_at hl 5 rfl) ?_
        refine lv_iload hx hb dL_tenders_395 (lv_at hl 2 rfl) ?_
        refine lv_sipush (v := nI 2001) hx hb dL_tenders_397 (by decide) ?_
        refine va_calli (vx_runSW (As := [.ref h, .int (nI b9), .int (nI k9), .int (nI 2001)]) (rest := []) ⟨hx, hb, hml, hown, hts⟩ (cw_paper l hst D cI cO cb eA mi st dO dT vF ws_222 hc_224 hM hsI (nI b9) (nI k9) (nI 2001)) (vx_cwSW 4 hts gL_tenders_L_paper rfl rfl rfl kd_L_paper ⟨Nat.le_of_ble_eq_true rfl, Nat.le_of_ble_eq_true rfl⟩) ⟨kB_blind, kB_pre hK hG hGT hN (fun q h9 => Or.inl h9) hS (fun q h9 => hA q (Nat.le_trans hS.1 h9)) hPw _⟩ rfl rfl hl.1 rfl (lv_room (Nat.le_of_ble_eq_true rfl)) dL_tenders_400 ⟨by show 2 + 1 ≤ 42; omega, by show 12 + 6 ≤ 930; omega⟩) hS (fun _ _ h9 => Or.inl h9) (fun _ h9 => Or.inl h9) (fun r_229 ws_230 U8 H_234 locs_235 ht hvm hu_233 hB hz1 hk1 hS1 => ?_)
        obtain ⟨hr_231, hc_232⟩ := hu_233
        replace hB : va_P D vwCl ws_230 U8.heap := hB
        rw [ht] at hB
        replace hPa := aP_keep hPa hdB hAB hk1
        clear hPw hS
        have hPw := hB
        have hS := hS1
        clear hB hS1 hz1 hk1 hvm ht U8
        have hk_236 : k_paper (nI b9) (nI k9) (nI 2001) = 2 := by exact pap_2 (by omega) (by omega) pap_u1
        rw [keep_paper (by rw [hk_236]; decide)] at hc_232
        rw [hk_236] at hr_231
        replace hr_231 : r_229 = (-7200) := hr_231
        subst hr_231
        refine lv_sipush (v := (-7200)) hx hb dL_tenders_403 (by decide) ?_
        refine lv_icmp_ne (tgt := 444) hx hb dL_tenders_406 (by decide)  (fun c9 => absurd c9 (by decide)) (fun _ => ?_)
        refine lv_aload_n hx hb dL_tenders_409 rfl (lv_at hl 6 rfl) ?_
        refine lv_iload hx hb dL_tenders_410 (lv_at hl 5 rfl) ?_
        refine lv_iload hx hb dL_tenders_412 (lv_at hl 2 rfl) ?_
        refine lv_bipush (v := (-2)) hx hb dL_tenders_414 (by decide) ?_
        refine va_calli (vx_runSW (As := [.ref h, .int (nI b9), .int (nI k9), .int (-2)]) (rest := []) ⟨hx, hb, hml, hown, hts⟩ (cw_paper l hst D cI cO cb eA mi st dO dT vF ws_230 hc_232 hM hsI (nI b9) (nI k9) (-2)) (vx_cwSW 4 hts gL_tenders_L_paper rfl rfl rfl kd_L_paper ⟨Nat.le_of_ble_eq_true rfl, Nat.le_of_ble_eq_true rfl⟩) ⟨kB_blind, kB_pre hK hG hGT hN (fun q h9 => Or.inl h9) hS (fun q h9 => hA q (Nat.le_trans hS.1 h9)) hPw _⟩ rfl rfl hl.1 rfl (lv_room (Nat.le_of_ble_eq_true rfl)) dL_tenders_416 ⟨by show 3 + 1 ≤ 42; omega, by show 18 + 6 ≤ 930; omega⟩) hS (fun _ _ h9 => Or.inl h9) (fun _ h9 => Or.inl h9) (fun r_237 ws_238 U8 H_242 locs_243 ht hvm hu_241 hB hz1 hk1 hS1 => ?_)
        obtain ⟨hr_239, hc_240⟩ := hu_241
        replace hB : va_P D vwCl ws_238 U8.heap := hB
        rw [ht] at hB
        replace hPa := aP_keep hPa hdB hAB hk1
        clear hPw hS
        have hPw := hB
        have hS := hS1
        clear hB hS1 hz1 hk1 hvm ht U8
        have hk_244 : k_paper (nI b9) (nI k9) (-2) = 2 := by exact pap_2 (by omega) (by omega) pap_u2
        rw [keep_paper (by rw [hk_244]; decide)] at hc_240
        rw [hk_244] at hr_239
        replace hr_239 : r_237 = (-7200) := hr_239
        subst hr_239
        refine lv_sipush (v := (-7200)) hx hb dL_tenders_419 (by decide) ?_
        refine lv_icmp_ne (tgt := 444) hx hb dL_tenders_422 (by decide)  (fun c9 => absurd c9 (by decide)) (fun _ => ?_)
        refine lv_aload_n hx hb dL_tenders_425 rfl (lv_at hl 6 rfl) ?_
        refine lv_iload hx hb dL_tenders_426 (lv_at hl 5 rfl) ?_
        refine lv_iload hx hb dL_tenders_428 (lv_at hl 2 rfl) ?_
        refine lv_iload hx hb dL_tenders_430 (lv_at hl 1 rfl) ?_
        refine va_calli (vx_runSW (As := [.ref h, .int (nI b9), .int (nI k9), .int (nI x9 - nI 1)]) (rest := []) ⟨hx, hb, hml, hown, hts⟩ (cw_paper l hst D cI cO cb eA mi st dO dT vF ws_238 hc_240 hM hsI (nI b9) (nI k9) (nI x9 - nI 1)) (vx_cwSW 4 hts gL_tenders_L_paper rfl rfl rfl kd_L_paper ⟨Nat.le_of_ble_eq_true rfl, Nat.le_of_ble_eq_true rfl⟩) ⟨kB_blind, kB_pre hK hG hGT hN (fun q h9 => Or.inl h9) hS (fun q h9 => hA q (Nat.le_trans hS.1 h9)) hPw _⟩ rfl rfl hl.1 rfl (lv_room (Nat.le_of_ble_eq_true rfl)) dL_tenders_432 ⟨by show 4 + 1 ≤ 42; omega, by show 24 + 6 ≤ 930; omega⟩) hS (fun _ _ h9 => Or.inl h9) (fun _ h9 => Or.inl h9) (fun r_245 ws_246 U8 H_250 locs_251 ht hvm hu_249 hB hz1 hk1 hS1 => ?_)
        obtain ⟨hr_247, hc_248⟩ := hu_249
        replace hB : va_P D vwCl ws_246 U8.heap := hB
        rw [ht] at hB
        replace hPa := aP_keep hPa hdB hAB hk1
        clear hPw hS
        have hPw := hB
        have hS := hS1
        clear hB hS1 hz1 hk1 hvm ht U8
        have hv9 : er (k_paper (nI b9) (nI k9) (nI x9 - nI 1)) (r_paper M (nI b9) (nI k9) (nI x9 - nI 1)) = (nI (T 0 (6 * b9 + k9)) - nI 1) := by rw [pap_r (by omega) (by omega) (by omega), hR.2.1 (6 * b9 + k9) (by omega)]
        rw [hv9] at hr_247
        clear hv9
        subst hr_247
        have hM_252 : MI (g_paper M (nI b9) (nI k9) (nI x9 - nI 1)) := MI_paper hM (nI b9) (nI k9) (nI x9 - nI 1)
        have hLB_253 : m_LB (g_paper M (nI b9) (nI k9) (nI x9 - nI 1)) := (LB_paper (nI b9) (nI k9) (nI x9 - nI 1)).1 hLB
        have h15_254 : (g_paper M (nI b9) (nI k9) (nI x9 - nI 1)) 15 0 ≤ M 15 0 + 1 := (LB_paper (nI b9) (nI k9) (nI x9 - nI 1)).2
        refine lv_iload hx hb dL_tenders_435 (lv_at hl 0 rfl) ?_
        refine lv_icmp_ne (tgt := 444) hx hb dL_tenders_437 (by decide)  (fun c_255 => absurd rfl c_255) (fun c_255 => ?_)
        refine lv_iconst (v := nI 1) hx hb dL_tenders_440 (by decide) ?_
        refine lv_goto (tgt := 445) hx hb dL_tenders_441 (by decide) ?_
        have hLR : LR (g_paper M (nI b9) (nI k9) (nI x9 - nI 1)) (mu T 0 ((6 * b9) + k9) x9) := by rw [pap_g (by omega) (by omega) (by omega)]; exact hR.paperS hM
        have hLT : LT (mu T 0 ((6 * b9) + k9) x9) := by exact ⟨(LTb_mu hT.1 (by show _ ≤ 2001; omega)), by simp [mu]; omega, by simp [mu]; omega, by simp [mu]; omega, by simp [mu]; omega, by simp [mu]; omega⟩
        refine W.widen (k := 42) (n := 930) (by omega) (by omega) ?_
        exact W.zret (v := nI 1) hx hb hr rfl (fun U9 ht9 hW9 => ⟨⟨_, (ws_246, g_paper M (nI b9) (nI k9) (nI x9 - nI 1), mu T 0 ((6 * b9) + k9) x9), rfl, ⟨rfl, hc_248, hM_252, hLB_253, Nat.le_trans h15_254 (Nat.succ_le_succ h15), hLR, hLT⟩, by show va_P D vwCl _ U9.heap ∧ va_P D vwCl _ U9.heap; rw [ht9]; exact ⟨hPw, hPa⟩⟩, hS.F ht9⟩) hS.2.2 dL_tenders_445
      · have hk9 := hk_212
        refine lv_iload_n hx hb dL_tenders_304 rfl (lv_at hl 7 rfl) ?_
        refine lv_sipush (v := nI 768) hx hb dL_tenders_305 (by decide) ?_
        refine lv_iand hx hb dL_tenders_308 ?_
        refine lv_if_ne (tgt := 316) hx hb dL_tenders_309 (by decide)  (fun c_256 => ?_) (fun c_256 => ?_)
        · refine lv_iload_n hx hb dL_tenders_316 rfl (lv_at hl 7 rfl) ?_
          refine lv_iconst (v := nI 4) hx hb dL_tenders_317 (by decide) ?_
          refine lv_ishr hx hb dL_tenders_318 ?_
          refine lv_bipush (v := nI 40) hx hb dL_tenders_319 (by decide) ?_
          refine vp_callSi (W.runS (As := [.int (z >>> ((nI 4) &&& 31)), .int (nI 40)]) (rest := []) ⟨hx, hb, hml, hown, hts⟩ (ch_low l (z >>> ((nI 4) &&& 31)) 40 (by omega) (by omega)) (va_cwS 2 hts gL_tenders_L_low rfl rfl rfl kd_L_low ⟨Nat.le_of_ble_eq_true rfl, Nat.le_of_ble_eq_true rfl⟩) ⟨fun _ _ _ _ q => q, fun U hU hW => ⟨rfl, trivial⟩⟩ rfl rfl hl.1 rfl (lv_room (Nat.le_of_ble_eq_true rfl)) dL_tenders_321 ⟨Nat.le_of_ble_eq_true rfl, Nat.le_of_ble_eq_true rfl⟩) (fun r_257 hr_257 => ?_)
          subst hr_257
          have hu9 : lowN (z >>> ((nI 4) &&& 31)) 40 < 40 := lowN_lt _ (by decide)
          generalize lowN (z >>> ((nI 4) &&& 31)) 40 = u9 at hu9 ⊢
          refine lv_aload hx hb dL_tenders_324 (lv_at hl 13 rfl) ?_
          refine lv_iconst (v := nI 0) hx hb dL_tenders_326 (by decide) ?_
          refine a_iald (f := 11) (n := 7) hx hb hKa hPa rfl (by decide) (by decide) dL_tenders_327 ?_
          refine lv_iconst (v := nI 2) hx hb dL_tenders_328 (by decide) ?_
          refine n_idiv hx hb dL_tenders_329 (z := (T 11 0) / 2) (by have f1 : T 11 0 ≤ 2000 := hT.1 11 0; omega) (by decide) (by decide) rfl ?_
          refine n_iadd hx hb dL_tenders_330 (z := u9 + ((T 11 0) / 2)) rfl ?_
          refine lv_istore (lv' := [(14, .int (nI (u9 + ((T 11 0) / 2)))), (13, .int (nI k9)), (12, .int (nI j9)), (11, .int (nI t9)), (10, .int (nI b9)), (0, .ref h), (1, .int (nI act)), (2, .int y), (3, .int z), (4, .ref (ad 0)), (5, .ref (ad 1)), (6, .ref (ad 2)), (7, .ref (ad 3)), (8, .ref (ad 4)), (9, .ref (ad 11))]) hx hb dL_tenders_331 hl (by decide) rfl (fun ls hl => ?_)
          have ej : nI (u9 + ((T 11 0) / 2)) = nI (u9 + ((T 11 0) / 2) + 1) - nI 1 := (nI_pred _).symm
          rw [ej] at hl
          exact hk_212 (u9 + ((T 11 0) / 2) + 1) (by have f1 := hu9; have f2 : T 11 0 ≤ 2000 := hT.1 11 0; omega) ls (lv_sub hl [0, 1, 2, 3, 4, 5, 6, 7, 8, 9, 10, 11, 12, 13, 14] rfl)
        · refine lv_iconst (v := (-1)) hx hb dL_tenders_312 (by decide) ?_
          refine lv_goto (tgt := 331) hx hb dL_tenders_313 (by decide) ?_
          refine lv_istore (lv' := [(14, .int (-1)), (13, .int (nI k9)), (12, .int (nI j9)), (11, .int (nI t9)), (10, .int (nI b9)), (0, .ref h), (1, .int (nI act)), (2, .int y), (3, .int z), (4, .ref (ad 0)), (5, .ref (ad 1)), (6, .ref (ad 2)), (7, .ref (ad 3)), (8, .ref (ad 4)), (9, .ref (ad 11))]) hx hb dL_tenders_331 hl (by decide) rfl (fun ls hl => ?_)
          have ej : (-1 : Int32) = nI 0 - nI 1 := by decide
          rw [ej] at hl
          exact hk_212 0 (by omega) ls (lv_sub hl [0, 1, 2, 3, 4, 5, 6, 7, 8, 9, 10, 11, 12, 13, 14] rfl)
  · refine lv_aload hx hb dL_tenders_27 (lv_at hl 12 rfl) ?_
    refine lv_iconst (v := nI 0) hx hb dL_tenders_29 (by decide) ?_
    refine a_iald (f := 11) (n := 7) hx hb hKa hPa rfl (by decide) (by decide) dL_tenders_30 ?_
    refine lv_iconst (v := nI 1) hx hb dL_tenders_31 (by decide) ?_
    refine n_iadd hx hb dL_tenders_32 (z := (T 11 0) + 1) rfl ?_
    refine lv_iload_n hx hb dL_tenders_33 rfl (lv_at hl 5 rfl) ?_
    refine lv_bipush (v := nI 12) hx hb dL_tenders_34 (by decide) ?_
    refine vp_callSi (W.runS (As := [.int y, .int (nI 12)]) (rest := [.int (nI ((T 11 0) + 1))]) ⟨hx, hb, hml, hown, hts⟩ (ch_low l y 12 (by omega) (by omega)) (va_cwS 2 hts gL_tenders_L_low rfl rfl rfl kd_L_low ⟨Nat.le_of_ble_eq_true rfl, Nat.le_of_ble_eq_true rfl⟩) ⟨fun _ _ _ _ q => q, fun U hU hW => ⟨rfl, trivial⟩⟩ rfl rfl hl.1 rfl (lv_room (Nat.le_of_ble_eq_true rfl)) dL_tenders_36 ⟨Nat.le_of_ble_eq_true rfl, Nat.le_of_ble_eq_true rfl⟩) (fun r_258 hr_258 => ?_)
    subst hr_258
    have hc9 : lowN y 12 < 12 := lowN_lt _ (by decide)
    generalize lowN y 12 = c9 at hc9 ⊢
    refine n_iadd hx hb dL_tenders_39 (z := ((T 11 0) + 1) + c9) rfl ?_
    refine lv_istore (lv' := [(13, .int (nI (((T 11 0) + 1) + c9))), (12, .int (nI j9)), (11, .int (nI t9)), (10, .int (nI b9)), (0, .ref h), (1, .int (nI act)), (2, .int y), (3, .int z), (4, .ref (ad 0)), (5, .ref (ad 1)), (6, .ref (ad 2)), (7, .ref (ad 3)), (8, .ref (ad 4)), (9, .ref (ad 11))]) hx hb dL_tenders_40 hl (by decide) rfl (fun ls hl => ?_)
    refine w_join (nL := 18) (pc1 := 65) (sk1 := []) (fun pa => [(14, .int (nI pa)), (13, .int (nI (((T 11 0) + 1) + c9))), (12, .int (nI j9)), (11, .int (nI t9)), (10, .int (nI b9)), (0, .ref h), (1, .int (nI act)), (2, .int y), (3, .int z), (4, .ref (ad 0)), (5, .ref (ad 1)), (6, .ref (ad 2)), (7, .ref (ad 3)), (8, .ref (ad 4)), (9, .ref (ad 11))]) (fun pa => pa ≤ 63) (fun pa hpa ls hl => ?_) (fun hk_259 => ?_)
    · have h9_pa := hpa
      refine w_join (nL := 18) (pc1 := 88) (sk1 := []) (fun we => [(15, .int (nI we)), (14, .int (nI pa)), (13, .int (nI (((T 11 0) + 1) + c9))), (12, .int (nI j9)), (11, .int (nI t9)), (10, .int (nI b9)), (0, .ref h), (1, .int (nI act)), (2, .int y), (3, .int z), (4, .ref (ad 0)), (5, .ref (ad 1)), (6, .ref (ad 2)), (7, .ref (ad 3)), (8, .ref (ad 4)), (9, .ref (ad 11))]) (fun we => we ≤ 100) (fun we hwe ls hl => ?_) (fun hk_260 => ?_)
      · have h9_we := hwe
        refine lv_iload_n hx hb dL_tenders_88 rfl (lv_at hl 9 rfl) ?_
        refine lv_bipush (v := nI 6) hx hb dL_tenders_89 (by decide) ?_
        refine lv_ishr hx hb dL_tenders_91 ?_
        refine lv_bipush (v := nI 7) hx hb dL_tenders_92 (by decide) ?_
        refine vp_callSi (W.runS (As := [.int (z >>> ((nI 6) &&& 31)), .int (nI 7)]) (rest := []) ⟨hx, hb, hml, hown, hts⟩ (ch_low l (z >>> ((nI 6) &&& 31)) 7 (by omega) (by omega)) (va_cwS 2 hts gL_tenders_L_low rfl rfl rfl kd_L_low ⟨Nat.le_of_ble_eq_true rfl, Nat.le_of_ble_eq_true rfl⟩) ⟨fun _ _ _ _ q => q, fun U hU hW => ⟨rfl, trivial⟩⟩ rfl rfl hl.1 rfl (lv_room (Nat.le_of_ble_eq_true rfl)) dL_tenders_94 ⟨Nat.le_of_ble_eq_true rfl, Nat.le_of_ble_eq_true rfl⟩) (fun r_261 hr_261 => ?_)
        subst hr_261
        have hs9 : lowN (z >>> ((nI 6) &&& 31)) 7 < 7 := lowN_lt _ (by decide)
        generalize lowN (z >>> ((nI 6) &&& 31)) 7 = s9 at hs9 ⊢
        refine lv_istore (lv' := [(16, .int (nI s9)), (15, .int (nI we)), (14, .int (nI pa)), (13, .int (nI (((T 11 0) + 1) + c9))), (12, .int (nI j9)), (11, .int (nI t9)), (10, .int (nI b9)), (0, .ref h), (1, .int (nI act)), (2, .int y), (3, .int z), (4, .ref (ad 0)), (5, .ref (ad 1)), (6, .ref (ad 2)), (7, .ref (ad 3)), (8, .ref (ad 4)), (9, .ref (ad 11))]) hx hb dL_tenders_97 hl (by decide) rfl (fun ls hl => ?_)
        refine lv_aload_n hx hb dL_tenders_99 rfl (lv_at hl 7 rfl) ?_
        refine lv_aload hx hb dL_tenders_100 (lv_at hl 16 rfl) ?_
        refine lv_iconst (v := nI 0) hx hb dL_tenders_102 (by decide) ?_
        refine a_iald (f := 11) (n := 7) hx hb hKa hPa rfl (by decide) (by decide) dL_tenders_103 ?_
        refine lv_iconst (v := nI 0) hx hb dL_tenders_104 (by decide) ?_
        refine lv_iconst (v := nI 0) hx hb dL_tenders_105 (by decide) ?_
        refine lv_iconst (v := nI 0) hx hb dL_tenders_106 (by decide) ?_
        refine va_calli (vx_runSW (As := [.ref h, .int (nI (T 11 0)), .int (nI 0), .int (nI 0), .int (nI 0)]) (rest := []) ⟨hx, hb, hml, hown, hts⟩ (cw_addTender l hst D cI cO cb eA mi st dO dT vF ws hc hM hsI (nI (T 11 0)) (nI 0) (nI 0) (nI 0)) (vx_cwSW 5 hts gL_tenders_L_addTender rfl rfl rfl kd_L_addTender ⟨Nat.le_of_ble_eq_true rfl, Nat.le_of_ble_eq_true rfl⟩) ⟨kB_blind, kB_pre hK hG hGT hN (fun q h9 => Or.inl h9) hS (fun q h9 => hA q (Nat.le_trans hS.1 h9)) hPw _⟩ rfl rfl hl.1 rfl (lv_room (Nat.le_of_ble_eq_true rfl)) dL_tenders_107 ⟨by show 0 + 4 ≤ 42; omega, by show 0 + 114 ≤ 930; omega⟩) hS (fun _ _ h9 => Or.inl h9) (fun _ h9 => Or.inl h9) (fun r_262 ws_263 U8 H_267 locs_268 ht hvm hu_266 hB hz1 hk1 hS1 => ?_)
        obtain ⟨hr_264, hc_265⟩ := hu_266
        replace hB : va_P D vwCl ws_263 U8.heap := hB
        rw [ht] at hB
        replace hPa := aP_keep hPa hdB hAB hk1
        clear hPw hS
        have hPw := hB
        have hS := hS1
        clear hB hS1 hz1 hk1 hvm ht U8
        have hk_269 : k_addTender M (nI (T 11 0)) (nI 0) (nI 0) (nI 0) = 1 := by exact ten_1 hM1 (by omega) (Or.inl (by omega))
        rw [keep_addTender (by rw [hk_269]; decide)] at hc_265
        rw [hk_269] at hr_264
        replace hr_264 : r_262 = (-7200) := hr_264
        subst hr_264
        refine lv_sipush (v := (-7200)) hx hb dL_tenders_110 (by decide) ?_
        refine lv_icmp_ne (tgt := 200) hx hb dL_tenders_113 (by decide)  (fun c9 => absurd c9 (by decide)) (fun _ => ?_)
        refine lv_aload_n hx hb dL_tenders_116 rfl (lv_at hl 7 rfl) ?_
        refine lv_sipush (v := nI 1001) hx hb dL_tenders_117 (by decide) ?_
        refine lv_iconst (v := nI 0) hx hb dL_tenders_120 (by decide) ?_
        refine lv_iconst (v := nI 0) hx hb dL_tenders_121 (by decide) ?_
        refine lv_iconst (v := nI 0) hx hb dL_tenders_122 (by decide) ?_
        refine va_calli (vx_runSW (As := [.ref h, .int (nI 1001), .int (nI 0), .int (nI 0), .int (nI 0)]) (rest := []) ⟨hx, hb, hml, hown, hts⟩ (cw_addTender l hst D cI cO cb eA mi st dO dT vF ws_263 hc_265 hM hsI (nI 1001) (nI 0) (nI 0) (nI 0)) (vx_cwSW 5 hts gL_tenders_L_addTender rfl rfl rfl kd_L_addTender ⟨Nat.le_of_ble_eq_true rfl, Nat.le_of_ble_eq_true rfl⟩) ⟨kB_blind, kB_pre hK hG hGT hN (fun q h9 => Or.inl h9) hS (fun q h9 => hA q (Nat.le_trans hS.1 h9)) hPw _⟩ rfl rfl hl.1 rfl (lv_room (Nat.le_of_ble_eq_true rfl)) dL_tenders_123 ⟨by show 4 + 4 ≤ 42; omega, by show 114 + 114 ≤ 930; omega⟩) hS (fun _ _ h9 => Or.inl h9) (fun _ h9 => Or.inl h9) (fun r_270 ws_271 U8 H_275 locs_276 ht hvm hu_274 hB hz1 hk1 hS1 => ?_)
        obtain ⟨hr_272, hc_273⟩ := hu_274
        replace hB : va_P D vwCl ws_271 U8.heap := hB
        rw [ht] at hB
        replace hPa := aP_keep hPa hdB hAB hk1
        clear hPw hS
        have hPw := hB
        have hS := hS1
        clear hB hS1 hz1 hk1 hvm ht U8
        have hk_277 : k_addTender M (nI 1001) (nI 0) (nI 0) (nI 0) = 1 := by exact ten_1 hM1 (by omega) (Or.inr (by omega))
        rw [keep_addTender (by rw [hk_277]; decide)] at hc_273
        rw [hk_277] at hr_272
        replace hr_272 : r_270 = (-7200) := hr_272
        subst hr_272
        refine lv_sipush (v := (-7200)) hx hb dL_tenders_126 (by decide) ?_
        refine lv_icmp_ne (tgt := 200) hx hb dL_tenders_129 (by decide)  (fun c9 => absurd c9 (by decide)) (fun _ => ?_)
        refine lv_aload_n hx hb dL_tenders_132 rfl (lv_at hl 7 rfl) ?_
        refine lv_iload hx hb dL_tenders_133 (lv_at hl 3 rfl) ?_
        refine lv_bipush (v := nI 64) hx hb dL_tenders_135 (by decide) ?_
        refine lv_iload hx hb dL_tenders_137 (lv_at hl 1 rfl) ?_
        refine lv_iconst (v := nI 0) hx hb dL_tenders_139 (by decide) ?_
        refine va_calli (vx_runSW (As := [.ref h, .int (nI (((T 11 0) + 1) + c9)), .int (nI 64), .int (nI we), .int (nI 0)]) (rest := []) ⟨hx, hb, hml, hown, hts⟩ (cw_addTender l hst D cI cO cb eA mi st dO dT vF ws_271 hc_273 hM hsI (nI (((T 11 0) + 1) + c9)) (nI 64) (nI we) (nI 0)) (vx_cwSW 5 hts gL_tenders_L_addTender rfl rfl rfl kd_L_addTender ⟨Nat.le_of_ble_eq_true rfl, Nat.le_of_ble_eq_true rfl⟩) ⟨kB_blind, kB_pre hK hG hGT hN (fun q h9 => Or.inl h9) hS (fun q h9 => hA q (Nat.le_trans hS.1 h9)) hPw _⟩ rfl rfl hl.1 rfl (lv_room (Nat.le_of_ble_eq_true rfl)) dL_tenders_140 ⟨by show 8 + 4 ≤ 42; omega, by show 228 + 114 ≤ 930; omega⟩) hS (fun _ _ h9 => Or.inl h9) (fun _ h9 => Or.inl h9) (fun r_278 ws_279 U8 H_283 locs_284 ht hvm hu_282 hB hz1 hk1 hS1 => ?_)
        obtain ⟨hr_280, hc_281⟩ := hu_282
        replace hB : va_P D vwCl ws_279 U8.heap := hB
        rw [ht] at hB
        replace hPa := aP_keep hPa hdB hAB hk1
        clear hPw hS
        have hPw := hB
        have hS := hS1
        clear hB hS1 hz1 hk1 hvm ht U8
        have hk_285 : k_addTender M (nI (((T 11 0) + 1) + c9)) (nI 64) (nI we) (nI 0) = 1 := by exact ten_2 (by omega) (by omega)
        rw [keep_addTender (by rw [hk_285]; decide)] at hc_281
        rw [hk_285] at hr_280
        replace hr_280 : r_278 = (-7200) := hr_280
        subst hr_280
        refine lv_sipush (v := (-7200)) hx hb dL_tenders_143 (by decide) ?_
        refine lv_icmp_ne (tgt := 200) hx hb dL_tenders_146 (by decide)  (fun c9 => absurd c9 (by decide)) (fun _ => ?_)
        refine lv_aload_n hx hb dL_tenders_149 rfl (lv_at hl 7 rfl) ?_
        refine lv_iload hx hb dL_tenders_150 (lv_at hl 3 rfl) ?_
        refine lv_iload hx hb dL_tenders_152 (lv_at hl 2 rfl) ?_
        refine lv_bipush (v := nI 101) hx hb dL_tenders_154 (by decide) ?_
        refine lv_iconst (v := nI 0) hx hb dL_tenders_156 (by decide) ?_
        refine va_calli (vx_runSW (As := [.ref h, .int (nI (((T 11 0) + 1) + c9)), .int (nI pa), .int (nI 101), .int (nI 0)]) (rest := []) ⟨hx, hb, hml, hown, hts⟩ (cw_addTender l hst D cI cO cb eA mi st dO dT vF ws_279 hc_281 hM hsI (nI (((T 11 0) + 1) + c9)) (nI pa) (nI 101) (nI 0)) (vx_cwSW 5 hts gL_tenders_L_addTender rfl rfl rfl kd_L_addTender ⟨Nat.le_of_ble_eq_true rfl, Nat.le_of_ble_eq_true rfl⟩) ⟨kB_blind, kB_pre hK hG hGT hN (fun q h9 => Or.inl h9) hS (fun q h9 => hA q (Nat.le_trans hS.1 h9)) hPw _⟩ rfl rfl hl.1 rfl (lv_room (Nat.le_of_ble_eq_true rfl)) dL_tenders_157 ⟨by show 12 + 4 ≤ 42; omega, by show 342 + 114 ≤ 930; omega⟩) hS (fun _ _ h9 => Or.inl h9) (fun _ h9 => Or.inl h9) (fun r_286 ws_287 U8 H_291 locs_292 ht hvm hu_290 hB hz1 hk1 hS1 => ?_)
        obtain ⟨hr_288, hc_289⟩ := hu_290
        replace hB : va_P D vwCl ws_287 U8.heap := hB
        rw [ht] at hB
        replace hPa := aP_keep hPa hdB hAB hk1
        clear hPw hS
        have hPw := hB
        have hS := hS1
        clear hB hS1 hz1 hk1 hvm ht U8
        have hk_293 : k_addTender M (nI (((T 11 0) + 1) + c9)) (nI pa) (nI 101) (nI 0) = 1 := by exact ten_3 (by omega) (by omega)
        rw [keep_addTender (by rw [hk_293]; decide)] at hc_289
        rw [hk_293] at hr_288
        replace hr_288 : r_286 = (-7200) := hr_288
        subst hr_288
        refine lv_sipush (v := (-7200)) hx hb dL_tenders_160 (by decide) ?_
        refine lv_icmp_ne (tgt := 200) hx hb dL_tenders_163 (by decide)  (fun c9 => absurd c9 (by decide)) (fun _ => ?_)
        refine lv_aload_n hx hb dL_tenders_166 rfl (lv_at hl 7 rfl) ?_
        refine lv_iload hx hb dL_tenders_167 (lv_at hl 3 rfl) ?_
        refine lv_iload hx hb dL_tenders_169 (lv_at hl 2 rfl) ?_
        refine lv_iload hx hb dL_tenders_171 (lv_at hl 1 rfl) ?_
        refine lv_bipush (v := nI 31) hx hb dL_tenders_173 (by decide) ?_
        refine va_calli (vx_runSW (As := [.ref h, .int (nI (((T 11 0) + 1) + c9)), .int (nI pa), .int (nI we), .int (nI 31)]) (rest := []) ⟨hx, hb, hml, hown, hts⟩ (cw_addTender l hst D cI cO cb eA mi st dO dT vF ws_287 hc_289 hM hsI (nI (((T 11 0) + 1) + c9)) (nI pa) (nI we) (nI 31)) (vx_cwSW 5 hts gL_tenders_L_addTender rfl rfl rfl kd_L_addTender ⟨Nat.le_of_ble_eq_true rfl, Nat.le_of_ble_eq_true rfl⟩) ⟨kB_blind, kB_pre hK hG hGT hN (fun q h9 => Or.inl h9) hS (fun q h9 => hA q (Nat.le_trans hS.1 h9)) hPw _⟩ rfl rfl hl.1 rfl (lv_room (Nat.le_of_ble_eq_true rfl)) dL_tenders_175 ⟨by show 16 + 4 ≤ 42; omega, by show 456 + 114 ≤ 930; omega⟩) hS (fun _ _ h9 => Or.inl h9) (fun _ h9 => Or.inl h9) (fun r_294 ws_295 U8 H_299 locs_300 ht hvm hu_298 hB hz1 hk1 hS1 => ?_)
        obtain ⟨hr_296, hc_297⟩ := hu_298
        replace hB : va_P D vwCl ws_295 U8.heap := hB
        rw [ht] at hB
        replace hPa := aP_keep hPa hdB hAB hk1
        clear hPw hS
        have hPw := hB
        have hS := hS1
        clear hB hS1 hz1 hk1 hvm ht U8
        have hk_301 : k_addTender M (nI (((T 11 0) + 1) + c9)) (nI pa) (nI we) (nI 31) = 1 := by exact ten_4 (by omega) (by omega)
        rw [keep_addTender (by rw [hk_301]; decide)] at hc_297
        rw [hk_301] at hr_296
        replace hr_296 : r_294 = (-7200) := hr_296
        subst hr_296
        refine lv_sipush (v := (-7200)) hx hb dL_tenders_178 (by decide) ?_
        refine lv_icmp_ne (tgt := 200) hx hb dL_tenders_181 (by decide)  (fun c9 => absurd c9 (by decide)) (fun _ => ?_)
        refine lv_aload_n hx hb dL_tenders_184 rfl (lv_at hl 7 rfl) ?_
        refine lv_iload hx hb dL_tenders_185 (lv_at hl 3 rfl) ?_
        refine lv_iconst (v := (-1)) hx hb dL_tenders_187 (by decide) ?_
        refine lv_iload hx hb dL_tenders_188 (lv_at hl 1 rfl) ?_
        refine lv_iconst (v := nI 0) hx hb dL_tenders_190 (by decide) ?_
        refine va_calli (vx_runSW (As := [.ref h, .int (nI (((T 11 0) + 1) + c9)), .int (-1), .int (nI we), .int (nI 0)]) (rest := []) ⟨hx, hb, hml, hown, hts⟩ (cw_addTender l hst D cI cO cb eA mi st dO dT vF ws_295 hc_297 hM hsI (nI (((T 11 0) + 1) + c9)) (-1) (nI we) (nI 0)) (vx_cwSW 5 hts gL_tenders_L_addTender rfl rfl rfl kd_L_addTender ⟨Nat.le_of_ble_eq_true rfl, Nat.le_of_ble_eq_true rfl⟩) ⟨kB_blind, kB_pre hK hG hGT hN (fun q h9 => Or.inl h9) hS (fun q h9 => hA q (Nat.le_trans hS.1 h9)) hPw _⟩ rfl rfl hl.1 rfl (lv_room (Nat.le_of_ble_eq_true rfl)) dL_tenders_191 ⟨by show 20 + 4 ≤ 42; omega, by show 570 + 114 ≤ 930; omega⟩) hS (fun _ _ h9 => Or.inl h9) (fun _ h9 => Or.inl h9) (fun r_302 ws_303 U8 H_307 locs_308 ht hvm hu_306 hB hz1 hk1 hS1 => ?_)
        obtain ⟨hr_304, hc_305⟩ := hu_306
        replace hB : va_P D vwCl ws_303 U8.heap := hB
        rw [ht] at hB
        replace hPa := aP_keep hPa hdB hAB hk1
        clear hPw hS
        have hPw := hB
        have hS := hS1
        clear hB hS1 hz1 hk1 hvm ht U8
        have hk_309 : k_addTender M (nI (((T 11 0) + 1) + c9)) (-1) (nI we) (nI 0) = 1 := by exact ten_2n (by decide)
        rw [keep_addTender (by rw [hk_309]; decide)] at hc_305
        rw [hk_309] at hr_304
        replace hr_304 : r_302 = (-7200) := hr_304
        subst hr_304
        refine lv_sipush (v := (-7200)) hx hb dL_tenders_194 (by decide) ?_
        refine lv_icmp_eq (tgt := 202) hx hb dL_tenders_197 (by decide)  (fun _ => ?_) (fun c9 => absurd c9 (by decide))
        refine lv_aload hx hb dL_tenders_202 (lv_at hl 16 rfl) ?_
        refine lv_iconst (v := nI 1) hx hb dL_tenders_204 (by decide) ?_
        refine a_iald (f := 11) (n := 7) hx hb hKa hPa rfl (by decide) (by decide) dL_tenders_205 ?_
        refine lv_iconst (v := nI 2) hx hb dL_tenders_206 (by decide) ?_
        refine n_icmp_ne (tgt := 228) hx hb dL_tenders_207 (by decide) (by have f1 : T 11 1 ≤ 2000 := hT.1 11 1; have f2 : T 11 1 ≤ 2 := hT.2.1; omega) (by decide) (fun c_310 => ?_) (fun c_310 => ?_)
        · refine lv_aload hx hb dL_tenders_228 (lv_at hl 12 rfl) ?_
          refine lv_aload hx hb dL_tenders_230 (lv_at hl 16 rfl) ?_
          refine lv_iconst (v := nI 1) hx hb dL_tenders_232 (by decide) ?_
          refine a_iald (f := 11) (n := 7) hx hb hKa hPa rfl (by decide) (by decide) dL_tenders_233 ?_
          refine lv_iload hx hb dL_tenders_234 (lv_at hl 3 rfl) ?_
          refine lv_sipush (v := nI 1024) hx hb dL_tenders_236 (by decide) ?_
          refine lv_iload hx hb dL_tenders_239 (lv_at hl 2 rfl) ?_
          refine n_imul hx hb dL_tenders_241 (z := 1024 * pa) rfl ?_
          refine n_iadd hx hb dL_tenders_242 (z := (((T 11 0) + 1) + c9) + (1024 * pa)) rfl ?_
          refine lv_iload hx hb dL_tenders_243 (lv_at hl 1 rfl) ?_
          refine lv_bipush (v := nI 16) hx hb dL_tenders_245 (by decide) ?_
          refine lv_ishl hx hb dL_tenders_247 ?_
          rw [show (nI we) <<< ((nI 16) &&& 31) = nI (we * 65536) from n_shlK (by decide) rfl (by have f1 := hwe; omega)]
          refine n_iadd hx hb dL_tenders_248 (z := ((((T 11 0) + 1) + c9) + (1024 * pa)) + (we * 65536)) rfl ?_
          refine lv_iload hx hb dL_tenders_249 (lv_at hl 0 rfl) ?_
          refine lv_bipush (v := nI 23) hx hb dL_tenders_251 (by decide) ?_
          refine lv_ishl hx hb dL_tenders_253 ?_
          rw [show (nI s9) <<< ((nI 23) &&& 31) = nI (s9 * 8388608) from n_shlK (by decide) rfl (by have f1 := hs9; omega)]
          refine n_iadd hx hb dL_tenders_254 (z := (((((T 11 0) + 1) + c9) + (1024 * pa)) + (we * 65536)) + (s9 * 8388608)) rfl ?_
          refine b_iast (f := 1) (n := 2) (v := (((((T 11 0) + 1) + c9) + (1024 * pa)) + (we * 65536)) + (s9 * 8388608)) hx hb hKa hPa hPw hdB hc_305.dis hAB hS (by decide) rfl (by have f1 : T 11 1 ≤ 2000 := hT.1 11 1; have f2 : T 11 1 ≤ 2 := hT.2.1; omega) (by decide) (aset_1 _ _ _ _ _) dL_tenders_255 (fun H1 locs1 hPa1 hPw1 hS1 => ?_)
          clear hPa hPw hS
          have hPa := hPa1; have hPw := hPw1; have hS := hS1; clear hPa1 hPw1 hS1
          refine lv_aload hx hb dL_tenders_256 (lv_at hl 16 rfl) ?_
          refine lv_iconst (v := nI 1) hx hb dL_tenders_258 (by decide) ?_
          refine lv_dup2_11 hx hb dL_tenders_259 rfl rfl ?_
          refine a_iald (f := 11) (n := 7) hx hb hKa hPa rfl (by decide) (by decide) dL_tenders_260 ?_
          rw [show (mu T 1 (T 11 1) ((((((T 11 0) + 1) + c9) + (1024 * pa)) + (we * 65536)) + (s9 * 8388608))) 11 1 = T 11 1 from (by simp [mu])]
          refine lv_iconst (v := nI 1) hx hb dL_tenders_261 (by decide) ?_
          refine n_iadd hx hb dL_tenders_262 (z := (T 11 1) + 1) rfl ?_
          refine b_iast (f := 11) (n := 7) (v := (T 11 1) + 1) hx hb hKa hPa hPw hdB hc_305.dis hAB hS (by decide) rfl (by decide) (by decide) (aset_11 _ _ _ _ _) dL_tenders_263 (fun H1 locs1 hPa1 hPw1 hS1 => ?_)
          clear hPa hPw hS
          have hPa := hPa1; have hPw := hPw1; have hS := hS1; clear hPa1 hPw1 hS1
          refine lv_aload_n hx hb dL_tenders_264 rfl (lv_at hl 7 rfl) ?_
          refine lv_iload hx hb dL_tenders_265 (lv_at hl 3 rfl) ?_
          refine lv_iload hx hb dL_tenders_267 (lv_at hl 2 rfl) ?_
          refine lv_iload hx hb dL_tenders_269 (lv_at hl 1 rfl) ?_
          refine lv_iload hx hb dL_tenders_271 (lv_at hl 0 rfl) ?_
          refine va_calli (vx_runSW (As := [.ref h, .int (nI (((T 11 0) + 1) + c9)), .int (nI pa), .int (nI we), .int (nI s9)]) (rest := []) ⟨hx, hb, hml, hown, hts⟩ (cw_addTender l hst D cI cO cb eA mi st dO dT vF ws_303 hc_305 hM hsI (nI (((T 11 0) + 1) + c9)) (nI pa) (nI we) (nI s9)) (vx_cwSW 5 hts gL_tenders_L_addTender rfl rfl rfl kd_L_addTender ⟨Nat.le_of_ble_eq_true rfl, Nat.le_of_ble_eq_true rfl⟩) ⟨kB_blind, kB_pre hK hG hGT hN (fun q h9 => Or.inl h9) hS (fun q h9 => hA q (Nat.le_trans hS.1 h9)) hPw _⟩ rfl rfl hl.1 rfl (lv_room (Nat.le_of_ble_eq_true rfl)) dL_tenders_273 ⟨by show 24 + 4 ≤ 42; omega, by show 684 + 114 ≤ 930; omega⟩) hS (fun _ _ h9 => Or.inl h9) (fun _ h9 => Or.inl h9) (fun r_311 ws_312 U8 H_316 locs_317 ht hvm hu_315 hB hz1 hk1 hS1 => ?_)
          obtain ⟨hr_313, hc_314⟩ := hu_315
          replace hB : va_P D vwCl ws_312 U8.heap := hB
          rw [ht] at hB
          replace hPa := aP_keep hPa hdB hAB hk1
          clear hPw hS
          have hPw := hB
          have hS := hS1
          clear hB hS1 hz1 hk1 hvm ht U8
          have hv9 : e23 (k_addTender M (nI (((T 11 0) + 1) + c9)) (nI pa) (nI we) (nI s9)) (if k_addTender M (nI (((T 11 0) + 1) + c9)) (nI pa) (nI we) (nI s9) = 0 then nI (M 3 0) else nI 0) = nI (T 11 1) := by have hk0 := ten_0 (M := M) (c := T 11 0 + 1 + c9) (q := pa) (w := we) (z := s9) (by omega) (by omega) (by omega) (by omega) (by omega) (by omega); rw [hk0, if_pos rfl, g1]; rfl
          rw [hv9] at hr_313
          clear hv9
          subst hr_313
          have hM_318 : MI (g_addTender M (nI (((T 11 0) + 1) + c9)) (nI pa) (nI we) (nI s9)) := MI_addTender hM (nI (((T 11 0) + 1) + c9)) (nI pa) (nI we) (nI s9)
          have hLB_319 : m_LB (g_addTender M (nI (((T 11 0) + 1) + c9)) (nI pa) (nI we) (nI s9)) := (LB_addTender (nI (((T 11 0) + 1) + c9)) (nI pa) (nI we) (nI s9)).1 hLB
          have h15_320 : (g_addTender M (nI (((T 11 0) + 1) + c9)) (nI pa) (nI we) (nI s9)) 15 0 ≤ M 15 0 + 1 := (LB_addTender (nI (((T 11 0) + 1) + c9)) (nI pa) (nI we) (nI s9)).2
          refine lv_aload hx hb dL_tenders_276 (lv_at hl 16 rfl) ?_
          refine lv_iconst (v := nI 1) hx hb dL_tenders_278 (by decide) ?_
          refine a_iald (f := 11) (n := 7) hx hb hKa hPa rfl (by decide) (by decide) dL_tenders_279 ?_
          rw [show (mu (mu T 1 (T 11 1) ((((((T 11 0) + 1) + c9) + (1024 * pa)) + (we * 65536)) + (s9 * 8388608))) 11 1 ((T 11 1) + 1)) 11 1 = T 11 1 + 1 from (by simp [mu])]
          refine lv_iconst (v := nI 1) hx hb dL_tenders_280 (by decide) ?_
          refine n_isub hx hb dL_tenders_281 (z := (T 11 1 + 1) - 1) (by have f1 : T 11 1 ≤ 2 := hT.2.1; omega) rfl ?_
          refine n_icmp_ne (tgt := 289) hx hb dL_tenders_282 (by decide) (by have f1 : T 11 1 ≤ 2 := hT.2.1; omega) (by have f1 : T 11 1 ≤ 2 := hT.2.1; omega) (fun c_321 => absurd (by omega) c_321) (fun c_321 => ?_)
          refine lv_iconst (v := nI 1) hx hb dL_tenders_285 (by decide) ?_
          refine lv_goto (tgt := 290) hx hb dL_tenders_286 (by decide) ?_
          have hLR : LR (g_addTender M (nI (((T 11 0) + 1) + c9)) (nI pa) (nI we) (nI s9)) (mu (mu T 1 (T 11 1) ((((((T 11 0) + 1) + c9) + (1024 * pa)) + (we * 65536)) + (s9 * 8388608))) 11 1 ((T 11 1) + 1)) := by rw [ten_g (ten_0 (by omega) (by omega) (by omega) (by omega) (by omega) (by omega)) (by omega) (by omega) (by omega) (by omega), show T 11 0 + 1 + c9 + 1024 * pa + we * 65536 + s9 * 8388608 = T 11 0 + 1 + c9 + 1024 * pa + 65536 * we + 8388608 * s9 by omega]; exact hR.tenderS hM (by omega) (by omega) (by omega) (by omega)
          have hLT : LT (mu (mu T 1 (T 11 1) ((((((T 11 0) + 1) + c9) + (1024 * pa)) + (we * 65536)) + (s9 * 8388608))) 11 1 ((T 11 1) + 1)) := by exact ⟨(LTb_mu (LTb_mu hT.1 (by show _ ≤ 268435455; omega)) (by show _ ≤ 2000; omega)), by simp [mu]; omega, by simp [mu]; omega, by simp [mu]; omega, by simp [mu]; omega, by simp [mu]; omega⟩
          refine W.widen (k := 42) (n := 930) (by omega) (by omega) ?_
          exact W.zret (v := nI 1) hx hb hr rfl (fun U9 ht9 hW9 => ⟨⟨_, (ws_312, g_addTender M (nI (((T 11 0) + 1) + c9)) (nI pa) (nI we) (nI s9), mu (mu T 1 (T 11 1) ((((((T 11 0) + 1) + c9) + (1024 * pa)) + (we * 65536)) + (s9 * 8388608))) 11 1 ((T 11 1) + 1)), rfl, ⟨rfl, hc_314, hM_318, hLB_319, Nat.le_trans h15_320 (Nat.succ_le_succ h15), hLR, hLT⟩, by show va_P D vwCl _ U9.heap ∧ va_P D vwCl _ U9.heap; rw [ht9]; exact ⟨hPw, hPa⟩⟩, hS.F ht9⟩) hS.2.2 dL_tenders_290
        · refine lv_aload_n hx hb dL_tenders_210 rfl (lv_at hl 7 rfl) ?_
          refine lv_iconst (v := nI 2) hx hb dL_tenders_211 (by decide) ?_
          refine lv_iconst (v := nI 0) hx hb dL_tenders_212 (by decide) ?_
          refine va_calli (vx_runSW (As := [.ref h, .int (nI 2), .int (nI 0)]) (rest := []) ⟨hx, hb, hml, hown, hts⟩ (cw_addLot l hst D cI cO cb eA mi st dO dT vF ws_303 hc_305 hM hsI (nI 2) (nI 0)) (vx_cwSW 3 hts gL_tenders_L_addLot rfl rfl rfl kd_L_addLot ⟨Nat.le_of_ble_eq_true rfl, Nat.le_of_ble_eq_true rfl⟩) ⟨kB_blind, kB_pre hK hG hGT hN (fun q h9 => Or.inl h9) hS (fun q h9 => hA q (Nat.le_trans hS.1 h9)) hPw _⟩ rfl rfl hl.1 rfl (lv_room (Nat.le_of_ble_eq_true rfl)) dL_tenders_213 ⟨by show 24 + 6 ≤ 42; omega, by show 684 + 126 ≤ 930; omega⟩) hS (fun _ _ h9 => Or.inl h9) (fun _ h9 => Or.inl h9) (fun r_322 ws_323 U8 H_327 locs_328 ht hvm hu_326 hB hz1 hk1 hS1 => ?_)
          obtain ⟨hr_324, hc_325⟩ := hu_326
          replace hB : va_P D vwCl ws_323 U8.heap := hB
          rw [ht] at hB
          replace hPa := aP_keep hPa hdB hAB hk1
          clear hPw hS
          have hPw := hB
          have hS := hS1
          clear hB hS1 hz1 hk1 hvm ht U8
          have hk_329 : k_addLot M (nI 2) (nI 0) = 1 := by exact lot_1 (by omega) (by omega) (by omega)
          rw [keep_addLot (by rw [hk_329]; decide)] at hc_325
          rw [hk_329] at hr_324
          replace hr_324 : r_322 = (-7100) := hr_324
          subst hr_324
          refine lv_sipush (v := (-7100)) hx hb dL_tenders_216 (by decide) ?_
          refine lv_icmp_ne (tgt := 226) hx hb dL_tenders_219 (by decide)  (fun c9 => absurd c9 (by decide)) (fun _ => ?_)
          refine lv_iconst (v := nI 1) hx hb dL_tenders_222 (by decide) ?_
          refine lv_goto (tgt := 227) hx hb dL_tenders_223 (by decide) ?_
          have hLR : LR (M) (T) := by exact hR
          have hLT : LT (T) := by exact hT
          refine W.widen (k := 42) (n := 930) (by omega) (by omega) ?_
          exact W.zret (v := nI 1) hx hb hr rfl (fun U9 ht9 hW9 => ⟨⟨_, (ws_323, M, T), rfl, ⟨rfl, hc_325, hM, hLB, Nat.le_succ_of_le h15, hLR, hLT⟩, by show va_P D vwCl _ U9.heap ∧ va_P D vwCl _ U9.heap; rw [ht9]; exact ⟨hPw, hPa⟩⟩, hS.F ht9⟩) hS.2.2 dL_tenders_227
      · have hk9 := hk_260
        refine lv_iload_n hx hb dL_tenders_65 rfl (lv_at hl 7 rfl) ?_
        refine lv_bipush (v := nI 96) hx hb dL_tenders_66 (by decide) ?_
        refine lv_iand hx hb dL_tenders_68 ?_
        refine lv_if_ne (tgt := 77) hx hb dL_tenders_69 (by decide)  (fun c_330 => ?_) (fun c_330 => ?_)
        · refine lv_iload_n hx hb dL_tenders_77 rfl (lv_at hl 7 rfl) ?_
          refine lv_bipush (v := nI 7) hx hb dL_tenders_78 (by decide) ?_
          refine lv_ishr hx hb dL_tenders_80 ?_
          refine lv_bipush (v := nI 101) hx hb dL_tenders_81 (by decide) ?_
          refine vp_callSi (W.runS (As := [.int (y >>> ((nI 7) &&& 31)), .int (nI 101)]) (rest := []) ⟨hx, hb, hml, hown, hts⟩ (ch_low l (y >>> ((nI 7) &&& 31)) 101 (by omega) (by omega)) (va_cwS 2 hts gL_tenders_L_low rfl rfl rfl kd_L_low ⟨Nat.le_of_ble_eq_true rfl, Nat.le_of_ble_eq_true rfl⟩) ⟨fun _ _ _ _ q => q, fun U hU hW => ⟨rfl, trivial⟩⟩ rfl rfl hl.1 rfl (lv_room (Nat.le_of_ble_eq_true rfl)) dL_tenders_83 ⟨Nat.le_of_ble_eq_true rfl, Nat.le_of_ble_eq_true rfl⟩) (fun r_331 hr_331 => ?_)
          subst hr_331
          have hw9 : lowN (y >>> ((nI 7) &&& 31)) 101 < 101 := lowN_lt _ (by decide)
          generalize lowN (y >>> ((nI 7) &&& 31)) 101 = w9 at hw9 ⊢
          refine lv_istore (lv' := [(15, .int (nI w9)), (14, .int (nI pa)), (13, .int (nI (((T 11 0) + 1) + c9))), (12, .int (nI j9)), (11, .int (nI t9)), (10, .int (nI b9)), (0, .ref h), (1, .int (nI act)), (2, .int y), (3, .int z), (4, .ref (ad 0)), (5, .ref (ad 1)), (6, .ref (ad 2)), (7, .ref (ad 3)), (8, .ref (ad 4)), (9, .ref (ad 11))]) hx hb dL_tenders_86 hl (by decide) rfl (fun ls hl => ?_)
          exact hk_260 w9 (by have f1 := hw9; omega) ls (lv_sub hl [0, 1, 2, 3, 4, 5, 6, 7, 8, 9, 10, 11, 12, 13, 14, 15] rfl)
        · refine lv_bipush (v := nI 100) hx hb dL_tenders_72 (by decide) ?_
          refine lv_goto (tgt := 86) hx hb dL_tenders_74 (by decide) ?_
          refine lv_istore (lv' := [(15, .int (nI 100)), (14, .int (nI pa)), (13, .int (nI (((T 11 0) + 1) + c9))), (12, .int (nI j9)), (11, .int (nI t9)), (10, .int (nI b9)), (0, .ref h), (1, .int (nI act)), (2, .int y), (3, .int z), (4, .ref (ad 0)), (5, .ref (ad 1)), (6, .ref (ad 2)), (7, .ref (ad 3)), (8, .ref (ad 4)), (9, .ref (ad 11))]) hx hb dL_tenders_86 hl (by decide) rfl (fun ls hl => ?_)
          exact hk_260 100 (by omega) ls (lv_sub hl [0, 1, 2, 3, 4, 5, 6, 7, 8, 9, 10, 11, 12, 13, 14, 15] rfl)
    · have hk9 := hk_259
      refine lv_iload_n hx hb dL_tenders_42 rfl (lv_at hl 7 rfl) ?_
      refine lv_bipush (v := nI 6) hx hb dL_tenders_43 (by decide) ?_
      refine lv_iand hx hb dL_tenders_45 ?_
      refine lv_if_ne (tgt := 53) hx hb dL_tenders_46 (by decide)  (fun c_332 => ?_) (fun c_332 => ?_)
      · refine lv_iconst (v := nI 1) hx hb dL_tenders_53 (by decide) ?_
        refine lv_iload_n hx hb dL_tenders_54 rfl (lv_at hl 7 rfl) ?_
        refine lv_iconst (v := nI 3) hx hb dL_tenders_55 (by decide) ?_
        refine lv_ishr hx hb dL_tenders_56 ?_
        refine lv_bipush (v := nI 6) hx hb dL_tenders_57 (by decide) ?_
        refine vp_callSi (W.runS (As := [.int (z >>> ((nI 3) &&& 31)), .int (nI 6)]) (rest := [.int (nI 1)]) ⟨hx, hb, hml, hown, hts⟩ (ch_low l (z >>> ((nI 3) &&& 31)) 6 (by omega) (by omega)) (va_cwS 2 hts gL_tenders_L_low rfl rfl rfl kd_L_low ⟨Nat.le_of_ble_eq_true rfl, Nat.le_of_ble_eq_true rfl⟩) ⟨fun _ _ _ _ q => q, fun U hU hW => ⟨rfl, trivial⟩⟩ rfl rfl hl.1 rfl (lv_room (Nat.le_of_ble_eq_true rfl)) dL_tenders_59 ⟨Nat.le_of_ble_eq_true rfl, Nat.le_of_ble_eq_true rfl⟩) (fun r_333 hr_333 => ?_)
        subst hr_333
        have hk9 : lowN (z >>> ((nI 3) &&& 31)) 6 < 6 := lowN_lt _ (by decide)
        generalize lowN (z >>> ((nI 3) &&& 31)) 6 = k9 at hk9 ⊢
        refine lv_ishl hx hb dL_tenders_62 ?_
        rw [show (nI 1) <<< ((nI k9) &&& 31) = nI (2 ^ k9) from (n_shl1 (by omega))]
        refine lv_istore (lv' := [(14, .int (nI (2 ^ k9))), (13, .int (nI (((T 11 0) + 1) + c9))), (12, .int (nI j9)), (11, .int (nI t9)), (10, .int (nI b9)), (0, .ref h), (1, .int (nI act)), (2, .int y), (3, .int z), (4, .ref (ad 0)), (5, .ref (ad 1)), (6, .ref (ad 2)), (7, .ref (ad 3)), (8, .ref (ad 4)), (9, .ref (ad 11))]) hx hb dL_tenders_63 hl (by decide) rfl (fun ls hl => ?_)
        exact hk_259 (2 ^ k9) (by have f1 : 2 ^ k9 ≤ 32 := two_pow_6 hk9; omega) ls (lv_sub hl [0, 1, 2, 3, 4, 5, 6, 7, 8, 9, 10, 11, 12, 13, 14] rfl)
      · refine lv_iconst (v := nI 0) hx hb dL_tenders_49 (by decide) ?_
        refine lv_goto (tgt := 63) hx hb dL_tenders_50 (by decide) ?_
        refine lv_istore (lv' := [(14, .int (nI 0)), (13, .int (nI (((T 11 0) + 1) + c9))), (12, .int (nI j9)), (11, .int (nI t9)), (10, .int (nI b9)), (0, .ref h), (1, .int (nI act)), (2, .int y), (3, .int z), (4, .ref (ad 0)), (5, .ref (ad 1)), (6, .ref (ad 2)), (7, .ref (ad 3)), (8, .ref (ad 4)), (9, .ref (ad 11))]) hx hb dL_tenders_63 hl (by decide) rfl (fun ls hl => ?_)
        exact hk_259 0 (by omega) ls (lv_sub hl [0, 1, 2, 3, 4, 5, 6, 7, 8, 9, 10, 11, 12, 13, 14] rfl)
