/-! what is told -/
set_option maxHeartbeats 8000000 in
set_option maxRecDepth 100000 in
theorem cb_isTold (l : Launch) (hst : l.stackTraces = false) (D : va_G) (ad : Nat → Nat) (cI cO cb : ClassId) (eA mi : Nat) (st : Nat → Nat) (dO dT : Nat) (vF : Value) {A B : Nat → Prop} (hAB : ∀ q, A q → ¬ B q) (hsI : sInj st) (hdB : aDis B ad) (ws : va_W) {h n15 : Nat} {M T : MS} (hc : cSt cI cO eA st A h M ws) (hM : MI M) (hLB : m_LB M) (h15 : M 15 0 ≤ n15) (hR : LR M T) (hT : LT T) (y : Int32) : Met l yL_isTold wsL_isTold ({ frames := 10, cells := 1000, slots := 21000, locals := 260 }) (va_Pc [.ref h, .int y, .ref (ad 1), .ref (ad 2), .ref (ad 3), .ref (ad 4), .ref (ad 5), .ref (ad 6), .ref (ad 7), .ref (ad 8), .ref (ad 9), .ref (ad 10), .ref (ad 11)] (bB D ad cI cO cb eA mi st dO dT vF A B ws T)) (va_Qi (fun (ri : Int32) (u : va_W × MS) => ri = nI 1 ∧ LZ cI cO eA st A h n15 T u) (fun u U9 => va_P D vwCl u.1 U9.heap ∧ va_P D vwCl (aws ad cI T) U9.heap) (fun q => A q ∨ B q)) 1000 21000 (fun q => A q ∨ B q) := by
  refine Met.ofW (cc := cL_isTold) (maxL := 19) (ret := (some .boolean)) (by decide) rfl ?_
  intro p e s m args below meth c s₁ B9 hml hv
  obtain ⟨rfl, hPw, hK, hG, hGT, hA, hN, hPa, hKa⟩ := hv
  have hx := B9.exec
  have hb := B9.bytes
  have hr := B9.returns
  have hts := atoms_spec (ws := wsL_isTold) B9.pre
  have hown : s.vm.findClass RL = some m.cls := findClass_of_methodNamed B9.named
  have hlocks := B9.notSynchronized
  have hS : va_S (fun q => A q ∨ B q) s.heap s.heap [] := va_S.rf
  have hl := lv_entry ([.ref h, .int y, .ref (ad 1), .ref (ad 2), .ref (ad 3), .ref (ad 4), .ref (ad 5), .ref (ad 6), .ref (ad 7), .ref (ad 8), .ref (ad 9), .ref (ad 10), .ref (ad 11)]) (n := 19) (Nat.le_of_ble_eq_true rfl)
  rw [lg_entry_eq]
  generalize (lg_sl ([.ref h, .int y, .ref (ad 1), .ref (ad 2), .ref (ad 3), .ref (ad 4), .ref (ad 5), .ref (ad 6), .ref (ad 7), .ref (ad 8), .ref (ad 9), .ref (ad 10), .ref (ad 11)]) ++ List.replicate (19 - (lg_sl ([.ref h, .int y, .ref (ad 1), .ref (ad 2), .ref (ad 3), .ref (ad 4), .ref (ad 5), .ref (ad 6), .ref (ad 7), .ref (ad 8), .ref (ad 9), .ref (ad 10), .ref (ad 11)])).length) Slot.unset).toArray = ls at hl ⊢
  have hl : lv_has ls 19 [(0, .ref h), (1, .int y), (2, .ref (ad 1)), (3, .ref (ad 2)), (4, .ref (ad 3)), (5, .ref (ad 4)), (6, .ref (ad 5)), (7, .ref (ad 6)), (8, .ref (ad 7)), (9, .ref (ad 8)), (10, .ref (ad 9)), (11, .ref (ad 10)), (12, .ref (ad 11))] := hl
  obtain ⟨g0, g1, g2, g3, g4, g5, g6⟩ := hR.1
  have hT2 := hT.2
  have hM1 : M 1 0 ≤ 2000 := hM 1 0
  obtain ⟨hU, -, -, hRS⟩ := hc.inv
  refine lv_iconst (v := nI 0) hx hb dL_isTold_0 (by decide) ?_
  refine lv_istore (lv' := [(13, .int (nI 0)), (0, .ref h), (1, .int y), (2, .ref (ad 1)), (3, .ref (ad 2)), (4, .ref (ad 3)), (5, .ref (ad 4)), (6, .ref (ad 5)), (7, .ref (ad 6)), (8, .ref (ad 7)), (9, .ref (ad 8)), (10, .ref (ad 9)), (11, .ref (ad 10)), (12, .ref (ad 11))]) hx hb dL_isTold_1 hl (by decide) rfl (fun ls hl => ?_)
  refine W.widen (k := 0 + 152 * 0) (n := 0 + 4477 * 0) (by omega) (by omega) ?_
  refine w_loopX (σ := va_W) (n := 4) (nL := 19) (fun j _ => [(0, .ref h), (1, .int y), (2, .ref (ad 1)), (3, .ref (ad 2)), (4, .ref (ad 3)), (5, .ref (ad 4)), (6, .ref (ad 5)), (7, .ref (ad 6)), (8, .ref (ad 7)), (9, .ref (ad 8)), (10, .ref (ad 9)), (11, .ref (ad 10)), (12, .ref (ad 11)), (13, .int (nI j))]) (fun j ws9 H9 locs9 => va_P D vwCl ws9 H9 ∧ cSt cI cO eA st A h M ws9 ∧ va_P D vwCl (aws ad cI T) H9 ∧ va_S (fun q => A q ∨ B q) s.heap H9 locs9) (fun j => 0 + 152 * j) (fun j => 0 + 4477 * j) (fun j hb_1 ws_3 H_5 locs_6 hJ_4 ih_2 ls hl => ?_) 0 (by omega) ws _ _ ⟨hPw, hc, hPa, hS⟩ ls (lv_sub hl [1, 2, 3, 4, 5, 6, 7, 8, 9, 10, 11, 12, 13, 0] rfl)
  clear hPw hPa hS
  obtain ⟨hPw, hc_7, hPa, hS⟩ := hJ_4
  show W _ _ _ _ _ _ _ _ _ _ _ _ (0 + 152 * j) (0 + 4477 * j) _ _
  refine lv_iload hx hb dL_isTold_3 (lv_at hl 13 rfl) ?_
  refine lv_iconst (v := nI 4) hx hb dL_isTold_5 (by decide) ?_
  refine n_icmp_ge (tgt := 323) hx hb dL_isTold_6 (by decide) (by omega) (by decide) (fun c_8 => ?_) (fun c_8 => ?_)
  · obtain rfl : 4 = j := by omega
    refine lv_iconst (v := nI 0) hx hb dL_isTold_323 (by decide) ?_
    refine lv_istore (lv' := [(13, .int (nI 0)), (0, .ref h), (1, .int y), (2, .ref (ad 1)), (3, .ref (ad 2)), (4, .ref (ad 3)), (5, .ref (ad 4)), (6, .ref (ad 5)), (7, .ref (ad 6)), (8, .ref (ad 7)), (9, .ref (ad 8)), (10, .ref (ad 9)), (11, .ref (ad 10)), (12, .ref (ad 11))]) hx hb dL_isTold_324 hl (by decide) rfl (fun ls hl => ?_)
    refine W.widen (k := (0 + 152 * 4) + 3 * 0) (n := (0 + 4477 * 4) + 18 * 0) (by omega) (by omega) ?_
    refine w_loopX (σ := va_W) (n := T 11 4) (nL := 19) (fun k _ => [(0, .ref h), (1, .int y), (2, .ref (ad 1)), (3, .ref (ad 2)), (4, .ref (ad 3)), (5, .ref (ad 4)), (6, .ref (ad 5)), (7, .ref (ad 6)), (8, .ref (ad 7)), (9, .ref (ad 8)), (10, .ref (ad 9)), (11, .ref (ad 10)), (12, .ref (ad 11)), (13, .int (nI k))]) (fun k ws9 H9 locs9 => va_P D vwCl ws9 H9 ∧ cSt cI cO eA st A h M ws9 ∧ va_P D vwCl (aws ad cI T) H9 ∧ va_S (fun q => A q ∨ B q) s.heap H9 locs9) (fun k => (0 + 152 * 4) + 3 * k) (fun k => (0 + 4477 * 4) + 18 * k) (fun k hb_9 ws_11 H_13 locs_14 hJ_12 ih_10 ls hl => ?_) 0 (by omega) ws_3 _ _ ⟨hPw, hc_7, hPa, hS⟩ ls (lv_sub hl [1, 2, 3, 4, 5, 6, 7, 8, 9, 10, 11, 12, 13, 0] rfl)
    clear hPw hPa hS
    obtain ⟨hPw, hc_15, hPa, hS⟩ := hJ_12
    show W _ _ _ _ _ _ _ _ _ _ _ _ ((0 + 152 * 4) + 3 * k) ((0 + 4477 * 4) + 18 * k) _ _
    refine lv_iload hx hb dL_isTold_326 (lv_at hl 13 rfl) ?_
    refine lv_aload hx hb dL_isTold_328 (lv_at hl 12 rfl) ?_
    refine lv_iconst (v := nI 4) hx hb dL_isTold_330 (by decide) ?_
    refine a_iald (f := 11) (n := 7) hx hb hKa hPa rfl (by decide) (by decide) dL_isTold_331 ?_
    refine n_icmp_ge (tgt := 414) hx hb dL_isTold_332 (by decide) (by omega) (by have f1 : T 11 4 ≤ 2000 := hT.1 11 4; have f2 : T 11 4 ≤ 32 := hT.2.2.2.1; omega) (fun c_16 => ?_) (fun c_16 => ?_)
    · obtain rfl : T 11 4 = k := by omega
      refine lv_aload hx hb dL_isTold_414 (lv_at hl 12 rfl) ?_
      refine lv_iconst (v := nI 4) hx hb dL_isTold_416 (by decide) ?_
      refine a_iald (f := 11) (n := 7) hx hb hKa hPa rfl (by decide) (by decide) dL_isTold_417 ?_
      refine n_if_le (tgt := 445) hx hb dL_isTold_418 (by decide) (by have f1 : T 11 4 ≤ 2000 := hT.1 11 4; have f2 : T 11 4 ≤ 32 := hT.2.2.2.1; omega) (fun c_17 => ?_) (fun c_17 => ?_)
      · refine lv_iconst (v := nI 0) hx hb dL_isTold_445 (by decide) ?_
        refine lv_istore (lv' := [(13, .int (nI 0)), (0, .ref h), (1, .int y), (2, .ref (ad 1)), (3, .ref (ad 2)), (4, .ref (ad 3)), (5, .ref (ad 4)), (6, .ref (ad 5)), (7, .ref (ad 6)), (8, .ref (ad 7)), (9, .ref (ad 8)), (10, .ref (ad 9)), (11, .ref (ad 10)), (12, .ref (ad 11))]) hx hb dL_isTold_446 hl (by decide) rfl (fun ls hl => ?_)
        refine W.widen (k := ((0 + 152 * 4) + 3 * (T 11 4)) + 1 * 0) (n := ((0 + 4477 * 4) + 18 * (T 11 4)) + 6 * 0) (by omega) (by omega) ?_
        refine w_loopX (σ := va_W) (n := T 11 5) (nL := 19) (fun k _ => [(0, .ref h), (1, .int y), (2, .ref (ad 1)), (3, .ref (ad 2)), (4, .ref (ad 3)), (5, .ref (ad 4)), (6, .ref (ad 5)), (7, .ref (ad 6)), (8, .ref (ad 7)), (9, .ref (ad 8)), (10, .ref (ad 9)), (11, .ref (ad 10)), (12, .ref (ad 11)), (13, .int (nI k))]) (fun k ws9 H9 locs9 => va_P D vwCl ws9 H9 ∧ cSt cI cO eA st A h M ws9 ∧ va_P D vwCl (aws ad cI T) H9 ∧ va_S (fun q => A q ∨ B q) s.heap H9 locs9) (fun k => ((0 + 152 * 4) + 3 * (T 11 4)) + 1 * k) (fun k => ((0 + 4477 * 4) + 18 * (T 11 4)) + 6 * k) (fun k hb_18 ws_20 H_22 locs_23 hJ_21 ih_19 ls hl => ?_) 0 (by omega) ws_11 _ _ ⟨hPw, hc_15, hPa, hS⟩ ls (lv_sub hl [1, 2, 3, 4, 5, 6, 7, 8, 9, 10, 11, 12, 13, 0] rfl)
        clear hPw hPa hS
        obtain ⟨hPw, hc_24, hPa, hS⟩ := hJ_21
        show W _ _ _ _ _ _ _ _ _ _ _ _ (((0 + 152 * 4) + 3 * (T 11 4)) + 1 * k) (((0 + 4477 * 4) + 18 * (T 11 4)) + 6 * k) _ _
        refine lv_iload hx hb dL_isTold_448 (lv_at hl 13 rfl) ?_
        refine lv_aload hx hb dL_isTold_450 (lv_at hl 12 rfl) ?_
        refine lv_iconst (v := nI 5) hx hb dL_isTold_452 (by decide) ?_
        refine a_iald (f := 11) (n := 7) hx hb hKa hPa rfl (by decide) (by decide) dL_isTold_453 ?_
        refine n_icmp_ge (tgt := 484) hx hb dL_isTold_454 (by decide) (by omega) (by have f1 : T 11 5 ≤ 2000 := hT.1 11 5; have f2 : T 11 5 ≤ 32 := hT.2.2.2.2.1; omega) (fun c_25 => ?_) (fun c_25 => ?_)
        · obtain rfl : T 11 5 = k := by omega
          refine lv_iconst (v := nI 0) hx hb dL_isTold_484 (by decide) ?_
          refine lv_istore (lv' := [(13, .int (nI 0)), (0, .ref h), (1, .int y), (2, .ref (ad 1)), (3, .ref (ad 2)), (4, .ref (ad 3)), (5, .ref (ad 4)), (6, .ref (ad 5)), (7, .ref (ad 6)), (8, .ref (ad 7)), (9, .ref (ad 8)), (10, .ref (ad 9)), (11, .ref (ad 10)), (12, .ref (ad 11))]) hx hb dL_isTold_485 hl (by decide) rfl (fun ls hl => ?_)
          refine W.widen (k := (((0 + 152 * 4) + 3 * (T 11 4)) + 1 * (T 11 5)) + 35 * 0) (n := (((0 + 4477 * 4) + 18 * (T 11 4)) + 6 * (T 11 5)) + 210 * 0) (by omega) (by omega) ?_
          refine w_loopX (σ := va_W) (n := 4) (nL := 19) (fun b _ => [(0, .ref h), (1, .int y), (2, .ref (ad 1)), (3, .ref (ad 2)), (4, .ref (ad 3)), (5, .ref (ad 4)), (6, .ref (ad 5)), (7, .ref (ad 6)), (8, .ref (ad 7)), (9, .ref (ad 8)), (10, .ref (ad 9)), (11, .ref (ad 10)), (12, .ref (ad 11)), (13, .int (nI b))]) (fun b ws9 H9 locs9 => va_P D vwCl ws9 H9 ∧ cSt cI cO eA st A h M ws9 ∧ va_P D vwCl (aws ad cI T) H9 ∧ va_S (fun q => A q ∨ B q) s.heap H9 locs9) (fun b => (((0 + 152 * 4) + 3 * (T 11 4)) + 1 * (T 11 5)) + 35 * b) (fun b => (((0 + 4477 * 4) + 18 * (T 11 4)) + 6 * (T 11 5)) + 210 * b) (fun b hb_26 ws_28 H_30 locs_31 hJ_29 ih_27 ls hl => ?_) 0 (by omega) ws_20 _ _ ⟨hPw, hc_24, hPa, hS⟩ ls (lv_sub hl [1, 2, 3, 4, 5, 6, 7, 8, 9, 10, 11, 12, 13, 0] rfl)
          clear hPw hPa hS
          obtain ⟨hPw, hc_32, hPa, hS⟩ := hJ_29
          show W _ _ _ _ _ _ _ _ _ _ _ _ ((((0 + 152 * 4) + 3 * (T 11 4)) + 1 * (T 11 5)) + 35 * b) ((((0 + 4477 * 4) + 18 * (T 11 4)) + 6 * (T 11 5)) + 210 * b) _ _
          refine lv_iload hx hb dL_isTold_487 (lv_at hl 13 rfl) ?_
          refine lv_iconst (v := nI 4) hx hb dL_isTold_489 (by decide) ?_
          refine n_icmp_ge (tgt := 768) hx hb dL_isTold_490 (by decide) (by omega) (by decide) (fun c_33 => ?_) (fun c_33 => ?_)
          · obtain rfl : 4 = b := by omega
            refine lv_aload_n hx hb dL_isTold_768 rfl (lv_at hl 0 rfl) ?_
            obtain ⟨own9, kd9, F9, L9, hC9, hW9, ⟨tn9, lo9, aw9, co9, ct9, ow9, G9⟩, hD9⟩ := hc_32
            have hcT : cSt cI cO eA st A h M ws_28 := ⟨own9, kd9, F9, L9, hC9, hW9, ⟨tn9, lo9, aw9, co9, ct9, ow9, G9⟩, hD9⟩
            have hmT : (h, .inr (9, [.ref (F9 0 h), .ref (F9 1 h), .ref (F9 2 h), .ref (F9 3 h), .ref (F9 4 h), .int (nI (F9 5 h))])) ∈ ws_28 := hC9.at G9.1.1 (by decide) (by decide)
            have e5 : F9 5 h = M 1 0 := G9.1.2.2.1
            refine vp_callSi (W.runV (As := []) (rest := []) ⟨hx, hb, hml, hown, hts⟩ (ck_today l D cI cO cb eA mi st ws_28 hD9 hC9 hW9 hsI h G9.1.1) (cwV 0 hts gL_isTold_X8_today rfl rfl rfl kd_X8_today ⟨Nat.le_of_ble_eq_true rfl, Nat.le_of_ble_eq_true rfl⟩) ⟨cB_blind, c_recv hK hPw rfl hmT, cB_preN hK hG (fun q h9 => Or.inl h9) hS (fun q h9 => hA q (Nat.le_trans hS.1 h9)) hPw _⟩ rfl rfl hl.1 rfl (lv_room (Nat.le_of_ble_eq_true rfl)) dL_isTold_769 ⟨by show ((((0 + 152 * 4) + 3 * (T 11 4)) + 1 * (T 11 5)) + 35 * 4) + 0 ≤ 1000; omega, by show ((((0 + 4477 * 4) + 18 * (T 11 4)) + 6 * (T 11 5)) + 210 * 4) + 0 ≤ 21000; omega⟩) (fun r_34 hr_34 => ?_)
            subst hr_34
            rw [e5]
            refine lv_aload hx hb dL_isTold_772 (lv_at hl 12 rfl) ?_
            refine lv_iconst (v := nI 0) hx hb dL_isTold_774 (by decide) ?_
            refine a_iald (f := 11) (n := 7) hx hb hKa hPa rfl (by decide) (by decide) dL_isTold_775 ?_
            refine n_icmp_ne (tgt := 932) hx hb dL_isTold_776 (by decide) (by have f1 : M 1 0 ≤ 2000 := hM 1 0; omega) (by have f1 : T 11 0 ≤ 2000 := hT.1 11 0; omega) (fun c_35 => absurd (by omega) c_35) (fun c_35 => ?_)
            refine lv_aload_n hx hb dL_isTold_779 rfl (lv_at hl 0 rfl) ?_
            refine lv_aload hx hb dL_isTold_780 (lv_at hl 12 rfl) ?_
            refine lv_iconst (v := nI 4) hx hb dL_isTold_782 (by decide) ?_
            refine a_iald (f := 11) (n := 7) hx hb hKa hPa rfl (by decide) (by decide) dL_isTold_783 ?_
            refine va_calli (vx_runSW (As := [.ref h, .int (nI (T 11 4))]) (rest := []) ⟨hx, hb, hml, hown, hts⟩ (cw_winner l hst D cI cO cb eA mi st dO dT vF ws_28 hcT hM hsI (nI (T 11 4))) (vx_cwSW 2 hts gL_isTold_L_winner rfl rfl rfl kd_L_winner ⟨Nat.le_of_ble_eq_true rfl, Nat.le_of_ble_eq_true rfl⟩) ⟨kB_blind, kB_pre hK hG hGT hN (fun q h9 => Or.inl h9) hS (fun q h9 => hA q (Nat.le_trans hS.1 h9)) hPw _⟩ rfl rfl hl.1 rfl (lv_room (Nat.le_of_ble_eq_true rfl)) dL_isTold_784 ⟨by show ((((0 + 152 * 4) + 3 * (T 11 4)) + 1 * (T 11 5)) + 35 * 4) + 1 ≤ 1000; omega, by show ((((0 + 4477 * 4) + 18 * (T 11 4)) + 6 * (T 11 5)) + 210 * 4) + 6 ≤ 21000; omega⟩) hS (fun _ _ h9 => Or.inl h9) (fun _ h9 => Or.inl h9) (fun r_36 ws_37 U8 H_41 locs_42 ht hvm hu_40 hB hz1 hk1 hS1 => ?_)
            obtain ⟨hr_38, hc_39⟩ := hu_40
            replace hB : va_P D vwCl ws_37 U8.heap := hB
            rw [ht] at hB
            replace hPa := aP_keep hPa hdB hAB hk1
            clear hPw hS
            have hPw := hB
            have hS := hS1
            clear hB hS1 hz1 hk1 hvm ht U8
            have hk_43 : k_aw M (nI (T 11 4)) = 1 := by exact aw_1 (by omega) (by omega) (by omega)
            rw [hk_43] at hr_38
            replace hr_38 : r_36 = (-7100) := hr_38
            subst hr_38
            clear hk_43
            refine lv_sipush (v := (-7100)) hx hb dL_isTold_787 (by decide) ?_
            refine lv_icmp_ne (tgt := 932) hx hb dL_isTold_790 (by decide)  (fun c9 => absurd c9 (by decide)) (fun _ => ?_)
            refine lv_aload_n hx hb dL_isTold_793 rfl (lv_at hl 0 rfl) ?_
            refine lv_iconst (v := (-1)) hx hb dL_isTold_794 (by decide) ?_
            refine va_calli (vx_runSW (As := [.ref h, .int (-1)]) (rest := []) ⟨hx, hb, hml, hown, hts⟩ (cw_isVoid l hst D cI cO cb eA mi st dO dT vF ws_37 hc_39 hM hsI (-1)) (vx_cwSW 2 hts gL_isTold_L_isVoid rfl rfl rfl kd_L_isVoid ⟨Nat.le_of_ble_eq_true rfl, Nat.le_of_ble_eq_true rfl⟩) ⟨kB_blind, kB_pre hK hG hGT hN (fun q h9 => Or.inl h9) hS (fun q h9 => hA q (Nat.le_trans hS.1 h9)) hPw _⟩ rfl rfl hl.1 rfl (lv_room (Nat.le_of_ble_eq_true rfl)) dL_isTold_795 ⟨by show (((((0 + 152 * 4) + 3 * (T 11 4)) + 1 * (T 11 5)) + 35 * 4) + 1) + 1 ≤ 1000; omega, by show (((((0 + 4477 * 4) + 18 * (T 11 4)) + 6 * (T 11 5)) + 210 * 4) + 6) + 6 ≤ 21000; omega⟩) hS (fun _ _ h9 => Or.inl h9) (fun _ h9 => Or.inl h9) (fun r_44 ws_45 U8 H_49 locs_50 ht hvm hu_48 hB hz1 hk1 hS1 => ?_)
            obtain ⟨hr_46, hc_47⟩ := hu_48
            replace hB : va_P D vwCl ws_45 U8.heap := hB
            rw [ht] at hB
            replace hPa := aP_keep hPa hdB hAB hk1
            clear hPw hS
            have hPw := hB
            have hS := hS1
            clear hB hS1 hz1 hk1 hvm ht U8
            have hk_51 : k_aw M (-1) = 1 := by exact lin_n (by omega) (by decide)
            rw [hk_51] at hr_46
            replace hr_46 : r_44 = (-7100) := hr_46
            subst hr_46
            clear hk_51
            refine lv_sipush (v := (-7100)) hx hb dL_isTold_798 (by decide) ?_
            refine lv_icmp_ne (tgt := 932) hx hb dL_isTold_801 (by decide)  (fun c9 => absurd c9 (by decide)) (fun _ => ?_)
            refine lv_aload_n hx hb dL_isTold_804 rfl (lv_at hl 0 rfl) ?_
            refine lv_aload hx hb dL_isTold_805 (lv_at hl 12 rfl) ?_
            refine lv_iconst (v := nI 4) hx hb dL_isTold_807 (by decide) ?_
            refine a_iald (f := 11) (n := 7) hx hb hKa hPa rfl (by decide) (by decide) dL_isTold_808 ?_
            refine va_calli (vx_runSW (As := [.ref h, .int (nI (T 11 4))]) (rest := []) ⟨hx, hb, hml, hown, hts⟩ (cw_isFinal l hst D cI cO cb eA mi st dO dT vF ws_45 hc_47 hM hsI (nI (T 11 4))) (vx_cwSW 2 hts gL_isTold_L_isFinal rfl rfl rfl kd_L_isFinal ⟨Nat.le_of_ble_eq_true rfl, Nat.le_of_ble_eq_true rfl⟩) ⟨kB_blind, kB_pre hK hG hGT hN (fun q h9 => Or.inl h9) hS (fun q h9 => hA q (Nat.le_trans hS.1 h9)) hPw _⟩ rfl rfl hl.1 rfl (lv_room (Nat.le_of_ble_eq_true rfl)) dL_isTold_809 ⟨by show ((((((0 + 152 * 4) + 3 * (T 11 4)) + 1 * (T 11 5)) + 35 * 4) + 1) + 1) + 1 ≤ 1000; omega, by show ((((((0 + 4477 * 4) + 18 * (T 11 4)) + 6 * (T 11 5)) + 210 * 4) + 6) + 6) + 6 ≤ 21000; omega⟩) hS (fun _ _ h9 => Or.inl h9) (fun _ h9 => Or.inl h9) (fun r_52 ws_53 U8 H_57 locs_58 ht hvm hu_56 hB hz1 hk1 hS1 => ?_)
            obtain ⟨hr_54, hc_55⟩ := hu_56
            replace hB : va_P D vwCl ws_53 U8.heap := hB
            rw [ht] at hB
            replace hPa := aP_keep hPa hdB hAB hk1
            clear hPw hS
            have hPw := hB
            have hS := hS1
            clear hB hS1 hz1 hk1 hvm ht U8
            have hk_59 : k_aw M (nI (T 11 4)) = 1 := by exact aw_1 (by omega) (by omega) (by omega)
            rw [hk_59] at hr_54
            replace hr_54 : r_52 = (-7100) := hr_54
            subst hr_54
            clear hk_59
            refine lv_sipush (v := (-7100)) hx hb dL_isTold_812 (by decide) ?_
            refine lv_icmp_ne (tgt := 932) hx hb dL_isTold_815 (by decide)  (fun c9 => absurd c9 (by decide)) (fun _ => ?_)
            refine lv_aload_n hx hb dL_isTold_818 rfl (lv_at hl 0 rfl) ?_
            refine lv_aload hx hb dL_isTold_819 (lv_at hl 12 rfl) ?_
            refine lv_iconst (v := nI 4) hx hb dL_isTold_821 (by decide) ?_
            refine a_iald (f := 11) (n := 7) hx hb hKa hPa rfl (by decide) (by decide) dL_isTold_822 ?_
            refine va_calli (vx_runSW (As := [.ref h, .int (nI (T 11 4))]) (rest := []) ⟨hx, hb, hml, hown, hts⟩ (cw_line l hst D cI cO cb eA mi st dO dT vF ws_53 hc_55 hM hsI (nI (T 11 4))) (vx_cwSW 2 hts gL_isTold_L_line rfl rfl rfl kd_L_line ⟨Nat.le_of_ble_eq_true rfl, Nat.le_of_ble_eq_true rfl⟩) ⟨kB_blind, kB_pre hK hG hGT hN (fun q h9 => Or.inl h9) hS (fun q h9 => hA q (Nat.le_trans hS.1 h9)) hPw _⟩ rfl rfl hl.1 rfl (lv_room (Nat.le_of_ble_eq_true rfl)) dL_isTold_823 ⟨by show (((((((0 + 152 * 4) + 3 * (T 11 4)) + 1 * (T 11 5)) + 35 * 4) + 1) + 1) + 1) + 3 ≤ 1000; omega, by show (((((((0 + 4477 * 4) + 18 * (T 11 4)) + 6 * (T 11 5)) + 210 * 4) + 6) + 6) + 6) + 26 ≤ 21000; omega⟩) hS (fun _ _ h9 => Or.inl h9) (fun _ h9 => Or.inl h9) (fun r_60 ws_61 U8 H_65 locs_66 ht hvm hu_64 hB hz1 hk1 hS1 => ?_)
            obtain ⟨hr_62, hc_63⟩ := hu_64
            replace hB : va_P D vwCl ws_61 U8.heap := hB
            rw [ht] at hB
            replace hPa := aP_keep hPa hdB hAB hk1
            clear hPw hS
            have hPw := hB
            have hS := hS1
            clear hB hS1 hz1 hk1 hvm ht U8
            have hk_67 : k_aw M (nI (T 11 4)) = 1 := by exact aw_1 (by omega) (by omega) (by omega)
            rw [hk_67] at hr_62
            replace hr_62 : r_60 = (-7100) := hr_62
            subst hr_62
            clear hk_67
            have hn_68 : ∀ f, f ∉ [33, 34] → (g_line M (nI (T 11 4))) f = M f := g_line_nf M (nI (T 11 4))
            have hM_68 : MI (g_line M (nI (T 11 4))) := MI_line hM (nI (T 11 4))
            have hLB_68 : m_LB (g_line M (nI (T 11 4))) := (LB_line (nI (T 11 4))).1 hLB
            have h15_68 : (g_line M (nI (T 11 4))) 15 0 ≤ n15 := by rw [hn_68 15 (by decide)]; exact h15
            have hR_68 : LR (g_line M (nI (T 11 4))) T := hR.ln hn_68
            have g4_68 := hR_68.1.2.2.2.2
            generalize g_line M (nI (T 11 4)) = M_68 at hn_68 hM_68 hLB_68 h15_68 hR_68 g4_68 hc_63
            have g3_68 : M_68 3 0 ≤ 2 := hR_68.1.2.2.1
            clear hn_68
            refine lv_sipush (v := (-7100)) hx hb dL_isTold_826 (by decide) ?_
            refine lv_icmp_ne (tgt := 932) hx hb dL_isTold_829 (by decide)  (fun c9 => absurd c9 (by decide)) (fun _ => ?_)
            refine lv_aload_n hx hb dL_isTold_832 rfl (lv_at hl 0 rfl) ?_
            refine lv_iconst (v := (-1)) hx hb dL_isTold_833 (by decide) ?_
            refine lv_iconst (v := nI 0) hx hb dL_isTold_834 (by decide) ?_
            refine va_calli (vx_runSW (As := [.ref h, .int (-1), .int (nI 0)]) (rest := []) ⟨hx, hb, hml, hown, hts⟩ (cw_lineChar l hst D cI cO cb eA mi st dO dT vF ws_61 hc_63 hM_68 hsI (-1) (nI 0)) (vx_cwSW 3 hts gL_isTold_L_lineChar rfl rfl rfl kd_L_lineChar ⟨Nat.le_of_ble_eq_true rfl, Nat.le_of_ble_eq_true rfl⟩) ⟨kB_blind, kB_pre hK hG hGT hN (fun q h9 => Or.inl h9) hS (fun q h9 => hA q (Nat.le_trans hS.1 h9)) hPw _⟩ rfl rfl hl.1 rfl (lv_room (Nat.le_of_ble_eq_true rfl)) dL_isTold_835 ⟨by show ((((((((0 + 152 * 4) + 3 * (T 11 4)) + 1 * (T 11 5)) + 35 * 4) + 1) + 1) + 1) + 3) + 4 ≤ 1000; omega, by show ((((((((0 + 4477 * 4) + 18 * (T 11 4)) + 6 * (T 11 5)) + 210 * 4) + 6) + 6) + 6) + 26) + 32 ≤ 21000; omega⟩) hS (fun _ _ h9 => Or.inl h9) (fun _ h9 => Or.inl h9) (fun r_69 ws_70 U8 H_74 locs_75 ht hvm hu_73 hB hz1 hk1 hS1 => ?_)
            obtain ⟨hr_71, hc_72⟩ := hu_73
            replace hB : va_P D vwCl ws_70 U8.heap := hB
            rw [ht] at hB
            replace hPa := aP_keep hPa hdB hAB hk1
            clear hPw hS
            have hPw := hB
            have hS := hS1
            clear hB hS1 hz1 hk1 hvm ht U8
            have hk_76 : k_lineChar M_68 (-1) (nI 0) = 1 := by exact lch_n (by omega) (by decide)
            rw [hk_76] at hr_71
            replace hr_71 : r_69 = (-7100) := hr_71
            subst hr_71
            clear hk_76
            have hn_77 : ∀ f, f ∉ [33, 34] → (g_line M_68 (-1)) f = M_68 f := g_line_nf M_68 (-1)
            have hM_77 : MI (g_line M_68 (-1)) := MI_line hM_68 (-1)
            have hLB_77 : m_LB (g_line M_68 (-1)) := (LB_line (-1)).1 hLB_68
            have h15_77 : (g_line M_68 (-1)) 15 0 ≤ n15 := by rw [hn_77 15 (by decide)]; exact h15_68
            have hR_77 : LR (g_line M_68 (-1)) T := hR_68.ln hn_77
            have g4_77 := hR_77.1.2.2.2.2
            generalize g_line M_68 (-1) = M_77 at hn_77 hM_77 hLB_77 h15_77 hR_77 g4_77 hc_72
            have g3_77 : M_77 3 0 ≤ 2 := hR_77.1.2.2.1
            clear hn_77
            clear hc_63 hM_68 hLB_68 h15_68 hR_68 g4_68 g3_68 ws_61 M_68
            refine lv_sipush (v := (-7100)) hx hb dL_isTold_838 (by decide) ?_
            refine lv_icmp_ne (tgt := 932) hx hb dL_isTold_841 (by decide)  (fun c9 => absurd c9 (by decide)) (fun _ => ?_)
            refine lv_aload_n hx hb dL_isTold_844 rfl (lv_at hl 0 rfl) ?_
            refine lv_aload hx hb dL_isTold_845 (lv_at hl 12 rfl) ?_
            refine lv_iconst (v := nI 5) hx hb dL_isTold_847 (by decide) ?_
            refine a_iald (f := 11) (n := 7) hx hb hKa hPa rfl (by decide) (by decide) dL_isTold_848 ?_
            refine va_calli (vx_runSW (As := [.ref h, .int (nI (T 11 5))]) (rest := []) ⟨hx, hb, hml, hown, hts⟩ (cw_stateOf l hst D cI cO cb eA mi st dO dT vF ws_70 hc_72 hM_77 hsI (nI (T 11 5))) (vx_cwSW 2 hts gL_isTold_L_stateOf rfl rfl rfl kd_L_stateOf ⟨Nat.le_of_ble_eq_true rfl, Nat.le_of_ble_eq_true rfl⟩) ⟨kB_blind, kB_pre hK hG hGT hN (fun q h9 => Or.inl h9) hS (fun q h9 => hA q (Nat.le_trans hS.1 h9)) hPw _⟩ rfl rfl hl.1 rfl (lv_room (Nat.le_of_ble_eq_true rfl)) dL_isTold_849 ⟨by show (((((((((0 + 152 * 4) + 3 * (T 11 4)) + 1 * (T 11 5)) + 35 * 4) + 1) + 1) + 1) + 3) + 4) + 1 ≤ 1000; omega, by show (((((((((0 + 4477 * 4) + 18 * (T 11 4)) + 6 * (T 11 5)) + 210 * 4) + 6) + 6) + 6) + 26) + 32) + 6 ≤ 21000; omega⟩) hS (fun _ _ h9 => Or.inl h9) (fun _ h9 => Or.inl h9) (fun r_78 ws_79 U8 H_83 locs_84 ht hvm hu_82 hB hz1 hk1 hS1 => ?_)
            obtain ⟨hr_80, hc_81⟩ := hu_82
            replace hB : va_P D vwCl ws_79 U8.heap := hB
            rw [ht] at hB
            replace hPa := aP_keep hPa hdB hAB hk1
            clear hPw hS
            have hPw := hB
            have hS := hS1
            clear hB hS1 hz1 hk1 hvm ht U8
            have hk_85 : k_co M_77 (nI (T 11 5)) = 1 := by exact co_1 (by omega) (by omega) (by omega)
            rw [hk_85] at hr_80
            replace hr_80 : r_78 = (-7100) := hr_80
            subst hr_80
            clear hk_85
            refine lv_sipush (v := (-7100)) hx hb dL_isTold_852 (by decide) ?_
            refine lv_icmp_ne (tgt := 932) hx hb dL_isTold_855 (by decide)  (fun c9 => absurd c9 (by decide)) (fun _ => ?_)
            refine lv_aload_n hx hb dL_isTold_858 rfl (lv_at hl 0 rfl) ?_
            refine lv_iconst (v := (-1)) hx hb dL_isTold_859 (by decide) ?_
            refine va_calli (vx_runSW (As := [.ref h, .int (-1)]) (rest := []) ⟨hx, hb, hml, hown, hts⟩ (cw_running l hst D cI cO cb eA mi st dO dT vF ws_79 hc_81 hM_77 hsI (-1)) (vx_cwSW 2 hts gL_isTold_L_running rfl rfl rfl kd_L_running ⟨Nat.le_of_ble_eq_true rfl, Nat.le_of_ble_eq_true rfl⟩) ⟨kB_blind, kB_pre hK hG hGT hN (fun q h9 => Or.inl h9) hS (fun q h9 => hA q (Nat.le_trans hS.1 h9)) hPw _⟩ rfl rfl hl.1 rfl (lv_room (Nat.le_of_ble_eq_true rfl)) dL_isTold_860 ⟨by show ((((((((((0 + 152 * 4) + 3 * (T 11 4)) + 1 * (T 11 5)) + 35 * 4) + 1) + 1) + 1) + 3) + 4) + 1) + 1 ≤ 1000; omega, by show ((((((((((0 + 4477 * 4) + 18 * (T 11 4)) + 6 * (T 11 5)) + 210 * 4) + 6) + 6) + 6) + 26) + 32) + 6) + 6 ≤ 21000; omega⟩) hS (fun _ _ h9 => Or.inl h9) (fun _ h9 => Or.inl h9) (fun r_86 ws_87 U8 H_91 locs_92 ht hvm hu_90 hB hz1 hk1 hS1 => ?_)
            obtain ⟨hr_88, hc_89⟩ := hu_90
            replace hB : va_P D vwCl ws_87 U8.heap := hB
            rw [ht] at hB
            replace hPa := aP_keep hPa hdB hAB hk1
            clear hPw hS
            have hPw := hB
            have hS := hS1
            clear hB hS1 hz1 hk1 hvm ht U8
            have hk_93 : k_ct M_77 (-1) = 1 := by exact ct_n (by omega) (by decide)
            rw [hk_93] at hr_88
            replace hr_88 : r_86 = (-7100) := hr_88
            subst hr_88
            clear hk_93
            refine lv_sipush (v := (-7100)) hx hb dL_isTold_863 (by decide) ?_
            refine lv_icmp_ne (tgt := 932) hx hb dL_isTold_866 (by decide)  (fun c9 => absurd c9 (by decide)) (fun _ => ?_)
            refine lv_aload_n hx hb dL_isTold_869 rfl (lv_at hl 0 rfl) ?_
            refine lv_bipush (v := nI 8) hx hb dL_isTold_870 (by decide) ?_
            refine va_calli (vx_runSW (As := [.ref h, .int (nI 8)]) (rest := []) ⟨hx, hb, hml, hown, hts⟩ (cw_owes l hst D cI cO cb eA mi st dO dT vF ws_87 hc_89 hM_77 hsI (nI 8)) (vx_cwSW 2 hts gL_isTold_L_owes rfl rfl rfl kd_L_owes ⟨Nat.le_of_ble_eq_true rfl, Nat.le_of_ble_eq_true rfl⟩) ⟨kB_blind, kB_pre hK hG hGT hN (fun q h9 => Or.inl h9) hS (fun q h9 => hA q (Nat.le_trans hS.1 h9)) hPw _⟩ rfl rfl hl.1 rfl (lv_room (Nat.le_of_ble_eq_true rfl)) dL_isTold_872 ⟨by show (((((((((((0 + 152 * 4) + 3 * (T 11 4)) + 1 * (T 11 5)) + 35 * 4) + 1) + 1) + 1) + 3) + 4) + 1) + 1) + 1 ≤ 1000; omega, by show (((((((((((0 + 4477 * 4) + 18 * (T 11 4)) + 6 * (T 11 5)) + 210 * 4) + 6) + 6) + 6) + 26) + 32) + 6) + 6) + 6 ≤ 21000; omega⟩) hS (fun _ _ h9 => Or.inl h9) (fun _ h9 => Or.inl h9) (fun r_94 ws_95 U8 H_99 locs_100 ht hvm hu_98 hB hz1 hk1 hS1 => ?_)
            obtain ⟨hr_96, hc_97⟩ := hu_98
            replace hB : va_P D vwCl ws_95 U8.heap := hB
            rw [ht] at hB
            replace hPa := aP_keep hPa hdB hAB hk1
            clear hPw hS
            have hPw := hB
            have hS := hS1
            clear hB hS1 hz1 hk1 hvm ht U8
            have hk_101 : k_b (nI 8) = 1 := by exact kb_1 (by omega) (by omega)
            rw [hk_101] at hr_96
            replace hr_96 : r_94 = (-7100) := hr_96
            subst hr_96
            clear hk_101
            refine lv_sipush (v := (-7100)) hx hb dL_isTold_875 (by decide) ?_
            refine lv_icmp_ne (tgt := 932) hx hb dL_isTold_878 (by decide)  (fun c9 => absurd c9 (by decide)) (fun _ => ?_)
            refine lv_aload_n hx hb dL_isTold_881 rfl (lv_at hl 0 rfl) ?_
            refine lv_iconst (v := (-1)) hx hb dL_isTold_882 (by decide) ?_
            refine va_calli (vx_runSW (As := [.ref h, .int (-1)]) (rest := []) ⟨hx, hb, hml, hown, hts⟩ (cw_held l hst D cI cO cb eA mi st dO dT vF ws_95 hc_97 hM_77 hsI (-1)) (vx_cwSW 2 hts gL_isTold_L_held rfl rfl rfl kd_L_held ⟨Nat.le_of_ble_eq_true rfl, Nat.le_of_ble_eq_true rfl⟩) ⟨kB_blind, kB_pre hK hG hGT hN (fun q h9 => Or.inl h9) hS (fun q h9 => hA q (Nat.le_trans hS.1 h9)) hPw _⟩ rfl rfl hl.1 rfl (lv_room (Nat.le_of_ble_eq_true rfl)) dL_isTold_883 ⟨by show ((((((((((((0 + 152 * 4) + 3 * (T 11 4)) + 1 * (T 11 5)) + 35 * 4) + 1) + 1) + 1) + 3) + 4) + 1) + 1) + 1) + 1 ≤ 1000; omega, by show ((((((((((((0 + 4477 * 4) + 18 * (T 11 4)) + 6 * (T 11 5)) + 210 * 4) + 6) + 6) + 6) + 26) + 32) + 6) + 6) + 6) + 6 ≤ 21000; omega⟩) hS (fun _ _ h9 => Or.inl h9) (fun _ h9 => Or.inl h9) (fun r_102 ws_103 U8 H_107 locs_108 ht hvm hu_106 hB hz1 hk1 hS1 => ?_)
            obtain ⟨hr_104, hc_105⟩ := hu_106
            replace hB : va_P D vwCl ws_103 U8.heap := hB
            rw [ht] at hB
            replace hPa := aP_keep hPa hdB hAB hk1
            clear hPw hS
            have hPw := hB
            have hS := hS1
            clear hB hS1 hz1 hk1 hvm ht U8
            have hk_109 : k_b (-1) = 1 := by exact kb_n (by decide)
            rw [hk_109] at hr_104
            replace hr_104 : r_102 = (-7100) := hr_104
            subst hr_104
            clear hk_109
            refine lv_sipush (v := (-7100)) hx hb dL_isTold_886 (by decide) ?_
            refine lv_icmp_ne (tgt := 932) hx hb dL_isTold_889 (by decide)  (fun c9 => absurd c9 (by decide)) (fun _ => ?_)
            refine lv_aload_n hx hb dL_isTold_892 rfl (lv_at hl 0 rfl) ?_
            refine lv_ldc (v := nI 2147483647) hx hb hown (hts (.constant RL 233 (2147483647)) (List.mem_of_getElem? (i := 1) rfl)) dL_isTold_893 ?_
            refine va_calli (vx_runSW (As := [.ref h, .int (nI 2147483647)]) (rest := []) ⟨hx, hb, hml, hown, hts⟩ (cw_lost l hst D cI cO cb eA mi st dO dT vF ws_103 hc_105 hM_77 hsI (nI 2147483647)) (vx_cwSW 2 hts gL_isTold_L_lost rfl rfl rfl kd_L_lost ⟨Nat.le_of_ble_eq_true rfl, Nat.le_of_ble_eq_true rfl⟩) ⟨kB_blind, kB_pre hK hG hGT hN (fun q h9 => Or.inl h9) hS (fun q h9 => hA q (Nat.le_trans hS.1 h9)) hPw _⟩ rfl rfl hl.1 rfl (lv_room (Nat.le_of_ble_eq_true rfl)) dL_isTold_895 ⟨by show (((((((((((((0 + 152 * 4) + 3 * (T 11 4)) + 1 * (T 11 5)) + 35 * 4) + 1) + 1) + 1) + 3) + 4) + 1) + 1) + 1) + 1) + 1 ≤ 1000; omega, by show (((((((((((((0 + 4477 * 4) + 18 * (T 11 4)) + 6 * (T 11 5)) + 210 * 4) + 6) + 6) + 6) + 26) + 32) + 6) + 6) + 6) + 6) + 6 ≤ 21000; omega⟩) hS (fun _ _ h9 => Or.inl h9) (fun _ h9 => Or.inl h9) (fun r_110 ws_111 U8 H_115 locs_116 ht hvm hu_114 hB hz1 hk1 hS1 => ?_)
            obtain ⟨hr_112, hc_113⟩ := hu_114
            replace hB : va_P D vwCl ws_111 U8.heap := hB
            rw [ht] at hB
            replace hPa := aP_keep hPa hdB hAB hk1
            clear hPw hS
            have hPw := hB
            have hS := hS1
            clear hB hS1 hz1 hk1 hvm ht U8
            have hk_117 : k_b (nI 2147483647) = 1 := by exact kb_1 (by decide) (by decide)
            rw [hk_117] at hr_112
            replace hr_112 : r_110 = (-7100) := hr_112
            subst hr_112
            clear hk_117
            refine lv_sipush (v := (-7100)) hx hb dL_isTold_898 (by decide) ?_
            refine lv_icmp_ne (tgt := 932) hx hb dL_isTold_901 (by decide)  (fun c9 => absurd c9 (by decide)) (fun _ => ?_)
            refine lv_aload_n hx hb dL_isTold_904 rfl (lv_at hl 0 rfl) ?_
            refine lv_iconst (v := nI 2) hx hb dL_isTold_905 (by decide) ?_
            refine lv_iconst (v := nI 0) hx hb dL_isTold_906 (by decide) ?_
            refine va_calli (vx_runSW (As := [.ref h, .int (nI 2), .int (nI 0)]) (rest := []) ⟨hx, hb, hml, hown, hts⟩ (cw_winnerAnew l hst D cI cO cb eA mi st dO dT vF ws_111 hc_113 hM_77 hsI (nI 2) (nI 0)) (vx_cwSW 3 hts gL_isTold_L_winnerAnew rfl rfl rfl kd_L_winnerAnew ⟨Nat.le_of_ble_eq_true rfl, Nat.le_of_ble_eq_true rfl⟩) ⟨kB_blind, kB_pre hK hG hGT hN (fun q h9 => Or.inl h9) hS (fun q h9 => hA q (Nat.le_trans hS.1 h9)) hPw _⟩ rfl rfl hl.1 rfl (lv_room (Nat.le_of_ble_eq_true rfl)) dL_isTold_907 ⟨by show ((((((((((((((0 + 152 * 4) + 3 * (T 11 4)) + 1 * (T 11 5)) + 35 * 4) + 1) + 1) + 1) + 3) + 4) + 1) + 1) + 1) + 1) + 1) + 21 ≤ 1000; omega, by show ((((((((((((((0 + 4477 * 4) + 18 * (T 11 4)) + 6 * (T 11 5)) + 210 * 4) + 6) + 6) + 6) + 26) + 32) + 6) + 6) + 6) + 6) + 6) + 839 ≤ 21000; omega⟩) hS (fun _ _ h9 => Or.inl h9) (fun _ h9 => Or.inl h9) (fun r_118 ws_119 U8 H_123 locs_124 ht hvm hu_122 hB hz1 hk1 hS1 => ?_)
            obtain ⟨hr_120, hc_121⟩ := hu_122
            replace hB : va_P D vwCl ws_119 U8.heap := hB
            rw [ht] at hB
            replace hPa := aP_keep hPa hdB hAB hk1
            clear hPw hS
            have hPw := hB
            have hS := hS1
            clear hB hS1 hz1 hk1 hvm ht U8
            have hk_125 : k_lot M_77 (nI 2) (nI 0) = 1 := by exact lotk_1 (m_isLot_t (by omega) (by omega) (by omega))
            rw [hk_125] at hr_120
            replace hr_120 : r_118 = (-7100) := hr_120
            subst hr_120
            clear hk_125
            refine lv_sipush (v := (-7100)) hx hb dL_isTold_910 (by decide) ?_
            refine lv_icmp_ne (tgt := 932) hx hb dL_isTold_913 (by decide)  (fun c9 => absurd c9 (by decide)) (fun _ => ?_)
            refine lv_aload_n hx hb dL_isTold_916 rfl (lv_at hl 0 rfl) ?_
            refine lv_iconst (v := (-1)) hx hb dL_isTold_917 (by decide) ?_
            refine lv_iconst (v := nI 0) hx hb dL_isTold_918 (by decide) ?_
            refine va_calli (vx_runSW (As := [.ref h, .int (-1), .int (nI 0)]) (rest := []) ⟨hx, hb, hml, hown, hts⟩ (cw_awardOf l hst D cI cO cb eA mi st dO dT vF ws_119 hc_121 hM_77 hsI (-1) (nI 0)) (vx_cwSW 3 hts gL_isTold_L_awardOf rfl rfl rfl kd_L_awardOf ⟨Nat.le_of_ble_eq_true rfl, Nat.le_of_ble_eq_true rfl⟩) ⟨kB_blind, kB_pre hK hG hGT hN (fun q h9 => Or.inl h9) hS (fun q h9 => hA q (Nat.le_trans hS.1 h9)) hPw _⟩ rfl rfl hl.1 rfl (lv_room (Nat.le_of_ble_eq_true rfl)) dL_isTold_919 ⟨by show (((((((((((((((0 + 152 * 4) + 3 * (T 11 4)) + 1 * (T 11 5)) + 35 * 4) + 1) + 1) + 1) + 3) + 4) + 1) + 1) + 1) + 1) + 1) + 21) + 2 ≤ 1000; omega, by show (((((((((((((((0 + 4477 * 4) + 18 * (T 11 4)) + 6 * (T 11 5)) + 210 * 4) + 6) + 6) + 6) + 26) + 32) + 6) + 6) + 6) + 6) + 6) + 839) + 12 ≤ 21000; omega⟩) hS (fun _ _ h9 => Or.inl h9) (fun _ h9 => Or.inl h9) (fun r_126 ws_127 U8 H_131 locs_132 ht hvm hu_130 hB hz1 hk1 hS1 => ?_)
            obtain ⟨hr_128, hc_129⟩ := hu_130
            replace hB : va_P D vwCl ws_127 U8.heap := hB
            rw [ht] at hB
            replace hPa := aP_keep hPa hdB hAB hk1
            clear hPw hS
            have hPw := hB
            have hS := hS1
            clear hB hS1 hz1 hk1 hvm ht U8
            have hk_133 : k_lot M_77 (-1) (nI 0) = 1 := by exact lotk_1 (m_isLot_n (by omega) (by decide))
            rw [hk_133] at hr_128
            replace hr_128 : r_126 = (-7100) := hr_128
            subst hr_128
            clear hk_133
            refine lv_sipush (v := (-7100)) hx hb dL_isTold_922 (by decide) ?_
            refine lv_icmp_ne (tgt := 932) hx hb dL_isTold_925 (by decide)  (fun c9 => absurd c9 (by decide)) (fun _ => ?_)
            refine lv_iconst (v := nI 1) hx hb dL_isTold_928 (by decide) ?_
            refine lv_goto (tgt := 933) hx hb dL_isTold_929 (by decide) ?_
            refine W.widen (k := 1000) (n := 21000) (by omega) (by omega) ?_
            exact W.zret (v := nI 1) hx hb hr rfl (fun U9 ht9 hW9 => ⟨⟨_, (ws_127, M_77), rfl, ⟨rfl, hc_129, hM_77, hLB_77, h15_77, hR_77⟩, by show va_P D vwCl _ U9.heap ∧ va_P D vwCl _ U9.heap; rw [ht9]; exact ⟨hPw, hPa⟩⟩, hS.F ht9⟩) hS.2.2 dL_isTold_933
          · refine lv_iconst (v := nI 0) hx hb dL_isTold_493 (by decide) ?_
            refine lv_istore (lv' := [(14, .int (nI 0)), (0, .ref h), (1, .int y), (2, .ref (ad 1)), (3, .ref (ad 2)), (4, .ref (ad 3)), (5, .ref (ad 4)), (6, .ref (ad 5)), (7, .ref (ad 6)), (8, .ref (ad 7)), (9, .ref (ad 8)), (10, .ref (ad 9)), (11, .ref (ad 10)), (12, .ref (ad 11)), (13, .int (nI b))]) hx hb dL_isTold_494 hl (by decide) rfl (fun ls hl => ?_)
            refine lv_iconst (v := nI 0) hx hb dL_isTold_496 (by decide) ?_
            refine lv_istore (lv' := [(15, .int (nI 0)), (14, .int (nI 0)), (0, .ref h), (1, .int y), (2, .ref (ad 1)), (3, .ref (ad 2)), (4, .ref (ad 3)), (5, .ref (ad 4)), (6, .ref (ad 5)), (7, .ref (ad 6)), (8, .ref (ad 7)), (9, .ref (ad 8)), (10, .ref (ad 9)), (11, .ref (ad 10)), (12, .ref (ad 11)), (13, .int (nI b))]) hx hb dL_isTold_497 hl (by decide) rfl (fun ls hl => ?_)
            refine lv_iconst (v := nI 0) hx hb dL_isTold_499 (by decide) ?_
            refine lv_istore (lv' := [(16, .int (nI 0)), (15, .int (nI 0)), (14, .int (nI 0)), (0, .ref h), (1, .int y), (2, .ref (ad 1)), (3, .ref (ad 2)), (4, .ref (ad 3)), (5, .ref (ad 4)), (6, .ref (ad 5)), (7, .ref (ad 6)), (8, .ref (ad 7)), (9, .ref (ad 8)), (10, .ref (ad 9)), (11, .ref (ad 10)), (12, .ref (ad 11)), (13, .int (nI b))]) hx hb dL_isTold_500 hl (by decide) rfl (fun ls hl => ?_)
            have eI_134 : t_owf T b 0 = 0 := by rfl
            refine W.widen (k := ((((0 + 152 * 4) + 3 * (T 11 4)) + 1 * (T 11 5)) + 35 * b) + 1 * 0) (n := ((((0 + 4477 * 4) + 18 * (T 11 4)) + 6 * (T 11 5)) + 210 * b) + 6 * 0) (by omega) (by omega) ?_
            refine w_loopX (σ := va_W) (n := T 11 6) (nL := 19) (fun k _ => [(0, .ref h), (1, .int y), (2, .ref (ad 1)), (3, .ref (ad 2)), (4, .ref (ad 3)), (5, .ref (ad 4)), (6, .ref (ad 5)), (7, .ref (ad 6)), (8, .ref (ad 7)), (9, .ref (ad 8)), (10, .ref (ad 9)), (11, .ref (ad 10)), (12, .ref (ad 11)), (13, .int (nI b)), (14, .int (nI (t_owf T b k))), (15, .int (nI 0)), (16, .int (nI k))]) (fun k ws9 H9 locs9 => va_P D vwCl ws9 H9 ∧ cSt cI cO eA st A h M ws9 ∧ va_P D vwCl (aws ad cI T) H9 ∧ va_S (fun q => A q ∨ B q) s.heap H9 locs9) (fun k => ((((0 + 152 * 4) + 3 * (T 11 4)) + 1 * (T 11 5)) + 35 * b) + 1 * k) (fun k => ((((0 + 4477 * 4) + 18 * (T 11 4)) + 6 * (T 11 5)) + 210 * b) + 6 * k) (fun k hb_135 ws_137 H_139 locs_140 hJ_138 ih_136 ls hl => ?_) 0 (by omega) ws_28 _ _ ⟨hPw, hc_32, hPa, hS⟩ ls (lv_sub hl [3, 4, 5, 6, 7, 8, 9, 10, 11, 12, 13, 14, 15, 16, 2, 1, 0] (by show lv_pick _ _ = [(0, .ref h), (1, .int y), (2, .ref (ad 1)), (3, .ref (ad 2)), (4, .ref (ad 3)), (5, .ref (ad 4)), (6, .ref (ad 5)), (7, .ref (ad 6)), (8, .ref (ad 7)), (9, .ref (ad 8)), (10, .ref (ad 9)), (11, .ref (ad 10)), (12, .ref (ad 11)), (13, .int (nI b)), (14, .int (nI (t_owf T b 0))), (15, .int (nI 0)), (16, .int (nI 0))]; rw [eI_134]; rfl))
            clear hPw hPa hS
            obtain ⟨hPw, hc_141, hPa, hS⟩ := hJ_138
            show W _ _ _ _ _ _ _ _ _ _ _ _ (((((0 + 152 * 4) + 3 * (T 11 4)) + 1 * (T 11 5)) + 35 * b) + 1 * k) (((((0 + 4477 * 4) + 18 * (T 11 4)) + 6 * (T 11 5)) + 210 * b) + 6 * k) _ _
            refine lv_iload hx hb dL_isTold_502 (lv_at hl 16 rfl) ?_
            refine lv_aload hx hb dL_isTold_504 (lv_at hl 12 rfl) ?_
            refine lv_bipush (v := nI 6) hx hb dL_isTold_506 (by decide) ?_
            refine a_iald (f := 11) (n := 7) hx hb hKa hPa rfl (by decide) (by decide) dL_isTold_508 ?_
            refine n_icmp_ge (tgt := 609) hx hb dL_isTold_509 (by decide) (by omega) (by have f1 : T 11 6 ≤ 2000 := hT.1 11 6; have f2 : T 11 6 ≤ 32 := hT.2.2.2.2.2; omega) (fun c_142 => ?_) (fun c_142 => ?_)
            · obtain rfl : T 11 6 = k := by omega
              refine lv_iconst (v := nI 0) hx hb dL_isTold_609 (by decide) ?_
              refine lv_istore (lv' := [(16, .int (nI 0)), (0, .ref h), (1, .int y), (2, .ref (ad 1)), (3, .ref (ad 2)), (4, .ref (ad 3)), (5, .ref (ad 4)), (6, .ref (ad 5)), (7, .ref (ad 6)), (8, .ref (ad 7)), (9, .ref (ad 8)), (10, .ref (ad 9)), (11, .ref (ad 10)), (12, .ref (ad 11)), (13, .int (nI b)), (14, .int (nI (t_owf T b (T 11 6)))), (15, .int (nI 0))]) hx hb dL_isTold_610 hl (by decide) rfl (fun ls hl => ?_)
              have eI_143 : t_hdf T b 0 = 0 := by rfl
              refine w_loop (e := 4) (nL := 19) (fun j => [(0, .ref h), (1, .int y), (2, .ref (ad 1)), (3, .ref (ad 2)), (4, .ref (ad 3)), (5, .ref (ad 4)), (6, .ref (ad 5)), (7, .ref (ad 6)), (8, .ref (ad 7)), (9, .ref (ad 8)), (10, .ref (ad 9)), (11, .ref (ad 10)), (12, .ref (ad 11)), (13, .int (nI b)), (14, .int (nI (t_owf T b (T 11 6)))), (15, .int (nI (t_hdf T b j))), (16, .int (nI j))]) (fun j hb_145 ih_144 ls hl => ?_) 0 (by omega) ls (lv_sub hl [1, 2, 3, 4, 5, 6, 7, 8, 9, 10, 11, 12, 13, 14, 15, 16, 0] (by show lv_pick _ _ = [(0, .ref h), (1, .int y), (2, .ref (ad 1)), (3, .ref (ad 2)), (4, .ref (ad 3)), (5, .ref (ad 4)), (6, .ref (ad 5)), (7, .ref (ad 6)), (8, .ref (ad 7)), (9, .ref (ad 8)), (10, .ref (ad 9)), (11, .ref (ad 10)), (12, .ref (ad 11)), (13, .int (nI b)), (14, .int (nI (t_owf T b (T 11 6)))), (15, .int (nI (t_hdf T b 0))), (16, .int (nI 0))]; rw [eI_143]; rfl))
              refine lv_iload hx hb dL_isTold_612 (lv_at hl 16 rfl) ?_
              refine lv_iconst (v := nI 4) hx hb dL_isTold_614 (by decide) ?_
              refine n_icmp_ge (tgt := 724) hx hb dL_isTold_615 (by decide) (by omega) (by decide) (fun c_147 => ?_) (fun c_147 => ?_)
              · obtain rfl : 4 = j := by omega
                refine lv_aload_n hx hb dL_isTold_724 rfl (lv_at hl 0 rfl) ?_
                refine lv_iload hx hb dL_isTold_725 (lv_at hl 13 rfl) ?_
                refine va_calli (vx_runSW (As := [.ref h, .int (nI b)]) (rest := []) ⟨hx, hb, hml, hown, hts⟩ (cw_owes l hst D cI cO cb eA mi st dO dT vF ws_137 hc_141 hM hsI (nI b)) (vx_cwSW 2 hts gL_isTold_L_owes rfl rfl rfl kd_L_owes ⟨Nat.le_of_ble_eq_true rfl, Nat.le_of_ble_eq_true rfl⟩) ⟨kB_blind, kB_pre hK hG hGT hN (fun q h9 => Or.inl h9) hS (fun q h9 => hA q (Nat.le_trans hS.1 h9)) hPw _⟩ rfl rfl hl.1 rfl (lv_room (Nat.le_of_ble_eq_true rfl)) dL_isTold_727 ⟨by show (((((0 + 152 * 4) + 3 * (T 11 4)) + 1 * (T 11 5)) + 35 * b) + 1 * (T 11 6)) + 1 ≤ 1000; omega, by show (((((0 + 4477 * 4) + 18 * (T 11 4)) + 6 * (T 11 5)) + 210 * b) + 6 * (T 11 6)) + 6 ≤ 21000; omega⟩) hS (fun _ _ h9 => Or.inl h9) (fun _ h9 => Or.inl h9) (fun r_148 ws_149 U8 H_153 locs_154 ht hvm hu_152 hB hz1 hk1 hS1 => ?_)
                obtain ⟨hr_150, hc_151⟩ := hu_152
                replace hB : va_P D vwCl ws_149 U8.heap := hB
                rw [ht] at hB
                replace hPa := aP_keep hPa hdB hAB hk1
                clear hPw hS
                have hPw := hB
                have hS := hS1
                clear hB hS1 hz1 hk1 hvm ht U8
                have hv9 : er (k_b (nI b)) (r_owes M (nI b)) = nI (t_owf T b (T 11 6)) := by exact hR.q_ow hM (by omega) (by omega)
                rw [hv9] at hr_150
                clear hv9
                subst hr_150
                refine lv_iload hx hb dL_isTold_730 (lv_at hl 14 rfl) ?_
                refine n_icmp_ne (tgt := 760) hx hb dL_isTold_732 (by decide) (by have f1 : t_owf T b (T 11 6) ≤ 131072 * T 11 6 := t_owf_le hT.1 b (T 11 6); omega) (by have f1 : t_owf T b (T 11 6) ≤ 131072 * T 11 6 := t_owf_le hT.1 b (T 11 6); omega) (fun c_155 => absurd (by omega) c_155) (fun c_155 => ?_)
                refine lv_aload_n hx hb dL_isTold_735 rfl (lv_at hl 0 rfl) ?_
                refine lv_iload hx hb dL_isTold_736 (lv_at hl 13 rfl) ?_
                refine va_calli (vx_runSW (As := [.ref h, .int (nI b)]) (rest := []) ⟨hx, hb, hml, hown, hts⟩ (cw_held l hst D cI cO cb eA mi st dO dT vF ws_149 hc_151 hM hsI (nI b)) (vx_cwSW 2 hts gL_isTold_L_held rfl rfl rfl kd_L_held ⟨Nat.le_of_ble_eq_true rfl, Nat.le_of_ble_eq_true rfl⟩) ⟨kB_blind, kB_pre hK hG hGT hN (fun q h9 => Or.inl h9) hS (fun q h9 => hA q (Nat.le_trans hS.1 h9)) hPw _⟩ rfl rfl hl.1 rfl (lv_room (Nat.le_of_ble_eq_true rfl)) dL_isTold_738 ⟨by show ((((((0 + 152 * 4) + 3 * (T 11 4)) + 1 * (T 11 5)) + 35 * b) + 1 * (T 11 6)) + 1) + 1 ≤ 1000; omega, by show ((((((0 + 4477 * 4) + 18 * (T 11 4)) + 6 * (T 11 5)) + 210 * b) + 6 * (T 11 6)) + 6) + 6 ≤ 21000; omega⟩) hS (fun _ _ h9 => Or.inl h9) (fun _ h9 => Or.inl h9) (fun r_156 ws_157 U8 H_161 locs_162 ht hvm hu_160 hB hz1 hk1 hS1 => ?_)
                obtain ⟨hr_158, hc_159⟩ := hu_160
                replace hB : va_P D vwCl ws_157 U8.heap := hB
                rw [ht] at hB
                replace hPa := aP_keep hPa hdB hAB hk1
                clear hPw hS
                have hPw := hB
                have hS := hS1
                clear hB hS1 hz1 hk1 hvm ht U8
                have hv9 : er (k_b (nI b)) (r_held M (nI b)) = nI (t_hdf T b 4) := by exact hR.q_he hM hU hRS (by omega)
                rw [hv9] at hr_158
                clear hv9
                subst hr_158
                refine lv_iload hx hb dL_isTold_741 (lv_at hl 15 rfl) ?_
                refine n_icmp_ne (tgt := 760) hx hb dL_isTold_743 (by decide) (by have f1 : t_hdf T b 4 ≤ 10001 * 4 := t_hdf_le hT.1 b 4; omega) (by have f1 : t_hdf T b 4 ≤ 10001 * 4 := t_hdf_le hT.1 b 4; omega) (fun c_163 => absurd (by omega) c_163) (fun c_163 => ?_)
                refine lv_aload_n hx hb dL_isTold_746 rfl (lv_at hl 0 rfl) ?_
                refine lv_iload hx hb dL_isTold_747 (lv_at hl 13 rfl) ?_
                refine va_calli (vx_runSW (As := [.ref h, .int (nI b)]) (rest := []) ⟨hx, hb, hml, hown, hts⟩ (cw_lost l hst D cI cO cb eA mi st dO dT vF ws_157 hc_159 hM hsI (nI b)) (vx_cwSW 2 hts gL_isTold_L_lost rfl rfl rfl kd_L_lost ⟨Nat.le_of_ble_eq_true rfl, Nat.le_of_ble_eq_true rfl⟩) ⟨kB_blind, kB_pre hK hG hGT hN (fun q h9 => Or.inl h9) hS (fun q h9 => hA q (Nat.le_trans hS.1 h9)) hPw _⟩ rfl rfl hl.1 rfl (lv_room (Nat.le_of_ble_eq_true rfl)) dL_isTold_749 ⟨by show (((((((0 + 152 * 4) + 3 * (T 11 4)) + 1 * (T 11 5)) + 35 * b) + 1 * (T 11 6)) + 1) + 1) + 1 ≤ 1000; omega, by show (((((((0 + 4477 * 4) + 18 * (T 11 4)) + 6 * (T 11 5)) + 210 * b) + 6 * (T 11 6)) + 6) + 6) + 6 ≤ 21000; omega⟩) hS (fun _ _ h9 => Or.inl h9) (fun _ h9 => Or.inl h9) (fun r_164 ws_165 U8 H_169 locs_170 ht hvm hu_168 hB hz1 hk1 hS1 => ?_)
                obtain ⟨hr_166, hc_167⟩ := hu_168
                replace hB : va_P D vwCl ws_165 U8.heap := hB
                rw [ht] at hB
                replace hPa := aP_keep hPa hdB hAB hk1
                clear hPw hS
                have hPw := hB
                have hS := hS1
                clear hB hS1 hz1 hk1 hvm ht U8
                have hv9 : er (k_b (nI b)) (r_lost M (nI b)) = nI (T 10 b) := by exact hR.q_lo (by omega)
                rw [hv9] at hr_166
                clear hv9
                subst hr_166
                refine lv_aload hx hb dL_isTold_752 (lv_at hl 11 rfl) ?_
                refine lv_iload hx hb dL_isTold_754 (lv_at hl 13 rfl) ?_
                refine a_iald (f := 10) (n := 4) hx hb hKa hPa rfl (by omega) (by decide) dL_isTold_756 ?_
                refine n_icmp_eq (tgt := 762) hx hb dL_isTold_757 (by decide) (by have f1 : T 10 b ≤ 1200000000 := hT.1 10 b; omega) (by have f1 : T 10 b ≤ 1200000000 := hT.1 10 b; omega) (fun c_171 => ?_) (fun c_171 => absurd (by omega) c_171)
                refine n_iinc (k := 13) (lv' := [(13, .int (nI (b + 1))), (0, .ref h), (1, .int y), (2, .ref (ad 1)), (3, .ref (ad 2)), (4, .ref (ad 3)), (5, .ref (ad 4)), (6, .ref (ad 5)), (7, .ref (ad 6)), (8, .ref (ad 7)), (9, .ref (ad 8)), (10, .ref (ad 9)), (11, .ref (ad 10)), (12, .ref (ad 11)), (14, .int (nI (t_owf T b (T 11 6)))), (15, .int (nI (t_hdf T b 4))), (16, .int (nI 4))]) hx hb dL_isTold_762 hl rfl (by decide) rfl (fun ls hl => ?_)
                refine lv_goto (tgt := 487) hx hb dL_isTold_765 (by decide) ?_
                refine W.widen (k := (((0 + 152 * 4) + 3 * (T 11 4)) + 1 * (T 11 5)) + 35 * (b + 1)) (n := (((0 + 4477 * 4) + 18 * (T 11 4)) + 6 * (T 11 5)) + 210 * (b + 1)) (by omega) (by omega) ?_
                refine ih_27 (by omega) ws_165 _ _ ⟨hPw, hc_167, hPa, hS⟩ ls ?_
                show lv_has ls 19 [(0, .ref h), (1, .int y), (2, .ref (ad 1)), (3, .ref (ad 2)), (4, .ref (ad 3)), (5, .ref (ad 4)), (6, .ref (ad 5)), (7, .ref (ad 6)), (8, .ref (ad 7)), (9, .ref (ad 8)), (10, .ref (ad 9)), (11, .ref (ad 10)), (12, .ref (ad 11)), (13, .int (nI (b + 1)))]
                exact lv_sub hl [1, 2, 3, 4, 5, 6, 7, 8, 9, 10, 11, 12, 13, 0] rfl
              · refine lv_aload hx hb dL_isTold_618 (lv_at hl 8 rfl) ?_
                refine lv_aload hx hb dL_isTold_620 (lv_at hl 12 rfl) ?_
                refine lv_iload hx hb dL_isTold_622 (lv_at hl 16 rfl) ?_
                refine vp_callSi (W.runS (As := [.ref (ad 7), .ref (ad 11), .int (nI j)]) (rest := []) ⟨hx, hb, hml, hown, hts⟩ (ch_standing l D ad cI T hT j (by omega)) (va_cwS 3 hts gL_isTold_L_standing rfl rfl rfl kd_L_standing ⟨Nat.le_of_ble_eq_true rfl, Nat.le_of_ble_eq_true rfl⟩) ⟨aB_blind, a_pre hKa hPa _⟩ rfl rfl hl.1 rfl (lv_room (Nat.le_of_ble_eq_true rfl)) dL_isTold_624 ⟨by show (((((0 + 152 * 4) + 3 * (T 11 4)) + 1 * (T 11 5)) + 35 * b) + 1 * (T 11 6)) + 0 ≤ 1000; omega, by show (((((0 + 4477 * 4) + 18 * (T 11 4)) + 6 * (T 11 5)) + 210 * b) + 6 * (T 11 6)) + 0 ≤ 21000; omega⟩) (fun r_172 hr_172 => ?_)
                subst hr_172
                rcases ho_173 : t_st T j with _ | o_173
                · have hn1 : optI (none : Option Nat) = (-1) := rfl
                  rw [hn1]
                  refine lv_istore (lv' := [(17, .int (-1)), (0, .ref h), (1, .int y), (2, .ref (ad 1)), (3, .ref (ad 2)), (4, .ref (ad 3)), (5, .ref (ad 4)), (6, .ref (ad 5)), (7, .ref (ad 6)), (8, .ref (ad 7)), (9, .ref (ad 8)), (10, .ref (ad 9)), (11, .ref (ad 10)), (12, .ref (ad 11)), (13, .int (nI b)), (14, .int (nI (t_owf T b (T 11 6)))), (15, .int (nI (t_hdf T b j))), (16, .int (nI j))]) hx hb dL_isTold_627 hl (by decide) rfl (fun ls hl => ?_)
                  refine w_joinB (nL := 19) (pc1 := 700) (sk1 := []) (fun it9 => [(18, .int (bi it9)), (17, .int (-1)), (0, .ref h), (1, .int y), (2, .ref (ad 1)), (3, .ref (ad 2)), (4, .ref (ad 3)), (5, .ref (ad 4)), (6, .ref (ad 5)), (7, .ref (ad 6)), (8, .ref (ad 7)), (9, .ref (ad 8)), (10, .ref (ad 9)), (11, .ref (ad 10)), (12, .ref (ad 11)), (13, .int (nI b)), (14, .int (nI (t_owf T b (T 11 6)))), (15, .int (nI (t_hdf T b j))), (16, .int (nI j))]) (fun it9 => it9 = t_hb T b j) (fun it9 hit9 ls hl => ?_) (fun hk_174 => ?_)
                  · have hj9 : j < 4 := by omega
                    refine lv_iload hx hb dL_isTold_700 (lv_at hl 17 rfl) ?_
                    refine lv_iload hx hb dL_isTold_702 (lv_at hl 0 rfl) ?_
                    refine b_if_eq (tgt := 714) hx hb dL_isTold_704 (by decide)  (fun c_175 => ?_) (fun c_175 => ?_)
                    · refine lv_iconst (v := nI 0) hx hb dL_isTold_714 (by decide) ?_
                      refine n_iadd hx hb dL_isTold_715 (z := (t_hdf T b j) + 0) rfl ?_
                      refine lv_istore (lv' := [(15, .int (nI ((t_hdf T b j) + 0))), (18, .int (bi it9)), (17, .int (-1)), (0, .ref h), (1, .int y), (2, .ref (ad 1)), (3, .ref (ad 2)), (4, .ref (ad 3)), (5, .ref (ad 4)), (6, .ref (ad 5)), (7, .ref (ad 6)), (8, .ref (ad 7)), (9, .ref (ad 8)), (10, .ref (ad 9)), (11, .ref (ad 10)), (12, .ref (ad 11)), (13, .int (nI b)), (14, .int (nI (t_owf T b (T 11 6)))), (16, .int (nI j))]) hx hb dL_isTold_716 hl (by decide) rfl (fun ls hl => ?_)
                      refine n_iinc (k := 18) (lv' := [(16, .int (nI (j + 1))), (15, .int (nI ((t_hdf T b j) + 0))), (18, .int (bi it9)), (17, .int (-1)), (0, .ref h), (1, .int y), (2, .ref (ad 1)), (3, .ref (ad 2)), (4, .ref (ad 3)), (5, .ref (ad 4)), (6, .ref (ad 5)), (7, .ref (ad 6)), (8, .ref (ad 7)), (9, .ref (ad 8)), (10, .ref (ad 9)), (11, .ref (ad 10)), (12, .ref (ad 11)), (13, .int (nI b)), (14, .int (nI (t_owf T b (T 11 6))))]) hx hb dL_isTold_718 hl rfl (by decide) rfl (fun ls hl => ?_)
                      refine lv_goto (tgt := 612) hx hb dL_isTold_721 (by decide) ?_
                      have e_176 : t_hdf T b (j + 1) = (t_hdf T b j) + 0 := by (rw [t_hdf, ← hit9]; first | rw [if_pos c_175] | rw [if_neg (by rw [c_175]; decide)])
                      refine ih_144 (by omega) ls ?_
                      show lv_has ls 19 [(0, .ref h), (1, .int y), (2, .ref (ad 1)), (3, .ref (ad 2)), (4, .ref (ad 3)), (5, .ref (ad 4)), (6, .ref (ad 5)), (7, .ref (ad 6)), (8, .ref (ad 7)), (9, .ref (ad 8)), (10, .ref (ad 9)), (11, .ref (ad 10)), (12, .ref (ad 11)), (13, .int (nI b)), (14, .int (nI (t_owf T b (T 11 6)))), (15, .int (nI (t_hdf T b (j + 1)))), (16, .int (nI (j + 1)))]
                      rw [e_176]
                      exact lv_sub hl [4, 5, 6, 7, 8, 9, 10, 11, 12, 13, 14, 15, 16, 17, 18, 1, 0] rfl
                    · refine lv_aload_n hx hb dL_isTold_707 rfl (lv_at hl 5 rfl) ?_
                      refine lv_iload hx hb dL_isTold_708 (lv_at hl 18 rfl) ?_
                      refine a_iald2 hx hb hKa hPa (by omega) dL_isTold_710 ?_
                      have hz9 : T 2 j ≠ 0 := hR.hb_lot (by omega) (by omega) (hit9.symm.trans c_175)
                      rw [show (nI (T 2 j) - 1 : Int32) = nI (T 2 j - 1) from by obtain ⟨z, hz⟩ : ∃ z, T 2 j = z + 1 := ⟨T 2 j - 1, by omega⟩; rw [hz]; exact nI_pred _]
                      refine lv_goto (tgt := 715) hx hb dL_isTold_711 (by decide) ?_
                      refine n_iadd hx hb dL_isTold_715 (z := (t_hdf T b j) + (T 2 j - 1)) rfl ?_
                      refine lv_istore (lv' := [(15, .int (nI ((t_hdf T b j) + (T 2 j - 1)))), (18, .int (bi it9)), (17, .int (-1)), (0, .ref h), (1, .int y), (2, .ref (ad 1)), (3, .ref (ad 2)), (4, .ref (ad 3)), (5, .ref (ad 4)), (6, .ref (ad 5)), (7, .ref (ad 6)), (8, .ref (ad 7)), (9, .ref (ad 8)), (10, .ref (ad 9)), (11, .ref (ad 10)), (12, .ref (ad 11)), (13, .int (nI b)), (14, .int (nI (t_owf T b (T 11 6)))), (16, .int (nI j))]) hx hb dL_isTold_716 hl (by decide) rfl (fun ls hl => ?_)
                      refine n_iinc (k := 18) (lv' := [(16, .int (nI (j + 1))), (15, .int (nI ((t_hdf T b j) + (T 2 j - 1)))), (18, .int (bi it9)), (17, .int (-1)), (0, .ref h), (1, .int y), (2, .ref (ad 1)), (3, .ref (ad 2)), (4, .ref (ad 3)), (5, .ref (ad 4)), (6, .ref (ad 5)), (7, .ref (ad 6)), (8, .ref (ad 7)), (9, .ref (ad 8)), (10, .ref (ad 9)), (11, .ref (ad 10)), (12, .ref (ad 11)), (13, .int (nI b)), (14, .int (nI (t_owf T b (T 11 6))))]) hx hb dL_isTold_718 hl rfl (by decide) rfl (fun ls hl => ?_)
                      refine lv_goto (tgt := 612) hx hb dL_isTold_721 (by decide) ?_
                      have e_177 : t_hdf T b (j + 1) = (t_hdf T b j) + (T 2 j - 1) := by (rw [t_hdf, ← hit9]; first | rw [if_pos c_175] | rw [if_neg (by rw [c_175]; decide)])
                      refine ih_144 (by omega) ls ?_
                      show lv_has ls 19 [(0, .ref h), (1, .int y), (2, .ref (ad 1)), (3, .ref (ad 2)), (4, .ref (ad 3)), (5, .ref (ad 4)), (6, .ref (ad 5)), (7, .ref (ad 6)), (8, .ref (ad 7)), (9, .ref (ad 8)), (10, .ref (ad 9)), (11, .ref (ad 10)), (12, .ref (ad 11)), (13, .int (nI b)), (14, .int (nI (t_owf T b (T 11 6)))), (15, .int (nI (t_hdf T b (j + 1)))), (16, .int (nI (j + 1)))]
                      rw [e_177]
                      exact lv_sub hl [4, 5, 6, 7, 8, 9, 10, 11, 12, 13, 14, 15, 16, 17, 18, 1, 0] rfl
                  · have hk9 := hk_174
                    refine lv_aload hx hb dL_isTold_629 (lv_at hl 5 rfl) ?_
                    refine lv_iconst (v := nI 4) hx hb dL_isTold_631 (by decide) ?_
                    refine lv_iload hx hb dL_isTold_632 (lv_at hl 17 rfl) ?_
                    refine n_imul hx hb dL_isTold_634 (z := 4 * j) rfl ?_
                    refine lv_iload hx hb dL_isTold_635 (lv_at hl 14 rfl) ?_
                    refine n_iadd hx hb dL_isTold_637 (z := (4 * j) + b) rfl ?_
                    refine a_iald (f := 3) (n := 16) hx hb hKa hPa rfl (by omega) (by decide) dL_isTold_638 ?_
                    refine n_if_le (tgt := 697) hx hb dL_isTold_639 (by decide) (by have f1 : T 3 ((4 * j) + b) ≤ 134217727 := hT.1 3 ((4 * j) + b); omega) (fun c_178 => ?_) (fun c_178 => ?_)
                    · refine lv_iconst (v := nI 0) hx hb dL_isTold_697 (by decide) ?_
                      refine lv_istore (lv' := [(18, .int (nI 0)), (17, .int (-1)), (0, .ref h), (1, .int y), (2, .ref (ad 1)), (3, .ref (ad 2)), (4, .ref (ad 3)), (5, .ref (ad 4)), (6, .ref (ad 5)), (7, .ref (ad 6)), (8, .ref (ad 7)), (9, .ref (ad 8)), (10, .ref (ad 9)), (11, .ref (ad 10)), (12, .ref (ad 11)), (13, .int (nI b)), (14, .int (nI (t_owf T b (T 11 6)))), (15, .int (nI (t_hdf T b j))), (16, .int (nI j))]) hx hb dL_isTold_698 hl (by decide) rfl (fun ls hl => ?_)
                      have ej : nI 0 = bi false := rfl
                      rw [ej] at hl
                      exact hk_174 false (by first | (simp [t_hb, ho_173, c_178]; done) | (simp [t_hb, ho_173, c_178]; omega)) ls (lv_sub hl [0, 1, 2, 3, 4, 5, 6, 7, 8, 9, 10, 11, 12, 13, 14, 15, 16, 17, 18] rfl)
                    · refine lv_aload_n hx hb dL_isTold_642 rfl (lv_at hl 3 rfl) ?_
                      refine lv_aload hx hb dL_isTold_643 (lv_at hl 13 rfl) ?_
                      refine lv_iload hx hb dL_isTold_645 (lv_at hl 17 rfl) ?_
                      refine lv_iconst (v := nI 2) hx hb dL_isTold_647 (by decide) ?_
                      refine n_idiv hx hb dL_isTold_648 (z := j / 2) (by omega) (by decide) (by decide) rfl ?_
                      refine vp_callSi (W.runS (As := [.ref (ad 1), .ref (ad 11), .int (nI (j / 2))]) (rest := []) ⟨hx, hb, hml, hown, hts⟩ (ch_isOpened l D ad cI T hT (j / 2) (by omega)) (va_cwS 3 hts gL_isTold_L_isOpened rfl rfl rfl kd_L_isOpened ⟨Nat.le_of_ble_eq_true rfl, Nat.le_of_ble_eq_true rfl⟩) ⟨aB_blind, a_pre hKa hPa _⟩ rfl rfl hl.1 rfl (lv_room (Nat.le_of_ble_eq_true rfl)) dL_isTold_649 ⟨by show (((((0 + 152 * 4) + 3 * (T 11 4)) + 1 * (T 11 5)) + 35 * b) + 1 * (T 11 6)) + 0 ≤ 1000; omega, by show (((((0 + 4477 * 4) + 18 * (T 11 4)) + 6 * (T 11 5)) + 210 * b) + 6 * (T 11 6)) + 0 ≤ 21000; omega⟩) (fun r_179 hr_179 => ?_)
                      subst hr_179
                      refine b_if_eq (tgt := 677) hx hb dL_isTold_652 (by decide)  (fun c_180 => ?_) (fun c_180 => ?_)
                      · refine lv_iload hx hb dL_isTold_677 (lv_at hl 0 rfl) ?_
                        refine lv_if_lt (tgt := 693) hx hb dL_isTold_679 (by decide)  (fun _ => ?_) (fun c9 => absurd c9 (by decide))
                        refine lv_iconst (v := nI 1) hx hb dL_isTold_693 (by decide) ?_
                        refine lv_goto (tgt := 698) hx hb dL_isTold_694 (by decide) ?_
                        refine lv_istore (lv' := [(18, .int (nI 1)), (17, .int (-1)), (0, .ref h), (1, .int y), (2, .ref (ad 1)), (3, .ref (ad 2)), (4, .ref (ad 3)), (5, .ref (ad 4)), (6, .ref (ad 5)), (7, .ref (ad 6)), (8, .ref (ad 7)), (9, .ref (ad 8)), (10, .ref (ad 9)), (11, .ref (ad 10)), (12, .ref (ad 11)), (13, .int (nI b)), (14, .int (nI (t_owf T b (T 11 6)))), (15, .int (nI (t_hdf T b j))), (16, .int (nI j))]) hx hb dL_isTold_698 hl (by decide) rfl (fun ls hl => ?_)
                        have ej : nI 1 = bi true := rfl
                        rw [ej] at hl
                        exact hk_174 true (by first | (simp [t_hb, ho_173, c_178, c_180]; done) | (simp [t_hb, ho_173, c_178, c_180]; omega)) ls (lv_sub hl [0, 1, 2, 3, 4, 5, 6, 7, 8, 9, 10, 11, 12, 13, 14, 15, 16, 17, 18] rfl)
                      · refine lv_aload_n hx hb dL_isTold_655 rfl (lv_at hl 3 rfl) ?_
                        refine lv_aload hx hb dL_isTold_656 (lv_at hl 5 rfl) ?_
                        refine lv_aload hx hb dL_isTold_658 (lv_at hl 7 rfl) ?_
                        refine lv_aload hx hb dL_isTold_660 (lv_at hl 8 rfl) ?_
                        refine lv_aload hx hb dL_isTold_662 (lv_at hl 13 rfl) ?_
                        refine lv_iconst (v := nI 4) hx hb dL_isTold_664 (by decide) ?_
                        refine lv_iload hx hb dL_isTold_665 (lv_at hl 17 rfl) ?_
                        refine n_imul hx hb dL_isTold_667 (z := 4 * j) rfl ?_
                        refine lv_iload hx hb dL_isTold_668 (lv_at hl 14 rfl) ?_
                        refine n_iadd hx hb dL_isTold_670 (z := (4 * j) + b) rfl ?_
                        refine vp_callSi (W.runS (As := [.ref (ad 1), .ref (ad 3), .ref (ad 5), .ref (ad 6), .ref (ad 11), .int (nI ((4 * j) + b))]) (rest := []) ⟨hx, hb, hml, hown, hts⟩ (ch_takes l D ad cI T hT ((4 * j) + b) (by omega)) (va_cwS 6 hts gL_isTold_L_takes rfl rfl rfl kd_L_takes ⟨Nat.le_of_ble_eq_true rfl, Nat.le_of_ble_eq_true rfl⟩) ⟨aB_blind, a_pre hKa hPa _⟩ rfl rfl hl.1 rfl (lv_room (Nat.le_of_ble_eq_true rfl)) dL_isTold_671 ⟨by show (((((0 + 152 * 4) + 3 * (T 11 4)) + 1 * (T 11 5)) + 35 * b) + 1 * (T 11 6)) + 0 ≤ 1000; omega, by show (((((0 + 4477 * 4) + 18 * (T 11 4)) + 6 * (T 11 5)) + 210 * b) + 6 * (T 11 6)) + 0 ≤ 21000; omega⟩) (fun r_181 hr_181 => ?_)
                        subst hr_181
                        refine b_if_eq (tgt := 697) hx hb dL_isTold_674 (by decide)  (fun c_182 => ?_) (fun c_182 => ?_)
                        · refine lv_iconst (v := nI 0) hx hb dL_isTold_697 (by decide) ?_
                          refine lv_istore (lv' := [(18, .int (nI 0)), (17, .int (-1)), (0, .ref h), (1, .int y), (2, .ref (ad 1)), (3, .ref (ad 2)), (4, .ref (ad 3)), (5, .ref (ad 4)), (6, .ref (ad 5)), (7, .ref (ad 6)), (8, .ref (ad 7)), (9, .ref (ad 8)), (10, .ref (ad 9)), (11, .ref (ad 10)), (12, .ref (ad 11)), (13, .int (nI b)), (14, .int (nI (t_owf T b (T 11 6)))), (15, .int (nI (t_hdf T b j))), (16, .int (nI j))]) hx hb dL_isTold_698 hl (by decide) rfl (fun ls hl => ?_)
                          have ej : nI 0 = bi false := rfl
                          rw [ej] at hl
                          exact hk_174 false (by first | (simp [t_hb, ho_173, c_178, c_180, c_182]; done) | (simp [t_hb, ho_173, c_178, c_180, c_182]; omega)) ls (lv_sub hl [0, 1, 2, 3, 4, 5, 6, 7, 8, 9, 10, 11, 12, 13, 14, 15, 16, 17, 18] rfl)
                        · refine lv_iload hx hb dL_isTold_677 (lv_at hl 0 rfl) ?_
                          refine lv_if_lt (tgt := 693) hx hb dL_isTold_679 (by decide)  (fun _ => ?_) (fun c9 => absurd c9 (by decide))
                          refine lv_iconst (v := nI 1) hx hb dL_isTold_693 (by decide) ?_
                          refine lv_goto (tgt := 698) hx hb dL_isTold_694 (by decide) ?_
                          refine lv_istore (lv' := [(18, .int (nI 1)), (17, .int (-1)), (0, .ref h), (1, .int y), (2, .ref (ad 1)), (3, .ref (ad 2)), (4, .ref (ad 3)), (5, .ref (ad 4)), (6, .ref (ad 5)), (7, .ref (ad 6)), (8, .ref (ad 7)), (9, .ref (ad 8)), (10, .ref (ad 9)), (11, .ref (ad 10)), (12, .ref (ad 11)), (13, .int (nI b)), (14, .int (nI (t_owf T b (T 11 6)))), (15, .int (nI (t_hdf T b j))), (16, .int (nI j))]) hx hb dL_isTold_698 hl (by decide) rfl (fun ls hl => ?_)
                          have ej : nI 1 = bi true := rfl
                          rw [ej] at hl
                          exact hk_174 true (by first | (simp [t_hb, ho_173, c_178, c_180, c_182]; done) | (simp [t_hb, ho_173, c_178, c_180, c_182]; omega)) ls (lv_sub hl [0, 1, 2, 3, 4, 5, 6, 7, 8, 9, 10, 11, 12, 13, 14, 15, 16, 17, 18] rfl)
                · have hn1 : optI (some o_173) = nI o_173 := rfl
                  rw [hn1]
                  refine lv_istore (lv' := [(17, .int (nI o_173)), (0, .ref h), (1, .int y), (2, .ref (ad 1)), (3, .ref (ad 2)), (4, .ref (ad 3)), (5, .ref (ad 4)), (6, .ref (ad 5)), (7, .ref (ad 6)), (8, .ref (ad 7)), (9, .ref (ad 8)), (10, .ref (ad 9)), (11, .ref (ad 10)), (12, .ref (ad 11)), (13, .int (nI b)), (14, .int (nI (t_owf T b (T 11 6)))), (15, .int (nI (t_hdf T b j))), (16, .int (nI j))]) hx hb dL_isTold_627 hl (by decide) rfl (fun ls hl => ?_)
                  refine w_joinB (nL := 19) (pc1 := 700) (sk1 := []) (fun it9 => [(18, .int (bi it9)), (17, .int (nI o_173)), (0, .ref h), (1, .int y), (2, .ref (ad 1)), (3, .ref (ad 2)), (4, .ref (ad 3)), (5, .ref (ad 4)), (6, .ref (ad 5)), (7, .ref (ad 6)), (8, .ref (ad 7)), (9, .ref (ad 8)), (10, .ref (ad 9)), (11, .ref (ad 10)), (12, .ref (ad 11)), (13, .int (nI b)), (14, .int (nI (t_owf T b (T 11 6)))), (15, .int (nI (t_hdf T b j))), (16, .int (nI j))]) (fun it9 => it9 = t_hb T b j) (fun it9 hit9 ls hl => ?_) (fun hk_183 => ?_)
                  · have hj9 : j < 4 := by omega
                    refine lv_iload hx hb dL_isTold_700 (lv_at hl 17 rfl) ?_
                    refine lv_iload hx hb dL_isTold_702 (lv_at hl 0 rfl) ?_
                    refine b_if_eq (tgt := 714) hx hb dL_isTold_704 (by decide)  (fun c_184 => ?_) (fun c_184 => ?_)
                    · refine lv_iconst (v := nI 0) hx hb dL_isTold_714 (by decide) ?_
                      refine n_iadd hx hb dL_isTold_715 (z := (t_hdf T b j) + 0) rfl ?_
                      refine lv_istore (lv' := [(15, .int (nI ((t_hdf T b j) + 0))), (18, .int (bi it9)), (17, .int (nI o_173)), (0, .ref h), (1, .int y), (2, .ref (ad 1)), (3, .ref (ad 2)), (4, .ref (ad 3)), (5, .ref (ad 4)), (6, .ref (ad 5)), (7, .ref (ad 6)), (8, .ref (ad 7)), (9, .ref (ad 8)), (10, .ref (ad 9)), (11, .ref (ad 10)), (12, .ref (ad 11)), (13, .int (nI b)), (14, .int (nI (t_owf T b (T 11 6)))), (16, .int (nI j))]) hx hb dL_isTold_716 hl (by decide) rfl (fun ls hl => ?_)
                      refine n_iinc (k := 18) (lv' := [(16, .int (nI (j + 1))), (15, .int (nI ((t_hdf T b j) + 0))), (18, .int (bi it9)), (17, .int (nI o_173)), (0, .ref h), (1, .int y), (2, .ref (ad 1)), (3, .ref (ad 2)), (4, .ref (ad 3)), (5, .ref (ad 4)), (6, .ref (ad 5)), (7, .ref (ad 6)), (8, .ref (ad 7)), (9, .ref (ad 8)), (10, .ref (ad 9)), (11, .ref (ad 10)), (12, .ref (ad 11)), (13, .int (nI b)), (14, .int (nI (t_owf T b (T 11 6))))]) hx hb dL_isTold_718 hl rfl (by decide) rfl (fun ls hl => ?_)
                      refine lv_goto (tgt := 612) hx hb dL_isTold_721 (by decide) ?_
                      have e_185 : t_hdf T b (j + 1) = (t_hdf T b j) + 0 := by (rw [t_hdf, ← hit9]; first | rw [if_pos c_184] | rw [if_neg (by rw [c_184]; decide)])
                      refine ih_144 (by omega) ls ?_
                      show lv_has ls 19 [(0, .ref h), (1, .int y), (2, .ref (ad 1)), (3, .ref (ad 2)), (4, .ref (ad 3)), (5, .ref (ad 4)), (6, .ref (ad 5)), (7, .ref (ad 6)), (8, .ref (ad 7)), (9, .ref (ad 8)), (10, .ref (ad 9)), (11, .ref (ad 10)), (12, .ref (ad 11)), (13, .int (nI b)), (14, .int (nI (t_owf T b (T 11 6)))), (15, .int (nI (t_hdf T b (j + 1)))), (16, .int (nI (j + 1)))]
                      rw [e_185]
                      exact lv_sub hl [4, 5, 6, 7, 8, 9, 10, 11, 12, 13, 14, 15, 16, 17, 18, 1, 0] rfl
                    · refine lv_aload_n hx hb dL_isTold_707 rfl (lv_at hl 5 rfl) ?_
                      refine lv_iload hx hb dL_isTold_708 (lv_at hl 18 rfl) ?_
                      refine a_iald2 hx hb hKa hPa (by omega) dL_isTold_710 ?_
                      have hz9 : T 2 j ≠ 0 := hR.hb_lot (by omega) (by omega) (hit9.symm.trans c_184)
                      rw [show (nI (T 2 j) - 1 : Int32) = nI (T 2 j - 1) from by obtain ⟨z, hz⟩ : ∃ z, T 2 j = z + 1 := ⟨T 2 j - 1, by omega⟩; rw [hz]; exact nI_pred _]
                      refine lv_goto (tgt := 715) hx hb dL_isTold_711 (by decide) ?_
                      refine n_iadd hx hb dL_isTold_715 (z := (t_hdf T b j) + (T 2 j - 1)) rfl ?_
                      refine lv_istore (lv' := [(15, .int (nI ((t_hdf T b j) + (T 2 j - 1)))), (18, .int (bi it9)), (17, .int (nI o_173)), (0, .ref h), (1, .int y), (2, .ref (ad 1)), (3, .ref (ad 2)), (4, .ref (ad 3)), (5, .ref (ad 4)), (6, .ref (ad 5)), (7, .ref (ad 6)), (8, .ref (ad 7)), (9, .ref (ad 8)), (10, .ref (ad 9)), (11, .ref (ad 10)), (12, .ref (ad 11)), (13, .int (nI b)), (14, .int (nI (t_owf T b (T 11 6)))), (16, .int (nI j))]) hx hb dL_isTold_716 hl (by decide) rfl (fun ls hl => ?_)
                      refine n_iinc (k := 18) (lv' := [(16, .int (nI (j + 1))), (15, .int (nI ((t_hdf T b j) + (T 2 j - 1)))), (18, .int (bi it9)), (17, .int (nI o_173)), (0, .ref h), (1, .int y), (2, .ref (ad 1)), (3, .ref (ad 2)), (4, .ref (ad 3)), (5, .ref (ad 4)), (6, .ref (ad 5)), (7, .ref (ad 6)), (8, .ref (ad 7)), (9, .ref (ad 8)), (10, .ref (ad 9)), (11, .ref (ad 10)), (12, .ref (ad 11)), (13, .int (nI b)), (14, .int (nI (t_owf T b (T 11 6))))]) hx hb dL_isTold_718 hl rfl (by decide) rfl (fun ls hl => ?_)
                      refine lv_goto (tgt := 612) hx hb dL_isTold_721 (by decide) ?_
                      have e_186 : t_hdf T b (j + 1) = (t_hdf T b j) + (T 2 j - 1) := by (rw [t_hdf, ← hit9]; first | rw [if_pos c_184] | rw [if_neg (by rw [c_184]; decide)])
                      refine ih_144 (by omega) ls ?_
                      show lv_has ls 19 [(0, .ref h), (1, .int y), (2, .ref (ad 1)), (3, .ref (ad 2)), (4, .ref (ad 3)), (5, .ref (ad 4)), (6, .ref (ad 5)), (7, .ref (ad 6)), (8, .ref (ad 7)), (9, .ref (ad 8)), (10, .ref (ad 9)), (11, .ref (ad 10)), (12, .ref (ad 11)), (13, .int (nI b)), (14, .int (nI (t_owf T b (T 11 6)))), (15, .int (nI (t_hdf T b (j + 1)))), (16, .int (nI (j + 1)))]
                      rw [e_186]
                      exact lv_sub hl [4, 5, 6, 7, 8, 9, 10, 11, 12, 13, 14, 15, 16, 17, 18, 1, 0] rfl
                  · have hk9 := hk_183
                    refine lv_aload hx hb dL_isTold_629 (lv_at hl 5 rfl) ?_
                    refine lv_iconst (v := nI 4) hx hb dL_isTold_631 (by decide) ?_
                    refine lv_iload hx hb dL_isTold_632 (lv_at hl 17 rfl) ?_
                    refine n_imul hx hb dL_isTold_634 (z := 4 * j) rfl ?_
                    refine lv_iload hx hb dL_isTold_635 (lv_at hl 14 rfl) ?_
                    refine n_iadd hx hb dL_isTold_637 (z := (4 * j) + b) rfl ?_
                    refine a_iald (f := 3) (n := 16) hx hb hKa hPa rfl (by omega) (by decide) dL_isTold_638 ?_
                    refine n_if_le (tgt := 697) hx hb dL_isTold_639 (by decide) (by have f1 : T 3 ((4 * j) + b) ≤ 134217727 := hT.1 3 ((4 * j) + b); omega) (fun c_187 => ?_) (fun c_187 => ?_)
                    · refine lv_iconst (v := nI 0) hx hb dL_isTold_697 (by decide) ?_
                      refine lv_istore (lv' := [(18, .int (nI 0)), (17, .int (nI o_173)), (0, .ref h), (1, .int y), (2, .ref (ad 1)), (3, .ref (ad 2)), (4, .ref (ad 3)), (5, .ref (ad 4)), (6, .ref (ad 5)), (7, .ref (ad 6)), (8, .ref (ad 7)), (9, .ref (ad 8)), (10, .ref (ad 9)), (11, .ref (ad 10)), (12, .ref (ad 11)), (13, .int (nI b)), (14, .int (nI (t_owf T b (T 11 6)))), (15, .int (nI (t_hdf T b j))), (16, .int (nI j))]) hx hb dL_isTold_698 hl (by decide) rfl (fun ls hl => ?_)
                      have ej : nI 0 = bi false := rfl
                      rw [ej] at hl
                      exact hk_183 false (by first | (simp [t_hb, ho_173, c_187]; done) | (simp [t_hb, ho_173, c_187]; omega)) ls (lv_sub hl [0, 1, 2, 3, 4, 5, 6, 7, 8, 9, 10, 11, 12, 13, 14, 15, 16, 17, 18] rfl)
                    · refine lv_aload_n hx hb dL_isTold_642 rfl (lv_at hl 3 rfl) ?_
                      refine lv_aload hx hb dL_isTold_643 (lv_at hl 13 rfl) ?_
                      refine lv_iload hx hb dL_isTold_645 (lv_at hl 17 rfl) ?_
                      refine lv_iconst (v := nI 2) hx hb dL_isTold_647 (by decide) ?_
                      refine n_idiv hx hb dL_isTold_648 (z := j / 2) (by omega) (by decide) (by decide) rfl ?_
                      refine vp_callSi (W.runS (As := [.ref (ad 1), .ref (ad 11), .int (nI (j / 2))]) (rest := []) ⟨hx, hb, hml, hown, hts⟩ (ch_isOpened l D ad cI T hT (j / 2) (by omega)) (va_cwS 3 hts gL_isTold_L_isOpened rfl rfl rfl kd_L_isOpened ⟨Nat.le_of_ble_eq_true rfl, Nat.le_of_ble_eq_true rfl⟩) ⟨aB_blind, a_pre hKa hPa _⟩ rfl rfl hl.1 rfl (lv_room (Nat.le_of_ble_eq_true rfl)) dL_isTold_649 ⟨by show (((((0 + 152 * 4) + 3 * (T 11 4)) + 1 * (T 11 5)) + 35 * b) + 1 * (T 11 6)) + 0 ≤ 1000; omega, by show (((((0 + 4477 * 4) + 18 * (T 11 4)) + 6 * (T 11 5)) + 210 * b) + 6 * (T 11 6)) + 0 ≤ 21000; omega⟩) (fun r_188 hr_188 => ?_)
                      subst hr_188
                      refine b_if_eq (tgt := 677) hx hb dL_isTold_652 (by decide)  (fun c_189 => ?_) (fun c_189 => ?_)
                      · refine lv_iload hx hb dL_isTold_677 (lv_at hl 0 rfl) ?_
                        refine n_if_ltF (tgt := 693) hx hb dL_isTold_679 (by decide) (by have f1 := (t_stf_some (T 11 4) o_173 ho_173).1; have f2 : T 11 4 ≤ 32 := hT.2.2.2.1; omega) ?_
                        refine lv_aload hx hb dL_isTold_682 (lv_at hl 9 rfl) ?_
                        refine lv_iload hx hb dL_isTold_684 (lv_at hl 0 rfl) ?_
                        refine a_iald (f := 7) (n := 32) hx hb hKa hPa rfl (by have f1 := (t_stf_some (T 11 4) o_173 ho_173).1; have f2 : T 11 4 ≤ 32 := hT.2.2.2.1; omega) (by decide) dL_isTold_686 ?_
                        refine lv_bipush (v := nI 17) hx hb dL_isTold_687 (by decide) ?_
                        refine lv_ishr hx hb dL_isTold_689 ?_
                        rw [show (nI (T 7 o_173)) >>> ((nI 17) &&& 31) = nI ((T 7 o_173) / 131072) from n_shrK (by have f1 := (t_stf_some (T 11 4) o_173 ho_173).1; have f2 : T 11 4 ≤ 32 := hT.2.2.2.1; have f3 : T 7 o_173 ≤ 16777215 := hT.1 7 o_173; omega) (by decide) rfl]
                        refine n_if_gt (tgt := 697) hx hb dL_isTold_690 (by decide) (by have f1 := (t_stf_some (T 11 4) o_173 ho_173).1; have f2 : T 11 4 ≤ 32 := hT.2.2.2.1; have f3 : T 7 o_173 ≤ 16777215 := hT.1 7 o_173; omega) (fun c_190 => ?_) (fun c_190 => ?_)
                        · refine lv_iconst (v := nI 0) hx hb dL_isTold_697 (by decide) ?_
                          refine lv_istore (lv' := [(18, .int (nI 0)), (17, .int (nI o_173)), (0, .ref h), (1, .int y), (2, .ref (ad 1)), (3, .ref (ad 2)), (4, .ref (ad 3)), (5, .ref (ad 4)), (6, .ref (ad 5)), (7, .ref (ad 6)), (8, .ref (ad 7)), (9, .ref (ad 8)), (10, .ref (ad 9)), (11, .ref (ad 10)), (12, .ref (ad 11)), (13, .int (nI b)), (14, .int (nI (t_owf T b (T 11 6)))), (15, .int (nI (t_hdf T b j))), (16, .int (nI j))]) hx hb dL_isTold_698 hl (by decide) rfl (fun ls hl => ?_)
                          have ej : nI 0 = bi false := rfl
                          rw [ej] at hl
                          exact hk_183 false (by first | (simp [t_hb, ho_173, c_187, c_189, c_190]; done) | (simp [t_hb, ho_173, c_187, c_189, c_190]; omega)) ls (lv_sub hl [0, 1, 2, 3, 4, 5, 6, 7, 8, 9, 10, 11, 12, 13, 14, 15, 16, 17, 18] rfl)
                        · refine lv_iconst (v := nI 1) hx hb dL_isTold_693 (by decide) ?_
                          refine lv_goto (tgt := 698) hx hb dL_isTold_694 (by decide) ?_
                          refine lv_istore (lv' := [(18, .int (nI 1)), (17, .int (nI o_173)), (0, .ref h), (1, .int y), (2, .ref (ad 1)), (3, .ref (ad 2)), (4, .ref (ad 3)), (5, .ref (ad 4)), (6, .ref (ad 5)), (7, .ref (ad 6)), (8, .ref (ad 7)), (9, .ref (ad 8)), (10, .ref (ad 9)), (11, .ref (ad 10)), (12, .ref (ad 11)), (13, .int (nI b)), (14, .int (nI (t_owf T b (T 11 6)))), (15, .int (nI (t_hdf T b j))), (16, .int (nI j))]) hx hb dL_isTold_698 hl (by decide) rfl (fun ls hl => ?_)
                          have ej : nI 1 = bi true := rfl
                          rw [ej] at hl
                          exact hk_183 true (by first | (simp [t_hb, ho_173, c_187, c_189, c_190]; done) | (simp [t_hb, ho_173, c_187, c_189, c_190]; omega)) ls (lv_sub hl [0, 1, 2, 3, 4, 5, 6, 7, 8, 9, 10, 11, 12, 13, 14, 15, 16, 17, 18] rfl)
                      · refine lv_aload_n hx hb dL_isTold_655 rfl (lv_at hl 3 rfl) ?_
                        refine lv_aload hx hb dL_isTold_656 (lv_at hl 5 rfl) ?_
                        refine lv_aload hx hb dL_isTold_658 (lv_at hl 7 rfl) ?_
                        refine lv_aload hx hb dL_isTold_660 (lv_at hl 8 rfl) ?_
                        refine lv_aload hx hb dL_isTold_662 (lv_at hl 13 rfl) ?_
                        refine lv_iconst (v := nI 4) hx hb dL_isTold_664 (by decide) ?_
                        refine lv_iload hx hb dL_isTold_665 (lv_at hl 17 rfl) ?_
                        refine n_imul hx hb dL_isTold_667 (z := 4 * j) rfl ?_
                        refine lv_iload hx hb dL_isTold_668 (lv_at hl 14 rfl) ?_
                        refine n_iadd hx hb dL_isTold_670 (z := (4 * j) + b) rfl ?_
                        refine vp_callSi (W.runS (As := [.ref (ad 1), .ref (ad 3), .ref (ad 5), .ref (ad 6), .ref (ad 11), .int (nI ((4 * j) + b))]) (rest := []) ⟨hx, hb, hml, hown, hts⟩ (ch_takes l D ad cI T hT ((4 * j) + b) (by omega)) (va_cwS 6 hts gL_isTold_L_takes rfl rfl rfl kd_L_takes ⟨Nat.le_of_ble_eq_true rfl, Nat.le_of_ble_eq_true rfl⟩) ⟨aB_blind, a_pre hKa hPa _⟩ rfl rfl hl.1 rfl (lv_room (Nat.le_of_ble_eq_true rfl)) dL_isTold_671 ⟨by show (((((0 + 152 * 4) + 3 * (T 11 4)) + 1 * (T 11 5)) + 35 * b) + 1 * (T 11 6)) + 0 ≤ 1000; omega, by show (((((0 + 4477 * 4) + 18 * (T 11 4)) + 6 * (T 11 5)) + 210 * b) + 6 * (T 11 6)) + 0 ≤ 21000; omega⟩) (fun r_191 hr_191 => ?_)
                        subst hr_191
                        refine b_if_eq (tgt := 697) hx hb dL_isTold_674 (by decide)  (fun c_192 => ?_) (fun c_192 => ?_)
                        · refine lv_iconst (v := nI 0) hx hb dL_isTold_697 (by decide) ?_
                          refine lv_istore (lv' := [(18, .int (nI 0)), (17, .int (nI o_173)), (0, .ref h), (1, .int y), (2, .ref (ad 1)), (3, .ref (ad 2)), (4, .ref (ad 3)), (5, .ref (ad 4)), (6, .ref (ad 5)), (7, .ref (ad 6)), (8, .ref (ad 7)), (9, .ref (ad 8)), (10, .ref (ad 9)), (11, .ref (ad 10)), (12, .ref (ad 11)), (13, .int (nI b)), (14, .int (nI (t_owf T b (T 11 6)))), (15, .int (nI (t_hdf T b j))), (16, .int (nI j))]) hx hb dL_isTold_698 hl (by decide) rfl (fun ls hl => ?_)
                          have ej : nI 0 = bi false := rfl
                          rw [ej] at hl
                          exact hk_183 false (by first | (simp [t_hb, ho_173, c_187, c_189, c_192]; done) | (simp [t_hb, ho_173, c_187, c_189, c_192]; omega)) ls (lv_sub hl [0, 1, 2, 3, 4, 5, 6, 7, 8, 9, 10, 11, 12, 13, 14, 15, 16, 17, 18] rfl)
                        · refine lv_iload hx hb dL_isTold_677 (lv_at hl 0 rfl) ?_
                          refine n_if_ltF (tgt := 693) hx hb dL_isTold_679 (by decide) (by have f1 := (t_stf_some (T 11 4) o_173 ho_173).1; have f2 : T 11 4 ≤ 32 := hT.2.2.2.1; omega) ?_
                          refine lv_aload hx hb dL_isTold_682 (lv_at hl 9 rfl) ?_
                          refine lv_iload hx hb dL_isTold_684 (lv_at hl 0 rfl) ?_
                          refine a_iald (f := 7) (n := 32) hx hb hKa hPa rfl (by have f1 := (t_stf_some (T 11 4) o_173 ho_173).1; have f2 : T 11 4 ≤ 32 := hT.2.2.2.1; omega) (by decide) dL_isTold_686 ?_
                          refine lv_bipush (v := nI 17) hx hb dL_isTold_687 (by decide) ?_
                          refine lv_ishr hx hb dL_isTold_689 ?_
                          rw [show (nI (T 7 o_173)) >>> ((nI 17) &&& 31) = nI ((T 7 o_173) / 131072) from n_shrK (by have f1 := (t_stf_some (T 11 4) o_173 ho_173).1; have f2 : T 11 4 ≤ 32 := hT.2.2.2.1; have f3 : T 7 o_173 ≤ 16777215 := hT.1 7 o_173; omega) (by decide) rfl]
                          refine n_if_gt (tgt := 697) hx hb dL_isTold_690 (by decide) (by have f1 := (t_stf_some (T 11 4) o_173 ho_173).1; have f2 : T 11 4 ≤ 32 := hT.2.2.2.1; have f3 : T 7 o_173 ≤ 16777215 := hT.1 7 o_173; omega) (fun c_193 => ?_) (fun c_193 => ?_)
                          · refine lv_iconst (v := nI 0) hx hb dL_isTold_697 (by decide) ?_
                            refine lv_istore (lv' := [(18, .int (nI 0)), (17, .int (nI o_173)), (0, .ref h), (1, .int y), (2, .ref (ad 1)), (3, .ref (ad 2)), (4, .ref (ad 3)), (5, .ref (ad 4)), (6, .ref (ad 5)), (7, .ref (ad 6)), (8, .ref (ad 7)), (9, .ref (ad 8)), (10, .ref (ad 9)), (11, .ref (ad 10)), (12, .ref (ad 11)), (13, .int (nI b)), (14, .int (nI (t_owf T b (T 11 6)))), (15, .int (nI (t_hdf T b j))), (16, .int (nI j))]) hx hb dL_isTold_698 hl (by decide) rfl (fun ls hl => ?_)
                            have ej : nI 0 = bi false := rfl
                            rw [ej] at hl
                            exact hk_183 false (by first | (simp [t_hb, ho_173, c_187, c_189, c_192, c_193]; done) | (simp [t_hb, ho_173, c_187, c_189, c_192, c_193]; omega)) ls (lv_sub hl [0, 1, 2, 3, 4, 5, 6, 7, 8, 9, 10, 11, 12, 13, 14, 15, 16, 17, 18] rfl)
                          · refine lv_iconst (v := nI 1) hx hb dL_isTold_693 (by decide) ?_
                            refine lv_goto (tgt := 698) hx hb dL_isTold_694 (by decide) ?_
                            refine lv_istore (lv' := [(18, .int (nI 1)), (17, .int (nI o_173)), (0, .ref h), (1, .int y), (2, .ref (ad 1)), (3, .ref (ad 2)), (4, .ref (ad 3)), (5, .ref (ad 4)), (6, .ref (ad 5)), (7, .ref (ad 6)), (8, .ref (ad 7)), (9, .ref (ad 8)), (10, .ref (ad 9)), (11, .ref (ad 10)), (12, .ref (ad 11)), (13, .int (nI b)), (14, .int (nI (t_owf T b (T 11 6)))), (15, .int (nI (t_hdf T b j))), (16, .int (nI j))]) hx hb dL_isTold_698 hl (by decide) rfl (fun ls hl => ?_)
                            have ej : nI 1 = bi true := rfl
                            rw [ej] at hl
                            exact hk_183 true (by first | (simp [t_hb, ho_173, c_187, c_189, c_192, c_193]; done) | (simp [t_hb, ho_173, c_187, c_189, c_192, c_193]; omega)) ls (lv_sub hl [0, 1, 2, 3, 4, 5, 6, 7, 8, 9, 10, 11, 12, 13, 14, 15, 16, 17, 18] rfl)
            · refine lv_aload hx hb dL_isTold_512 (lv_at hl 10 rfl) ?_
              refine lv_iload hx hb dL_isTold_514 (lv_at hl 16 rfl) ?_
              refine a_iald (f := 9) (n := 32) hx hb hKa hPa rfl (by omega) (by decide) dL_isTold_516 ?_
              refine lv_bipush (v := nI 31) hx hb dL_isTold_517 (by decide) ?_
              refine lv_iand hx hb dL_isTold_519 ?_
              rw [show (nI (T 9 k)) &&& (nI 31) = nI ((T 9 k) % 32) from n_andK (k := 5) (by have f1 : T 9 k ≤ 4194303 := hT.1 9 k; omega) (by decide) (by decide) rfl]
              refine lv_istore (lv' := [(17, .int (nI ((T 9 k) % 32))), (0, .ref h), (1, .int y), (2, .ref (ad 1)), (3, .ref (ad 2)), (4, .ref (ad 3)), (5, .ref (ad 4)), (6, .ref (ad 5)), (7, .ref (ad 6)), (8, .ref (ad 7)), (9, .ref (ad 8)), (10, .ref (ad 9)), (11, .ref (ad 10)), (12, .ref (ad 11)), (13, .int (nI b)), (14, .int (nI (t_owf T b k))), (15, .int (nI 0)), (16, .int (nI k))]) hx hb dL_isTold_520 hl (by decide) rfl (fun ls hl => ?_)
              refine w_join (nL := 19) (pc1 := 555) (sk1 := []) (fun r9 => [(18, .int (nI r9)), (17, .int (nI ((T 9 k) % 32))), (0, .ref h), (1, .int y), (2, .ref (ad 1)), (3, .ref (ad 2)), (4, .ref (ad 3)), (5, .ref (ad 4)), (6, .ref (ad 5)), (7, .ref (ad 6)), (8, .ref (ad 7)), (9, .ref (ad 8)), (10, .ref (ad 9)), (11, .ref (ad 10)), (12, .ref (ad 11)), (13, .int (nI b)), (14, .int (nI (t_owf T b k))), (15, .int (nI 0)), (16, .int (nI k))]) (fun r9 => r9 = t_ru T k) (fun r9 hr9 ls hl => ?_) (fun hk_194 => ?_)
              · have hr2 : r9 ≤ 2 := by rw [hr9]; exact t_ru_le
                refine lv_aload_n hx hb dL_isTold_555 rfl (lv_at hl 2 rfl) ?_
                refine lv_iload hx hb dL_isTold_556 (lv_at hl 18 rfl) ?_
                refine va_calli (vx_runSW (As := [.ref h, .int (nI k)]) (rest := []) ⟨hx, hb, hml, hown, hts⟩ (cw_running l hst D cI cO cb eA mi st dO dT vF ws_137 hc_141 hM hsI (nI k)) (vx_cwSW 2 hts gL_isTold_L_running rfl rfl rfl kd_L_running ⟨Nat.le_of_ble_eq_true rfl, Nat.le_of_ble_eq_true rfl⟩) ⟨kB_blind, kB_pre hK hG hGT hN (fun q h9 => Or.inl h9) hS (fun q h9 => hA q (Nat.le_trans hS.1 h9)) hPw _⟩ rfl rfl hl.1 rfl (lv_room (Nat.le_of_ble_eq_true rfl)) dL_isTold_558 ⟨by show (((((0 + 152 * 4) + 3 * (T 11 4)) + 1 * (T 11 5)) + 35 * b) + 1 * k) + 1 ≤ 1000; omega, by show (((((0 + 4477 * 4) + 18 * (T 11 4)) + 6 * (T 11 5)) + 210 * b) + 6 * k) + 6 ≤ 21000; omega⟩) hS (fun _ _ h9 => Or.inl h9) (fun _ h9 => Or.inl h9) (fun r_195 ws_196 U8 H_200 locs_201 ht hvm hu_199 hB hz1 hk1 hS1 => ?_)
                obtain ⟨hr_197, hc_198⟩ := hu_199
                replace hB : va_P D vwCl ws_196 U8.heap := hB
                rw [ht] at hB
                replace hPa := aP_keep hPa hdB hAB hk1
                clear hPw hS
                have hPw := hB
                have hS := hS1
                clear hB hS1 hz1 hk1 hvm ht U8
                have hv9 : er (k_ct M (nI k)) (r_running M (nI k)) = nI r9 := by rw [hR.q_ru hM (by omega) (by omega) (by omega), ← hr9]
                rw [hv9] at hr_197
                clear hv9
                subst hr_197
                refine lv_iload hx hb dL_isTold_561 (lv_at hl 0 rfl) ?_
                refine n_icmp_eq (tgt := 568) hx hb dL_isTold_563 (by decide) (by have f1 := hr2; omega) (by have f1 := hr2; omega) (fun c_202 => ?_) (fun c_202 => absurd (by omega) c_202)
                refine lv_iload hx hb dL_isTold_568 (lv_at hl 16 rfl) ?_
                refine lv_iload hx hb dL_isTold_570 (lv_at hl 0 rfl) ?_
                refine n_if_ne (tgt := 599) hx hb dL_isTold_572 (by decide) (by have f1 := hr2; omega) (fun c_203 => ?_) (fun c_203 => ?_)
                · refine lv_iconst (v := nI 0) hx hb dL_isTold_599 (by decide) ?_
                  refine n_iadd hx hb dL_isTold_600 (z := (t_owf T b k) + 0) rfl ?_
                  refine lv_istore (lv' := [(14, .int (nI ((t_owf T b k) + 0))), (18, .int (nI r9)), (17, .int (nI ((T 9 k) % 32))), (0, .ref h), (1, .int y), (2, .ref (ad 1)), (3, .ref (ad 2)), (4, .ref (ad 3)), (5, .ref (ad 4)), (6, .ref (ad 5)), (7, .ref (ad 6)), (8, .ref (ad 7)), (9, .ref (ad 8)), (10, .ref (ad 9)), (11, .ref (ad 10)), (12, .ref (ad 11)), (13, .int (nI b)), (15, .int (nI 0)), (16, .int (nI k))]) hx hb dL_isTold_601 hl (by decide) rfl (fun ls hl => ?_)
                  refine n_iinc (k := 18) (lv' := [(16, .int (nI (k + 1))), (14, .int (nI ((t_owf T b k) + 0))), (18, .int (nI r9)), (17, .int (nI ((T 9 k) % 32))), (0, .ref h), (1, .int y), (2, .ref (ad 1)), (3, .ref (ad 2)), (4, .ref (ad 3)), (5, .ref (ad 4)), (6, .ref (ad 5)), (7, .ref (ad 6)), (8, .ref (ad 7)), (9, .ref (ad 8)), (10, .ref (ad 9)), (11, .ref (ad 10)), (12, .ref (ad 11)), (13, .int (nI b)), (15, .int (nI 0))]) hx hb dL_isTold_603 hl rfl (by decide) rfl (fun ls hl => ?_)
                  refine lv_goto (tgt := 502) hx hb dL_isTold_606 (by decide) ?_
                  have e_204 : t_owf T b (k + 1) = (t_owf T b k) + 0 := by first | (rw [t_owf, if_pos ⟨by rw [← hr9]; assumption, by assumption⟩]; done) | (rw [t_owf, if_neg (fun z => absurd (hr9.trans z.1) (by assumption))]; done) | (rw [t_owf, if_neg (fun z => absurd z.2 (by assumption))]; done)
                  refine W.widen (k := ((((0 + 152 * 4) + 3 * (T 11 4)) + 1 * (T 11 5)) + 35 * b) + 1 * (k + 1)) (n := ((((0 + 4477 * 4) + 18 * (T 11 4)) + 6 * (T 11 5)) + 210 * b) + 6 * (k + 1)) (by omega) (by omega) ?_
                  refine ih_136 (by omega) ws_196 _ _ ⟨hPw, hc_198, hPa, hS⟩ ls ?_
                  show lv_has ls 19 [(0, .ref h), (1, .int y), (2, .ref (ad 1)), (3, .ref (ad 2)), (4, .ref (ad 3)), (5, .ref (ad 4)), (6, .ref (ad 5)), (7, .ref (ad 6)), (8, .ref (ad 7)), (9, .ref (ad 8)), (10, .ref (ad 9)), (11, .ref (ad 10)), (12, .ref (ad 11)), (13, .int (nI b)), (14, .int (nI (t_owf T b (k + 1)))), (15, .int (nI 0)), (16, .int (nI (k + 1)))]
                  rw [e_204]
                  exact lv_sub hl [4, 5, 6, 7, 8, 9, 10, 11, 12, 13, 14, 15, 16, 17, 1, 18, 0] rfl
                · refine lv_aload hx hb dL_isTold_575 (lv_at hl 10 rfl) ?_
                  refine lv_iload hx hb dL_isTold_577 (lv_at hl 1 rfl) ?_
                  refine a_iald (f := 7) (n := 32) hx hb hKa hPa rfl (by have f1 : T 9 k ≤ 4194303 := hT.1 9 k; omega) (by decide) dL_isTold_579 ?_
                  refine lv_iconst (v := nI 2) hx hb dL_isTold_580 (by decide) ?_
                  refine lv_ishr hx hb dL_isTold_581 ?_
                  rw [show (nI (T 7 ((T 9 k) % 32))) >>> ((nI 2) &&& 31) = nI ((T 7 ((T 9 k) % 32)) / 4) from n_shrK (by have f1 : T 9 k ≤ 4194303 := hT.1 9 k; have f2 : T 7 ((T 9 k) % 32) ≤ 16777215 := hT.1 7 ((T 9 k) % 32); omega) (by decide) rfl]
                  refine lv_iconst (v := nI 3) hx hb dL_isTold_582 (by decide) ?_
                  refine lv_iand hx hb dL_isTold_583 ?_
                  rw [show (nI ((T 7 ((T 9 k) % 32)) / 4)) &&& (nI 3) = nI (((T 7 ((T 9 k) % 32)) / 4) % 4) from n_andK (k := 2) (by have f1 : T 9 k ≤ 4194303 := hT.1 9 k; have f2 : T 7 ((T 9 k) % 32) ≤ 16777215 := hT.1 7 ((T 9 k) % 32); omega) (by decide) (by decide) rfl]
                  refine lv_iload hx hb dL_isTold_584 (lv_at hl 15 rfl) ?_
                  refine n_icmp_ne (tgt := 599) hx hb dL_isTold_586 (by decide) (by have f1 : T 9 k ≤ 4194303 := hT.1 9 k; have f2 : T 7 ((T 9 k) % 32) ≤ 16777215 := hT.1 7 ((T 9 k) % 32); omega) (by omega) (fun c_205 => ?_) (fun c_205 => ?_)
                  · refine lv_iconst (v := nI 0) hx hb dL_isTold_599 (by decide) ?_
                    refine n_iadd hx hb dL_isTold_600 (z := (t_owf T b k) + 0) rfl ?_
                    refine lv_istore (lv' := [(14, .int (nI ((t_owf T b k) + 0))), (18, .int (nI r9)), (17, .int (nI ((T 9 k) % 32))), (0, .ref h), (1, .int y), (2, .ref (ad 1)), (3, .ref (ad 2)), (4, .ref (ad 3)), (5, .ref (ad 4)), (6, .ref (ad 5)), (7, .ref (ad 6)), (8, .ref (ad 7)), (9, .ref (ad 8)), (10, .ref (ad 9)), (11, .ref (ad 10)), (12, .ref (ad 11)), (13, .int (nI b)), (15, .int (nI 0)), (16, .int (nI k))]) hx hb dL_isTold_601 hl (by decide) rfl (fun ls hl => ?_)
                    refine n_iinc (k := 18) (lv' := [(16, .int (nI (k + 1))), (14, .int (nI ((t_owf T b k) + 0))), (18, .int (nI r9)), (17, .int (nI ((T 9 k) % 32))), (0, .ref h), (1, .int y), (2, .ref (ad 1)), (3, .ref (ad 2)), (4, .ref (ad 3)), (5, .ref (ad 4)), (6, .ref (ad 5)), (7, .ref (ad 6)), (8, .ref (ad 7)), (9, .ref (ad 8)), (10, .ref (ad 9)), (11, .ref (ad 10)), (12, .ref (ad 11)), (13, .int (nI b)), (15, .int (nI 0))]) hx hb dL_isTold_603 hl rfl (by decide) rfl (fun ls hl => ?_)
                    refine lv_goto (tgt := 502) hx hb dL_isTold_606 (by decide) ?_
                    have e_206 : t_owf T b (k + 1) = (t_owf T b k) + 0 := by first | (rw [t_owf, if_pos ⟨by rw [← hr9]; assumption, by assumption⟩]; done) | (rw [t_owf, if_neg (fun z => absurd (hr9.trans z.1) (by assumption))]; done) | (rw [t_owf, if_neg (fun z => absurd z.2 (by assumption))]; done)
                    refine W.widen (k := ((((0 + 152 * 4) + 3 * (T 11 4)) + 1 * (T 11 5)) + 35 * b) + 1 * (k + 1)) (n := ((((0 + 4477 * 4) + 18 * (T 11 4)) + 6 * (T 11 5)) + 210 * b) + 6 * (k + 1)) (by omega) (by omega) ?_
                    refine ih_136 (by omega) ws_196 _ _ ⟨hPw, hc_198, hPa, hS⟩ ls ?_
                    show lv_has ls 19 [(0, .ref h), (1, .int y), (2, .ref (ad 1)), (3, .ref (ad 2)), (4, .ref (ad 3)), (5, .ref (ad 4)), (6, .ref (ad 5)), (7, .ref (ad 6)), (8, .ref (ad 7)), (9, .ref (ad 8)), (10, .ref (ad 9)), (11, .ref (ad 10)), (12, .ref (ad 11)), (13, .int (nI b)), (14, .int (nI (t_owf T b (k + 1)))), (15, .int (nI 0)), (16, .int (nI (k + 1)))]
                    rw [e_206]
                    exact lv_sub hl [4, 5, 6, 7, 8, 9, 10, 11, 12, 13, 14, 15, 16, 17, 1, 18, 0] rfl
                  · refine lv_aload hx hb dL_isTold_589 (lv_at hl 12 rfl) ?_
                    refine lv_iload hx hb dL_isTold_591 (lv_at hl 18 rfl) ?_
                    refine a_iald (f := 9) (n := 32) hx hb hKa hPa rfl (by omega) (by decide) dL_isTold_593 ?_
                    refine lv_iconst (v := nI 5) hx hb dL_isTold_594 (by decide) ?_
                    refine lv_ishr hx hb dL_isTold_595 ?_
                    rw [show (nI (T 9 k)) >>> ((nI 5) &&& 31) = nI ((T 9 k) / 32) from n_shrK (by have f1 : T 9 k ≤ 4194303 := hT.1 9 k; omega) (by decide) rfl]
                    refine lv_goto (tgt := 600) hx hb dL_isTold_596 (by decide) ?_
                    refine n_iadd hx hb dL_isTold_600 (z := (t_owf T b k) + ((T 9 k) / 32)) rfl ?_
                    refine lv_istore (lv' := [(14, .int (nI ((t_owf T b k) + ((T 9 k) / 32)))), (18, .int (nI r9)), (17, .int (nI ((T 9 k) % 32))), (0, .ref h), (1, .int y), (2, .ref (ad 1)), (3, .ref (ad 2)), (4, .ref (ad 3)), (5, .ref (ad 4)), (6, .ref (ad 5)), (7, .ref (ad 6)), (8, .ref (ad 7)), (9, .ref (ad 8)), (10, .ref (ad 9)), (11, .ref (ad 10)), (12, .ref (ad 11)), (13, .int (nI b)), (15, .int (nI 0)), (16, .int (nI k))]) hx hb dL_isTold_601 hl (by decide) rfl (fun ls hl => ?_)
                    refine n_iinc (k := 18) (lv' := [(16, .int (nI (k + 1))), (14, .int (nI ((t_owf T b k) + ((T 9 k) / 32)))), (18, .int (nI r9)), (17, .int (nI ((T 9 k) % 32))), (0, .ref h), (1, .int y), (2, .ref (ad 1)), (3, .ref (ad 2)), (4, .ref (ad 3)), (5, .ref (ad 4)), (6, .ref (ad 5)), (7, .ref (ad 6)), (8, .ref (ad 7)), (9, .ref (ad 8)), (10, .ref (ad 9)), (11, .ref (ad 10)), (12, .ref (ad 11)), (13, .int (nI b)), (15, .int (nI 0))]) hx hb dL_isTold_603 hl rfl (by decide) rfl (fun ls hl => ?_)
                    refine lv_goto (tgt := 502) hx hb dL_isTold_606 (by decide) ?_
                    have e_207 : t_owf T b (k + 1) = (t_owf T b k) + ((T 9 k) / 32) := by first | (rw [t_owf, if_pos ⟨by rw [← hr9]; assumption, by assumption⟩]; done) | (rw [t_owf, if_neg (fun z => absurd (hr9.trans z.1) (by assumption))]; done) | (rw [t_owf, if_neg (fun z => absurd z.2 (by assumption))]; done)
                    refine W.widen (k := ((((0 + 152 * 4) + 3 * (T 11 4)) + 1 * (T 11 5)) + 35 * b) + 1 * (k + 1)) (n := ((((0 + 4477 * 4) + 18 * (T 11 4)) + 6 * (T 11 5)) + 210 * b) + 6 * (k + 1)) (by omega) (by omega) ?_
                    refine ih_136 (by omega) ws_196 _ _ ⟨hPw, hc_198, hPa, hS⟩ ls ?_
                    show lv_has ls 19 [(0, .ref h), (1, .int y), (2, .ref (ad 1)), (3, .ref (ad 2)), (4, .ref (ad 3)), (5, .ref (ad 4)), (6, .ref (ad 5)), (7, .ref (ad 6)), (8, .ref (ad 7)), (9, .ref (ad 8)), (10, .ref (ad 9)), (11, .ref (ad 10)), (12, .ref (ad 11)), (13, .int (nI b)), (14, .int (nI (t_owf T b (k + 1)))), (15, .int (nI 0)), (16, .int (nI (k + 1)))]
                    rw [e_207]
                    exact lv_sub hl [4, 5, 6, 7, 8, 9, 10, 11, 12, 13, 14, 15, 16, 17, 1, 18, 0] rfl
              · have hk9 := hk_194
                refine lv_aload hx hb dL_isTold_522 (lv_at hl 9 rfl) ?_
                refine lv_iload hx hb dL_isTold_524 (lv_at hl 0 rfl) ?_
                refine vp_callSi (W.runS (As := [.ref (ad 7), .int (nI ((T 9 k) % 32))]) (rest := []) ⟨hx, hb, hml, hown, hts⟩ (ch_gone l D ad cI T hT ((T 9 k) % 32) (by have f1 : T 9 k ≤ 4194303 := hT.1 9 k; omega)) (va_cwS 2 hts gL_isTold_L_gone rfl rfl rfl kd_L_gone ⟨Nat.le_of_ble_eq_true rfl, Nat.le_of_ble_eq_true rfl⟩) ⟨aB_blind, a_pre hKa hPa _⟩ rfl rfl hl.1 rfl (lv_room (Nat.le_of_ble_eq_true rfl)) dL_isTold_526 ⟨by show (((((0 + 152 * 4) + 3 * (T 11 4)) + 1 * (T 11 5)) + 35 * b) + 1 * k) + 0 ≤ 1000; omega, by show (((((0 + 4477 * 4) + 18 * (T 11 4)) + 6 * (T 11 5)) + 210 * b) + 6 * k) + 0 ≤ 21000; omega⟩) (fun r_208 hr_208 => ?_)
                subst hr_208
                refine b_if_eq (tgt := 536) hx hb dL_isTold_529 (by decide)  (fun c_209 => ?_) (fun c_209 => ?_)
                · refine lv_aload hx hb dL_isTold_536 (lv_at hl 10 rfl) ?_
                  refine lv_aload hx hb dL_isTold_538 (lv_at hl 13 rfl) ?_
                  refine lv_iload hx hb dL_isTold_540 (lv_at hl 0 rfl) ?_
                  refine vp_callSi (W.runS (As := [.ref (ad 8), .ref (ad 11), .int (nI ((T 9 k) % 32))]) (rest := []) ⟨hx, hb, hml, hown, hts⟩ (ch_openOnes l D ad cI T hT ((T 9 k) % 32) (by have f1 : T 9 k ≤ 4194303 := hT.1 9 k; omega)) (va_cwS 3 hts gL_isTold_L_openOnes rfl rfl rfl kd_L_openOnes ⟨Nat.le_of_ble_eq_true rfl, Nat.le_of_ble_eq_true rfl⟩) ⟨aB_blind, a_pre hKa hPa _⟩ rfl rfl hl.1 rfl (lv_room (Nat.le_of_ble_eq_true rfl)) dL_isTold_542 ⟨by show (((((0 + 152 * 4) + 3 * (T 11 4)) + 1 * (T 11 5)) + 35 * b) + 1 * k) + 0 ≤ 1000; omega, by show (((((0 + 4477 * 4) + 18 * (T 11 4)) + 6 * (T 11 5)) + 210 * b) + 6 * k) + 0 ≤ 21000; omega⟩) (fun r_210 hr_210 => ?_)
                  subst hr_210
                  refine n_if_le (tgt := 552) hx hb dL_isTold_545 (by decide) (by have f1 : t_oo T ((T 9 k) % 32) ≤ T 11 5 := t_oof_le ((T 9 k) % 32) (T 11 5); have f2 : T 11 5 ≤ 32 := hT.2.2.2.2.1; omega) (fun c_211 => ?_) (fun c_211 => ?_)
                  · refine lv_iconst (v := nI 2) hx hb dL_isTold_552 (by decide) ?_
                    refine lv_istore (lv' := [(18, .int (nI 2)), (17, .int (nI ((T 9 k) % 32))), (0, .ref h), (1, .int y), (2, .ref (ad 1)), (3, .ref (ad 2)), (4, .ref (ad 3)), (5, .ref (ad 4)), (6, .ref (ad 5)), (7, .ref (ad 6)), (8, .ref (ad 7)), (9, .ref (ad 8)), (10, .ref (ad 9)), (11, .ref (ad 10)), (12, .ref (ad 11)), (13, .int (nI b)), (14, .int (nI (t_owf T b k))), (15, .int (nI 0)), (16, .int (nI k))]) hx hb dL_isTold_553 hl (by decide) rfl (fun ls hl => ?_)
                    exact hk_194 2 (by first | (simp [t_ru, c_209, c_211]; done) | (simp [t_ru, c_209, c_211]; omega)) ls (lv_sub hl [0, 1, 2, 3, 4, 5, 6, 7, 8, 9, 10, 11, 12, 13, 14, 15, 16, 17, 18] rfl)
                  · refine lv_iconst (v := nI 1) hx hb dL_isTold_548 (by decide) ?_
                    refine lv_goto (tgt := 553) hx hb dL_isTold_549 (by decide) ?_
                    refine lv_istore (lv' := [(18, .int (nI 1)), (17, .int (nI ((T 9 k) % 32))), (0, .ref h), (1, .int y), (2, .ref (ad 1)), (3, .ref (ad 2)), (4, .ref (ad 3)), (5, .ref (ad 4)), (6, .ref (ad 5)), (7, .ref (ad 6)), (8, .ref (ad 7)), (9, .ref (ad 8)), (10, .ref (ad 9)), (11, .ref (ad 10)), (12, .ref (ad 11)), (13, .int (nI b)), (14, .int (nI (t_owf T b k))), (15, .int (nI 0)), (16, .int (nI k))]) hx hb dL_isTold_553 hl (by decide) rfl (fun ls hl => ?_)
                    exact hk_194 1 (by first | (simp [t_ru, c_209, c_211]; done) | (simp [t_ru, c_209, c_211]; omega)) ls (lv_sub hl [0, 1, 2, 3, 4, 5, 6, 7, 8, 9, 10, 11, 12, 13, 14, 15, 16, 17, 18] rfl)
                · refine lv_iconst (v := nI 0) hx hb dL_isTold_532 (by decide) ?_
                  refine lv_goto (tgt := 553) hx hb dL_isTold_533 (by decide) ?_
                  refine lv_istore (lv' := [(18, .int (nI 0)), (17, .int (nI ((T 9 k) % 32))), (0, .ref h), (1, .int y), (2, .ref (ad 1)), (3, .ref (ad 2)), (4, .ref (ad 3)), (5, .ref (ad 4)), (6, .ref (ad 5)), (7, .ref (ad 6)), (8, .ref (ad 7)), (9, .ref (ad 8)), (10, .ref (ad 9)), (11, .ref (ad 10)), (12, .ref (ad 11)), (13, .int (nI b)), (14, .int (nI (t_owf T b k))), (15, .int (nI 0)), (16, .int (nI k))]) hx hb dL_isTold_553 hl (by decide) rfl (fun ls hl => ?_)
                  exact hk_194 0 (by first | (simp [t_ru, c_209]; done) | (simp [t_ru, c_209]; omega)) ls (lv_sub hl [0, 1, 2, 3, 4, 5, 6, 7, 8, 9, 10, 11, 12, 13, 14, 15, 16, 17, 18] rfl)
        · refine lv_aload_n hx hb dL_isTold_457 rfl (lv_at hl 0 rfl) ?_
          refine lv_iload hx hb dL_isTold_458 (lv_at hl 13 rfl) ?_
          refine va_calli (vx_runSW (As := [.ref h, .int (nI k)]) (rest := []) ⟨hx, hb, hml, hown, hts⟩ (cw_stateOf l hst D cI cO cb eA mi st dO dT vF ws_20 hc_24 hM hsI (nI k)) (vx_cwSW 2 hts gL_isTold_L_stateOf rfl rfl rfl kd_L_stateOf ⟨Nat.le_of_ble_eq_true rfl, Nat.le_of_ble_eq_true rfl⟩) ⟨kB_blind, kB_pre hK hG hGT hN (fun q h9 => Or.inl h9) hS (fun q h9 => hA q (Nat.le_trans hS.1 h9)) hPw _⟩ rfl rfl hl.1 rfl (lv_room (Nat.le_of_ble_eq_true rfl)) dL_isTold_460 ⟨by show (((0 + 152 * 4) + 3 * (T 11 4)) + 1 * k) + 1 ≤ 1000; omega, by show (((0 + 4477 * 4) + 18 * (T 11 4)) + 6 * k) + 6 ≤ 21000; omega⟩) hS (fun _ _ h9 => Or.inl h9) (fun _ h9 => Or.inl h9) (fun r_212 ws_213 U8 H_217 locs_218 ht hvm hu_216 hB hz1 hk1 hS1 => ?_)
          obtain ⟨hr_214, hc_215⟩ := hu_216
          replace hB : va_P D vwCl ws_213 U8.heap := hB
          rw [ht] at hB
          replace hPa := aP_keep hPa hdB hAB hk1
          clear hPw hS
          have hPw := hB
          have hS := hS1
          clear hB hS1 hz1 hk1 hvm ht U8
          have hv9 : er (k_co M (nI k)) (r_stateOf M (nI k)) = nI (T 8 k / 512 % 4) := by exact hR.q_so hM (by omega) (by omega) (by omega)
          rw [hv9] at hr_214
          clear hv9
          subst hr_214
          refine lv_aload hx hb dL_isTold_463 (lv_at hl 9 rfl) ?_
          refine lv_iload hx hb dL_isTold_465 (lv_at hl 13 rfl) ?_
          refine a_iald (f := 8) (n := 32) hx hb hKa hPa rfl (by omega) (by decide) dL_isTold_467 ?_
          refine lv_bipush (v := nI 9) hx hb dL_isTold_468 (by decide) ?_
          refine lv_ishr hx hb dL_isTold_470 ?_
          rw [show (nI (T 8 k)) >>> ((nI 9) &&& 31) = nI ((T 8 k) / 512) from n_shrK (by have f1 : T 8 k ≤ 16777215 := hT.1 8 k; omega) (by decide) rfl]
          refine lv_iconst (v := nI 3) hx hb dL_isTold_471 (by decide) ?_
          refine lv_iand hx hb dL_isTold_472 ?_
          rw [show (nI ((T 8 k) / 512)) &&& (nI 3) = nI (((T 8 k) / 512) % 4) from n_andK (k := 2) (by have f1 : T 8 k ≤ 16777215 := hT.1 8 k; omega) (by decide) (by decide) rfl]
          refine n_icmp_eq (tgt := 478) hx hb dL_isTold_473 (by decide) (by omega) (by have f1 : T 8 k ≤ 16777215 := hT.1 8 k; omega) (fun c_219 => ?_) (fun c_219 => absurd (by omega) c_219)
          refine n_iinc (k := 13) (lv' := [(13, .int (nI (k + 1))), (0, .ref h), (1, .int y), (2, .ref (ad 1)), (3, .ref (ad 2)), (4, .ref (ad 3)), (5, .ref (ad 4)), (6, .ref (ad 5)), (7, .ref (ad 6)), (8, .ref (ad 7)), (9, .ref (ad 8)), (10, .ref (ad 9)), (11, .ref (ad 10)), (12, .ref (ad 11))]) hx hb dL_isTold_478 hl rfl (by decide) rfl (fun ls hl => ?_)
          refine lv_goto (tgt := 448) hx hb dL_isTold_481 (by decide) ?_
          refine W.widen (k := ((0 + 152 * 4) + 3 * (T 11 4)) + 1 * (k + 1)) (n := ((0 + 4477 * 4) + 18 * (T 11 4)) + 6 * (k + 1)) (by omega) (by omega) ?_
          refine ih_19 (by omega) ws_213 _ _ ⟨hPw, hc_215, hPa, hS⟩ ls ?_
          show lv_has ls 19 [(0, .ref h), (1, .int y), (2, .ref (ad 1)), (3, .ref (ad 2)), (4, .ref (ad 3)), (5, .ref (ad 4)), (6, .ref (ad 5)), (7, .ref (ad 6)), (8, .ref (ad 7)), (9, .ref (ad 8)), (10, .ref (ad 9)), (11, .ref (ad 10)), (12, .ref (ad 11)), (13, .int (nI (k + 1)))]
          exact lv_sub hl [1, 2, 3, 4, 5, 6, 7, 8, 9, 10, 11, 12, 13, 0] rfl
      · refine lv_aload_n hx hb dL_isTold_421 rfl (lv_at hl 0 rfl) ?_
        refine lv_iload_n hx hb dL_isTold_422 rfl (lv_at hl 1 rfl) ?_
        refine lv_aload hx hb dL_isTold_423 (lv_at hl 12 rfl) ?_
        refine lv_iconst (v := nI 4) hx hb dL_isTold_425 (by decide) ?_
        refine a_iald (f := 11) (n := 7) hx hb hKa hPa rfl (by decide) (by decide) dL_isTold_426 ?_
        refine vp_callSi (W.runS (As := [.int y, .int (nI (T 11 4))]) (rest := [.ref h]) ⟨hx, hb, hml, hown, hts⟩ (ch_low l y (T 11 4) (by have f1 : T 11 4 ≤ 2000 := hT.1 11 4; have f2 : T 11 4 ≤ 32 := hT.2.2.2.1; omega) (by have f1 : T 11 4 ≤ 2000 := hT.1 11 4; have f2 : T 11 4 ≤ 32 := hT.2.2.2.1; omega)) (va_cwS 2 hts gL_isTold_L_low rfl rfl rfl kd_L_low ⟨Nat.le_of_ble_eq_true rfl, Nat.le_of_ble_eq_true rfl⟩) ⟨fun _ _ _ _ q => q, fun U hU hW => ⟨rfl, trivial⟩⟩ rfl rfl hl.1 rfl (lv_room (Nat.le_of_ble_eq_true rfl)) dL_isTold_427 ⟨by show ((0 + 152 * 4) + 3 * (T 11 4)) + 0 ≤ 1000; omega, by show ((0 + 4477 * 4) + 18 * (T 11 4)) + 0 ≤ 21000; omega⟩) (fun r_220 hr_220 => ?_)
        subst hr_220
        have ha9 : lowN y (T 11 4) < (T 11 4) := lowN_lt _ (by omega)
        generalize lowN y (T 11 4) = a9 at ha9 ⊢
        refine lv_aload_n hx hb dL_isTold_430 rfl (lv_at hl 2 rfl) ?_
        refine lv_aload hx hb dL_isTold_431 (lv_at hl 8 rfl) ?_
        refine lv_aload hx hb dL_isTold_433 (lv_at hl 9 rfl) ?_
        refine lv_aload hx hb dL_isTold_435 (lv_at hl 12 rfl) ?_
        refine va_calli (va_runS (As := [.ref h, .int (nI a9), .ref (ad 1), .ref (ad 7), .ref (ad 8), .ref (ad 11)]) (rest := []) ⟨hx, hb, hml, hown, hts⟩ (cb_isLine l hst D ad cI cO cb eA mi st dO dT vF hAB hsI hdB ws_11 hc_15 hM hLB h15 hR hT a9 (by have f1 := ha9; omega)) (va_cwS 6 hts gL_isTold_L_isLine rfl rfl rfl kd_L_isLine ⟨Nat.le_of_ble_eq_true rfl, Nat.le_of_ble_eq_true rfl⟩) ⟨bB_blind, bB_pre hK hKa hG hGT hN (fun q h9 => h9) hS (fun q h9 => hA q (Nat.le_trans hS.1 h9)) hPw hPa _⟩ rfl rfl hl.1 rfl (lv_room (Nat.le_of_ble_eq_true rfl)) dL_isTold_437 ⟨by show ((0 + 152 * 4) + 3 * (T 11 4)) + 55 ≤ 1000; omega, by show ((0 + 4477 * 4) + 18 * (T 11 4)) + 442 ≤ 21000; omega⟩) hS (fun _ _ h9 => h9) (fun _ h9 => h9) (fun r_221 u9 U8 H_223 locs_224 ht hvm hu_222 hB hz1 hk1 hS1 => ?_)
        obtain ⟨ws_225, M_225⟩ := u9
        obtain ⟨hr_225, hc_225, hM_225, hLB_225, h15_225, hR_225⟩ := hu_222
        replace hB : va_P D vwCl ws_225 U8.heap ∧ va_P D vwCl (aws ad cI T) U8.heap := hB
        rw [ht] at hB
        clear hPw hPa hS
        obtain ⟨hPw, hPa⟩ := hB
        have hS := hS1
        clear hS1 hz1 hk1 hvm ht U8
        subst hr_225
        replace hc_225 : cSt cI cO eA st A h M_225 ws_225 := hc_225
        replace hM_225 : MI M_225 := hM_225
        replace hLB_225 : m_LB M_225 := hLB_225
        replace h15_225 : M_225 15 0 ≤ n15 := h15_225
        replace hR_225 : LR M_225 T := hR_225
        obtain ⟨g0_225, g1_225, g2_225, g3_225, g4_225, g5_225, g6_225⟩ := hR_225.1
        obtain ⟨hU_225, -, -, hRS_225⟩ := hc_225.inv
        refine n_if_ne (tgt := 445) hx hb dL_isTold_440 (by decide) (by decide) (fun _ => ?_) (fun c9 => absurd c9 (by decide))
        refine lv_iconst (v := nI 0) hx hb dL_isTold_445 (by decide) ?_
        refine lv_istore (lv' := [(13, .int (nI 0)), (0, .ref h), (1, .int y), (2, .ref (ad 1)), (3, .ref (ad 2)), (4, .ref (ad 3)), (5, .ref (ad 4)), (6, .ref (ad 5)), (7, .ref (ad 6)), (8, .ref (ad 7)), (9, .ref (ad 8)), (10, .ref (ad 9)), (11, .ref (ad 10)), (12, .ref (ad 11))]) hx hb dL_isTold_446 hl (by decide) rfl (fun ls hl => ?_)
        refine W.widen (k := ((0 + 152 * 4) + 3 * (T 11 4)) + 55 + 1 * 0) (n := ((0 + 4477 * 4) + 18 * (T 11 4)) + 442 + 6 * 0) (by omega) (by omega) ?_
        refine w_loopX (σ := va_W) (n := T 11 5) (nL := 19) (fun k _ => [(0, .ref h), (1, .int y), (2, .ref (ad 1)), (3, .ref (ad 2)), (4, .ref (ad 3)), (5, .ref (ad 4)), (6, .ref (ad 5)), (7, .ref (ad 6)), (8, .ref (ad 7)), (9, .ref (ad 8)), (10, .ref (ad 9)), (11, .ref (ad 10)), (12, .ref (ad 11)), (13, .int (nI k))]) (fun k ws9 H9 locs9 => va_P D vwCl ws9 H9 ∧ cSt cI cO eA st A h M_225 ws9 ∧ va_P D vwCl (aws ad cI T) H9 ∧ va_S (fun q => A q ∨ B q) s.heap H9 locs9) (fun k => ((0 + 152 * 4) + 3 * (T 11 4)) + 55 + 1 * k) (fun k => ((0 + 4477 * 4) + 18 * (T 11 4)) + 442 + 6 * k) (fun k hb_226 ws_228 H_230 locs_231 hJ_229 ih_227 ls hl => ?_) 0 (by omega) ws_225 _ _ ⟨hPw, hc_225, hPa, hS⟩ ls (lv_sub hl [1, 2, 3, 4, 5, 6, 7, 8, 9, 10, 11, 12, 13, 0] rfl)
        clear hPw hPa hS
        obtain ⟨hPw, hc_232, hPa, hS⟩ := hJ_229
        show W _ _ _ _ _ _ _ _ _ _ _ _ (((0 + 152 * 4) + 3 * (T 11 4)) + 55 + 1 * k) (((0 + 4477 * 4) + 18 * (T 11 4)) + 442 + 6 * k) _ _
        refine lv_iload hx hb dL_isTold_448 (lv_at hl 13 rfl) ?_
        refine lv_aload hx hb dL_isTold_450 (lv_at hl 12 rfl) ?_
        refine lv_iconst (v := nI 5) hx hb dL_isTold_452 (by decide) ?_
        refine a_iald (f := 11) (n := 7) hx hb hKa hPa rfl (by decide) (by decide) dL_isTold_453 ?_
        refine n_icmp_ge (tgt := 484) hx hb dL_isTold_454 (by decide) (by omega) (by have f1 : T 11 5 ≤ 2000 := hT.1 11 5; have f2 : T 11 5 ≤ 32 := hT.2.2.2.2.1; omega) (fun c_233 => ?_) (fun c_233 => ?_)
        · obtain rfl : T 11 5 = k := by omega
          refine lv_iconst (v := nI 0) hx hb dL_isTold_484 (by decide) ?_
          refine lv_istore (lv' := [(13, .int (nI 0)), (0, .ref h), (1, .int y), (2, .ref (ad 1)), (3, .ref (ad 2)), (4, .ref (ad 3)), (5, .ref (ad 4)), (6, .ref (ad 5)), (7, .ref (ad 6)), (8, .ref (ad 7)), (9, .ref (ad 8)), (10, .ref (ad 9)), (11, .ref (ad 10)), (12, .ref (ad 11))]) hx hb dL_isTold_485 hl (by decide) rfl (fun ls hl => ?_)
          refine W.widen (k := (((0 + 152 * 4) + 3 * (T 11 4)) + 55 + 1 * (T 11 5)) + 35 * 0) (n := (((0 + 4477 * 4) + 18 * (T 11 4)) + 442 + 6 * (T 11 5)) + 210 * 0) (by omega) (by omega) ?_
          refine w_loopX (σ := va_W) (n := 4) (nL := 19) (fun b _ => [(0, .ref h), (1, .int y), (2, .ref (ad 1)), (3, .ref (ad 2)), (4, .ref (ad 3)), (5, .ref (ad 4)), (6, .ref (ad 5)), (7, .ref (ad 6)), (8, .ref (ad 7)), (9, .ref (ad 8)), (10, .ref (ad 9)), (11, .ref (ad 10)), (12, .ref (ad 11)), (13, .int (nI b))]) (fun b ws9 H9 locs9 => va_P D vwCl ws9 H9 ∧ cSt cI cO eA st A h M_225 ws9 ∧ va_P D vwCl (aws ad cI T) H9 ∧ va_S (fun q => A q ∨ B q) s.heap H9 locs9) (fun b => (((0 + 152 * 4) + 3 * (T 11 4)) + 55 + 1 * (T 11 5)) + 35 * b) (fun b => (((0 + 4477 * 4) + 18 * (T 11 4)) + 442 + 6 * (T 11 5)) + 210 * b) (fun b hb_234 ws_236 H_238 locs_239 hJ_237 ih_235 ls hl => ?_) 0 (by omega) ws_228 _ _ ⟨hPw, hc_232, hPa, hS⟩ ls (lv_sub hl [1, 2, 3, 4, 5, 6, 7, 8, 9, 10, 11, 12, 13, 0] rfl)
          clear hPw hPa hS
          obtain ⟨hPw, hc_240, hPa, hS⟩ := hJ_237
          show W _ _ _ _ _ _ _ _ _ _ _ _ ((((0 + 152 * 4) + 3 * (T 11 4)) + 55 + 1 * (T 11 5)) + 35 * b) ((((0 + 4477 * 4) + 18 * (T 11 4)) + 442 + 6 * (T 11 5)) + 210 * b) _ _
          refine lv_iload hx hb dL_isTold_487 (lv_at hl 13 rfl) ?_
          refine lv_iconst (v := nI 4) hx hb dL_isTold_489 (by decide) ?_
          refine n_icmp_ge (tgt := 768) hx hb dL_isTold_490 (by decide) (by omega) (by decide) (fun c_241 => ?_) (fun c_241 => ?_)
          · obtain rfl : 4 = b := by omega
            refine lv_aload_n hx hb dL_isTold_768 rfl (lv_at hl 0 rfl) ?_
            obtain ⟨own9, kd9, F9, L9, hC9, hW9, ⟨tn9, lo9, aw9, co9, ct9, ow9, G9⟩, hD9⟩ := hc_240
            have hcT : cSt cI cO eA st A h M_225 ws_236 := ⟨own9, kd9, F9, L9, hC9, hW9, ⟨tn9, lo9, aw9, co9, ct9, ow9, G9⟩, hD9⟩
            have hmT : (h, .inr (9, [.ref (F9 0 h), .ref (F9 1 h), .ref (F9 2 h), .ref (F9 3 h), .ref (F9 4 h), .int (nI (F9 5 h))])) ∈ ws_236 := hC9.at G9.1.1 (by decide) (by decide)
            have e5 : F9 5 h = M_225 1 0 := G9.1.2.2.1
            refine vp_callSi (W.runV (As := []) (rest := []) ⟨hx, hb, hml, hown, hts⟩ (ck_today l D cI cO cb eA mi st ws_236 hD9 hC9 hW9 hsI h G9.1.1) (cwV 0 hts gL_isTold_X8_today rfl rfl rfl kd_X8_today ⟨Nat.le_of_ble_eq_true rfl, Nat.le_of_ble_eq_true rfl⟩) ⟨cB_blind, c_recv hK hPw rfl hmT, cB_preN hK hG (fun q h9 => Or.inl h9) hS (fun q h9 => hA q (Nat.le_trans hS.1 h9)) hPw _⟩ rfl rfl hl.1 rfl (lv_room (Nat.le_of_ble_eq_true rfl)) dL_isTold_769 ⟨by show ((((0 + 152 * 4) + 3 * (T 11 4)) + 55 + 1 * (T 11 5)) + 35 * 4) + 0 ≤ 1000; omega, by show ((((0 + 4477 * 4) + 18 * (T 11 4)) + 442 + 6 * (T 11 5)) + 210 * 4) + 0 ≤ 21000; omega⟩) (fun r_242 hr_242 => ?_)
            subst hr_242
            rw [e5]
            refine lv_aload hx hb dL_isTold_772 (lv_at hl 12 rfl) ?_
            refine lv_iconst (v := nI 0) hx hb dL_isTold_774 (by decide) ?_
            refine a_iald (f := 11) (n := 7) hx hb hKa hPa rfl (by decide) (by decide) dL_isTold_775 ?_
            refine n_icmp_ne (tgt := 932) hx hb dL_isTold_776 (by decide) (by have f1 : M_225 1 0 ≤ 2000 := hM_225 1 0; omega) (by have f1 : T 11 0 ≤ 2000 := hT.1 11 0; omega) (fun c_243 => absurd (by omega) c_243) (fun c_243 => ?_)
            refine lv_aload_n hx hb dL_isTold_779 rfl (lv_at hl 0 rfl) ?_
            refine lv_aload hx hb dL_isTold_780 (lv_at hl 12 rfl) ?_
            refine lv_iconst (v := nI 4) hx hb dL_isTold_782 (by decide) ?_
            refine a_iald (f := 11) (n := 7) hx hb hKa hPa rfl (by decide) (by decide) dL_isTold_783 ?_
            refine va_calli (vx_runSW (As := [.ref h, .int (nI (T 11 4))]) (rest := []) ⟨hx, hb, hml, hown, hts⟩ (cw_winner l hst D cI cO cb eA mi st dO dT vF ws_236 hcT hM_225 hsI (nI (T 11 4))) (vx_cwSW 2 hts gL_isTold_L_winner rfl rfl rfl kd_L_winner ⟨Nat.le_of_ble_eq_true rfl, Nat.le_of_ble_eq_true rfl⟩) ⟨kB_blind, kB_pre hK hG hGT hN (fun q h9 => Or.inl h9) hS (fun q h9 => hA q (Nat.le_trans hS.1 h9)) hPw _⟩ rfl rfl hl.1 rfl (lv_room (Nat.le_of_ble_eq_true rfl)) dL_isTold_784 ⟨by show ((((0 + 152 * 4) + 3 * (T 11 4)) + 55 + 1 * (T 11 5)) + 35 * 4) + 1 ≤ 1000; omega, by show ((((0 + 4477 * 4) + 18 * (T 11 4)) + 442 + 6 * (T 11 5)) + 210 * 4) + 6 ≤ 21000; omega⟩) hS (fun _ _ h9 => Or.inl h9) (fun _ h9 => Or.inl h9) (fun r_244 ws_245 U8 H_249 locs_250 ht hvm hu_248 hB hz1 hk1 hS1 => ?_)
            obtain ⟨hr_246, hc_247⟩ := hu_248
            replace hB : va_P D vwCl ws_245 U8.heap := hB
            rw [ht] at hB
            replace hPa := aP_keep hPa hdB hAB hk1
            clear hPw hS
            have hPw := hB
            have hS := hS1
            clear hB hS1 hz1 hk1 hvm ht U8
            have hk_251 : k_aw M_225 (nI (T 11 4)) = 1 := by exact aw_1 (by omega) (by omega) (by omega)
            rw [hk_251] at hr_246
            replace hr_246 : r_244 = (-7100) := hr_246
            subst hr_246
            clear hk_251
            refine lv_sipush (v := (-7100)) hx hb dL_isTold_787 (by decide) ?_
            refine lv_icmp_ne (tgt := 932) hx hb dL_isTold_790 (by decide)  (fun c9 => absurd c9 (by decide)) (fun _ => ?_)
            refine lv_aload_n hx hb dL_isTold_793 rfl (lv_at hl 0 rfl) ?_
            refine lv_iconst (v := (-1)) hx hb dL_isTold_794 (by decide) ?_
            refine va_calli (vx_runSW (As := [.ref h, .int (-1)]) (rest := []) ⟨hx, hb, hml, hown, hts⟩ (cw_isVoid l hst D cI cO cb eA mi st dO dT vF ws_245 hc_247 hM_225 hsI (-1)) (vx_cwSW 2 hts gL_isTold_L_isVoid rfl rfl rfl kd_L_isVoid ⟨Nat.le_of_ble_eq_true rfl, Nat.le_of_ble_eq_true rfl⟩) ⟨kB_blind, kB_pre hK hG hGT hN (fun q h9 => Or.inl h9) hS (fun q h9 => hA q (Nat.le_trans hS.1 h9)) hPw _⟩ rfl rfl hl.1 rfl (lv_room (Nat.le_of_ble_eq_true rfl)) dL_isTold_795 ⟨by show (((((0 + 152 * 4) + 3 * (T 11 4)) + 55 + 1 * (T 11 5)) + 35 * 4) + 1) + 1 ≤ 1000; omega, by show (((((0 + 4477 * 4) + 18 * (T 11 4)) + 442 + 6 * (T 11 5)) + 210 * 4) + 6) + 6 ≤ 21000; omega⟩) hS (fun _ _ h9 => Or.inl h9) (fun _ h9 => Or.inl h9) (fun r_252 ws_253 U8 H_257 locs_258 ht hvm hu_256 hB hz1 hk1 hS1 => ?_)
            obtain ⟨hr_254, hc_255⟩ := hu_256
            replace hB : va_P D vwCl ws_253 U8.heap := hB
            rw [ht] at hB
            replace hPa := aP_keep hPa hdB hAB hk1
            clear hPw hS
            have hPw := hB
            have hS := hS1
            clear hB hS1 hz1 hk1 hvm ht U8
            have hk_259 : k_aw M_225 (-1) = 1 := by exact lin_n (by omega) (by decide)
            rw [hk_259] at hr_254
            replace hr_254 : r_252 = (-7100) := hr_254
            subst hr_254
            clear hk_259
            refine lv_sipush (v := (-7100)) hx hb dL_isTold_798 (by decide) ?_
            refine lv_icmp_ne (tgt := 932) hx hb dL_isTold_801 (by decide)  (fun c9 => absurd c9 (by decide)) (fun _ => ?_)
            refine lv_aload_n hx hb dL_isTold_804 rfl (lv_at hl 0 rfl) ?_
            refine lv_aload hx hb dL_isTold_805 (lv_at hl 12 rfl) ?_
            refine lv_iconst (v := nI 4) hx hb dL_isTold_807 (by decide) ?_
            refine a_iald (f := 11) (n := 7) hx hb hKa hPa rfl (by decide) (by decide) dL_isTold_808 ?_
            refine va_calli (vx_runSW (As := [.ref h, .int (nI (T 11 4))]) (rest := []) ⟨hx, hb, hml, hown, hts⟩ (cw_isFinal l hst D cI cO cb eA mi st dO dT vF ws_253 hc_255 hM_225 hsI (nI (T 11 4))) (vx_cwSW 2 hts gL_isTold_L_isFinal rfl rfl rfl kd_L_isFinal ⟨Nat.le_of_ble_eq_true rfl, Nat.le_of_ble_eq_true rfl⟩) ⟨kB_blind, kB_pre hK hG hGT hN (fun q h9 => Or.inl h9) hS (fun q h9 => hA q (Nat.le_trans hS.1 h9)) hPw _⟩ rfl rfl hl.1 rfl (lv_room (Nat.le_of_ble_eq_true rfl)) dL_isTold_809 ⟨by show ((((((0 + 152 * 4) + 3 * (T 11 4)) + 55 + 1 * (T 11 5)) + 35 * 4) + 1) + 1) + 1 ≤ 1000; omega, by show ((((((0 + 4477 * 4) + 18 * (T 11 4)) + 442 + 6 * (T 11 5)) + 210 * 4) + 6) + 6) + 6 ≤ 21000; omega⟩) hS (fun _ _ h9 => Or.inl h9) (fun _ h9 => Or.inl h9) (fun r_260 ws_261 U8 H_265 locs_266 ht hvm hu_264 hB hz1 hk1 hS1 => ?_)
            obtain ⟨hr_262, hc_263⟩ := hu_264
            replace hB : va_P D vwCl ws_261 U8.heap := hB
            rw [ht] at hB
            replace hPa := aP_keep hPa hdB hAB hk1
            clear hPw hS
            have hPw := hB
            have hS := hS1
            clear hB hS1 hz1 hk1 hvm ht U8
            have hk_267 : k_aw M_225 (nI (T 11 4)) = 1 := by exact aw_1 (by omega) (by omega) (by omega)
            rw [hk_267] at hr_262
            replace hr_262 : r_260 = (-7100) := hr_262
            subst hr_262
            clear hk_267
            refine lv_sipush (v := (-7100)) hx hb dL_isTold_812 (by decide) ?_
            refine lv_icmp_ne (tgt := 932) hx hb dL_isTold_815 (by decide)  (fun c9 => absurd c9 (by decide)) (fun _ => ?_)
            refine lv_aload_n hx hb dL_isTold_818 rfl (lv_at hl 0 rfl) ?_
            refine lv_aload hx hb dL_isTold_819 (lv_at hl 12 rfl) ?_
            refine lv_iconst (v := nI 4) hx hb dL_isTold_821 (by decide) ?_
            refine a_iald (f := 11) (n := 7) hx hb hKa hPa rfl (by decide) (by decide) dL_isTold_822 ?_
            refine va_calli (vx_runSW (As := [.ref h, .int (nI (T 11 4))]) (rest := []) ⟨hx, hb, hml, hown, hts⟩ (cw_line l hst D cI cO cb eA mi st dO dT vF ws_261 hc_263 hM_225 hsI (nI (T 11 4))) (vx_cwSW 2 hts gL_isTold_L_line rfl rfl rfl kd_L_line ⟨Nat.le_of_ble_eq_true rfl, Nat.le_of_ble_eq_true rfl⟩) ⟨kB_blind, kB_pre hK hG hGT hN (fun q h9 => Or.inl h9) hS (fun q h9 => hA q (Nat.le_trans hS.1 h9)) hPw _⟩ rfl rfl hl.1 rfl (lv_room (Nat.le_of_ble_eq_true rfl)) dL_isTold_823 ⟨by show (((((((0 + 152 * 4) + 3 * (T 11 4)) + 55 + 1 * (T 11 5)) + 35 * 4) + 1) + 1) + 1) + 3 ≤ 1000; omega, by show (((((((0 + 4477 * 4) + 18 * (T 11 4)) + 442 + 6 * (T 11 5)) + 210 * 4) + 6) + 6) + 6) + 26 ≤ 21000; omega⟩) hS (fun _ _ h9 => Or.inl h9) (fun _ h9 => Or.inl h9) (fun r_268 ws_269 U8 H_273 locs_274 ht hvm hu_272 hB hz1 hk1 hS1 => ?_)
            obtain ⟨hr_270, hc_271⟩ := hu_272
            replace hB : va_P D vwCl ws_269 U8.heap := hB
            rw [ht] at hB
            replace hPa := aP_keep hPa hdB hAB hk1
            clear hPw hS
            have hPw := hB
            have hS := hS1
            clear hB hS1 hz1 hk1 hvm ht U8
            have hk_275 : k_aw M_225 (nI (T 11 4)) = 1 := by exact aw_1 (by omega) (by omega) (by omega)
            rw [hk_275] at hr_270
            replace hr_270 : r_268 = (-7100) := hr_270
            subst hr_270
            clear hk_275
            have hn_276 : ∀ f, f ∉ [33, 34] → (g_line M_225 (nI (T 11 4))) f = M_225 f := g_line_nf M_225 (nI (T 11 4))
            have hM_276 : MI (g_line M_225 (nI (T 11 4))) := MI_line hM_225 (nI (T 11 4))
            have hLB_276 : m_LB (g_line M_225 (nI (T 11 4))) := (LB_line (nI (T 11 4))).1 hLB_225
            have h15_276 : (g_line M_225 (nI (T 11 4))) 15 0 ≤ n15 := by rw [hn_276 15 (by decide)]; exact h15_225
            have hR_276 : LR (g_line M_225 (nI (T 11 4))) T := hR_225.ln hn_276
            have g4_276 := hR_276.1.2.2.2.2
            generalize g_line M_225 (nI (T 11 4)) = M_276 at hn_276 hM_276 hLB_276 h15_276 hR_276 g4_276 hc_271
            have g3_276 : M_276 3 0 ≤ 2 := hR_276.1.2.2.1
            clear hn_276
            refine lv_sipush (v := (-7100)) hx hb dL_isTold_826 (by decide) ?_
            refine lv_icmp_ne (tgt := 932) hx hb dL_isTold_829 (by decide)  (fun c9 => absurd c9 (by decide)) (fun _ => ?_)
            refine lv_aload_n hx hb dL_isTold_832 rfl (lv_at hl 0 rfl) ?_
            refine lv_iconst (v := (-1)) hx hb dL_isTold_833 (by decide) ?_
            refine lv_iconst (v := nI 0) hx hb dL_isTold_834 (by decide) ?_
            refine va_calli (vx_runSW (As := [.ref h, .int (-1), .int (nI 0)]) (rest := []) ⟨hx, hb, hml, hown, hts⟩ (cw_lineChar l hst D cI cO cb eA mi st dO dT vF ws_269 hc_271 hM_276 hsI (-1) (nI 0)) (vx_cwSW 3 hts gL_isTold_L_lineChar rfl rfl rfl kd_L_lineChar ⟨Nat.le_of_ble_eq_true rfl, Nat.le_of_ble_eq_true rfl⟩) ⟨kB_blind, kB_pre hK hG hGT hN (fun q h9 => Or.inl h9) hS (fun q h9 => hA q (Nat.le_trans hS.1 h9)) hPw _⟩ rfl rfl hl.1 rfl (lv_room (Nat.le_of_ble_eq_true rfl)) dL_isTold_835 ⟨by show ((((((((0 + 152 * 4) + 3 * (T 11 4)) + 55 + 1 * (T 11 5)) + 35 * 4) + 1) + 1) + 1) + 3) + 4 ≤ 1000; omega, by show ((((((((0 + 4477 * 4) + 18 * (T 11 4)) + 442 + 6 * (T 11 5)) + 210 * 4) + 6) + 6) + 6) + 26) + 32 ≤ 21000; omega⟩) hS (fun _ _ h9 => Or.inl h9) (fun _ h9 => Or.inl h9) (fun r_277 ws_278 U8 H_282 locs_283 ht hvm hu_281 hB hz1 hk1 hS1 => ?_)
            obtain ⟨hr_279, hc_280⟩ := hu_281
            replace hB : va_P D vwCl ws_278 U8.heap := hB
            rw [ht] at hB
            replace hPa := aP_keep hPa hdB hAB hk1
            clear hPw hS
            have hPw := hB
            have hS := hS1
            clear hB hS1 hz1 hk1 hvm ht U8
            have hk_284 : k_lineChar M_276 (-1) (nI 0) = 1 := by exact lch_n (by omega) (by decide)
            rw [hk_284] at hr_279
            replace hr_279 : r_277 = (-7100) := hr_279
            subst hr_279
            clear hk_284
            have hn_285 : ∀ f, f ∉ [33, 34] → (g_line M_276 (-1)) f = M_276 f := g_line_nf M_276 (-1)
            have hM_285 : MI (g_line M_276 (-1)) := MI_line hM_276 (-1)
            have hLB_285 : m_LB (g_line M_276 (-1)) := (LB_line (-1)).1 hLB_276
            have h15_285 : (g_line M_276 (-1)) 15 0 ≤ n15 := by rw [hn_285 15 (by decide)]; exact h15_276
            have hR_285 : LR (g_line M_276 (-1)) T := hR_276.ln hn_285
            have g4_285 := hR_285.1.2.2.2.2
            generalize g_line M_276 (-1) = M_285 at hn_285 hM_285 hLB_285 h15_285 hR_285 g4_285 hc_280
            have g3_285 : M_285 3 0 ≤ 2 := hR_285.1.2.2.1
            clear hn_285
            clear hc_271 hM_276 hLB_276 h15_276 hR_276 g4_276 g3_276 ws_269 M_276
            refine lv_sipush (v := (-7100)) hx hb dL_isTold_838 (by decide) ?_
            refine lv_icmp_ne (tgt := 932) hx hb dL_isTold_841 (by decide)  (fun c9 => absurd c9 (by decide)) (fun _ => ?_)
            refine lv_aload_n hx hb dL_isTold_844 rfl (lv_at hl 0 rfl) ?_
            refine lv_aload hx hb dL_isTold_845 (lv_at hl 12 rfl) ?_
            refine lv_iconst (v := nI 5) hx hb dL_isTold_847 (by decide) ?_
            refine a_iald (f := 11) (n := 7) hx hb hKa hPa rfl (by decide) (by decide) dL_isTold_848 ?_
            refine va_calli (vx_runSW (As := [.ref h, .int (nI (T 11 5))]) (rest := []) ⟨hx, hb, hml, hown, hts⟩ (cw_stateOf l hst D cI cO cb eA mi st dO dT vF ws_278 hc_280 hM_285 hsI (nI (T 11 5))) (vx_cwSW 2 hts gL_isTold_L_stateOf rfl rfl rfl kd_L_stateOf ⟨Nat.le_of_ble_eq_true rfl, Nat.le_of_ble_eq_true rfl⟩) ⟨kB_blind, kB_pre hK hG hGT hN (fun q h9 => Or.inl h9) hS (fun q h9 => hA q (Nat.le_trans hS.1 h9)) hPw _⟩ rfl rfl hl.1 rfl (lv_room (Nat.le_of_ble_eq_true rfl)) dL_isTold_849 ⟨by show (((((((((0 + 152 * 4) + 3 * (T 11 4)) + 55 + 1 * (T 11 5)) + 35 * 4) + 1) + 1) + 1) + 3) + 4) + 1 ≤ 1000; omega, by show (((((((((0 + 4477 * 4) + 18 * (T 11 4)) + 442 + 6 * (T 11 5)) + 210 * 4) + 6) + 6) + 6) + 26) + 32) + 6 ≤ 21000; omega⟩) hS (fun _ _ h9 => Or.inl h9) (fun _ h9 => Or.inl h9) (fun r_286 ws_287 U8 H_291 locs_292 ht hvm hu_290 hB hz1 hk1 hS1 => ?_)
            obtain ⟨hr_288, hc_289⟩ := hu_290
            replace hB : va_P D vwCl ws_287 U8.heap := hB
            rw [ht] at hB
            replace hPa := aP_keep hPa hdB hAB hk1
            clear hPw hS
            have hPw := hB
            have hS := hS1
            clear hB hS1 hz1 hk1 hvm ht U8
            have hk_293 : k_co M_285 (nI (T 11 5)) = 1 := by exact co_1 (by omega) (by omega) (by omega)
            rw [hk_293] at hr_288
            replace hr_288 : r_286 = (-7100) := hr_288
            subst hr_288
            clear hk_293
            refine lv_sipush (v := (-7100)) hx hb dL_isTold_852 (by decide) ?_
            refine lv_icmp_ne (tgt := 932) hx hb dL_isTold_855 (by decide)  (fun c9 => absurd c9 (by decide)) (fun _ => ?_)
            refine lv_aload_n hx hb dL_isTold_858 rfl (lv_at hl 0 rfl) ?_
            refine lv_iconst (v := (-1)) hx hb dL_isTold_859 (by decide) ?_
            refine va_calli (vx_runSW (As := [.ref h, .int (-1)]) (rest := []) ⟨hx, hb, hml, hown, hts⟩ (cw_running l hst D cI cO cb eA mi st dO dT vF ws_287 hc_289 hM_285 hsI (-1)) (vx_cwSW 2 hts gL_isTold_L_running rfl rfl rfl kd_L_running ⟨Nat.le_of_ble_eq_true rfl, Nat.le_of_ble_eq_true rfl⟩) ⟨kB_blind, kB_pre hK hG hGT hN (fun q h9 => Or.inl h9) hS (fun q h9 => hA q (Nat.le_trans hS.1 h9)) hPw _⟩ rfl rfl hl.1 rfl (lv_room (Nat.le_of_ble_eq_true rfl)) dL_isTold_860 ⟨by show ((((((((((0 + 152 * 4) + 3 * (T 11 4)) + 55 + 1 * (T 11 5)) + 35 * 4) + 1) + 1) + 1) + 3) + 4) + 1) + 1 ≤ 1000; omega, by show ((((((((((0 + 4477 * 4) + 18 * (T 11 4)) + 442 + 6 * (T 11 5)) + 210 * 4) + 6) + 6) + 6) + 26) + 32) + 6) + 6 ≤ 21000; omega⟩) hS (fun _ _ h9 => Or.inl h9) (fun _ h9 => Or.inl h9) (fun r_294 ws_295 U8 H_299 locs_300 ht hvm hu_298 hB hz1 hk1 hS1 => ?_)
            obtain ⟨hr_296, hc_297⟩ := hu_298
            replace hB : va_P D vwCl ws_295 U8.heap := hB
            rw [ht] at hB
            replace hPa := aP_keep hPa hdB hAB hk1
            clear hPw hS
            have hPw := hB
            have hS := hS1
            clear hB hS1 hz1 hk1 hvm ht U8
            have hk_301 : k_ct M_285 (-1) = 1 := by exact ct_n (by omega) (by decide)
            rw [hk_301] at hr_296
            replace hr_296 : r_294 = (-7100) := hr_296
            subst hr_296
            clear hk_301
            refine lv_sipush (v := (-7100)) hx hb dL_isTold_863 (by decide) ?_
            refine lv_icmp_ne (tgt := 932) hx hb dL_isTold_866 (by decide)  (fun c9 => absurd c9 (by decide)) (fun _ => ?_)
            refine lv_aload_n hx hb dL_isTold_869 rfl (lv_at hl 0 rfl) ?_
            refine lv_bipush (v := nI 8) hx hb dL_isTold_870 (by decide) ?_
            refine va_calli (vx_runSW (As := [.ref h, .int (nI 8)]) (rest := []) ⟨hx, hb, hml, hown, hts⟩ (cw_owes l hst D cI cO cb eA mi st dO dT vF ws_295 hc_297 hM_285 hsI (nI 8)) (vx_cwSW 2 hts gL_isTold_L_owes rfl rfl rfl kd_L_owes ⟨Nat.le_of_ble_eq_true rfl, Nat.le_of_ble_eq_true rfl⟩) ⟨kB_blind, kB_pre hK hG hGT hN (fun q h9 => Or.inl h9) hS (fun q h9 => hA q (Nat.le_trans hS.1 h9)) hPw _⟩ rfl rfl hl.1 rfl (lv_room (Nat.le_of_ble_eq_true rfl)) dL_isTold_872 ⟨by show (((((((((((0 + 152 * 4) + 3 * (T 11 4)) + 55 + 1 * (T 11 5)) + 35 * 4) + 1) + 1) + 1) + 3) + 4) + 1) + 1) + 1 ≤ 1000; omega, by show (((((((((((0 + 4477 * 4) + 18 * (T 11 4)) + 442 + 6 * (T 11 5)) + 210 * 4) + 6) + 6) + 6) + 26) + 32) + 6) + 6) + 6 ≤ 21000; omega⟩) hS (fun _ _ h9 => Or.inl h9) (fun _ h9 => Or.inl h9) (fun r_302 ws_303 U8 H_307 locs_308 ht hvm hu_306 hB hz1 hk1 hS1 => ?_)
            obtain ⟨hr_304, hc_305⟩ := hu_306
            replace hB : va_P D vwCl ws_303 U8.heap := hB
            rw [ht] at hB
            replace hPa := aP_keep hPa hdB hAB hk1
            clear hPw hS
            have hPw := hB
            have hS := hS1
            clear hB hS1 hz1 hk1 hvm ht U8
            have hk_309 : k_b (nI 8) = 1 := by exact kb_1 (by omega) (by omega)
            rw [hk_309] at hr_304
            replace hr_304 : r_302 = (-7100) := hr_304
            subst hr_304
            clear hk_309
            refine lv_sipush (v := (-7100)) hx hb dL_isTold_875 (by decide) ?_
            refine lv_icmp_ne (tgt := 932) hx hb dL_isTold_878 (by decide)  (fun c9 => absurd c9 (by decide)) (fun _ => ?_)
            refine lv_aload_n hx hb dL_isTold_881 rfl (lv_at hl 0 rfl) ?_
            refine lv_iconst (v := (-1)) hx hb dL_isTold_882 (by decide) ?_
            refine va_calli (vx_runSW (As := [.ref h, .int (-1)]) (rest := []) ⟨hx, hb, hml, hown, hts⟩ (cw_held l hst D cI cO cb eA mi st dO dT vF ws_303 hc_305 hM_285 hsI (-1)) (vx_cwSW 2 hts gL_isTold_L_held rfl rfl rfl kd_L_held ⟨Nat.le_of_ble_eq_true rfl, Nat.le_of_ble_eq_true rfl⟩) ⟨kB_blind, kB_pre hK hG hGT hN (fun q h9 => Or.inl h9) hS (fun q h9 => hA q (Nat.le_trans hS.1 h9)) hPw _⟩ rfl rfl hl.1 rfl (lv_room (Nat.le_of_ble_eq_true rfl)) dL_isTold_883 ⟨by show ((((((((((((0 + 152 * 4) + 3 * (T 11 4)) + 55 + 1 * (T 11 5)) + 35 * 4) + 1) + 1) + 1) + 3) + 4) + 1) + 1) + 1) + 1 ≤ 1000; omega, by show ((((((((((((0 + 4477 * 4) + 18 * (T 11 4)) + 442 + 6 * (T 11 5)) + 210 * 4) + 6) + 6) + 6) + 26) + 32) + 6) + 6) + 6) + 6 ≤ 21000; omega⟩) hS (fun _ _ h9 => Or.inl h9) (fun _ h9 => Or.inl h9) (fun r_310 ws_311 U8 H_315 locs_316 ht hvm hu_314 hB hz1 hk1 hS1 => ?_)
            obtain ⟨hr_312, hc_313⟩ := hu_314
            replace hB : va_P D vwCl ws_311 U8.heap := hB
            rw [ht] at hB
            replace hPa := aP_keep hPa hdB hAB hk1
            clear hPw hS
            have hPw := hB
            have hS := hS1
            clear hB hS1 hz1 hk1 hvm ht U8
            have hk_317 : k_b (-1) = 1 := by exact kb_n (by decide)
            rw [hk_317] at hr_312
            replace hr_312 : r_310 = (-7100) := hr_312
            subst hr_312
            clear hk_317
            refine lv_sipush (v := (-7100)) hx hb dL_isTold_886 (by decide) ?_
            refine lv_icmp_ne (tgt := 932) hx hb dL_isTold_889 (by decide)  (fun c9 => absurd c9 (by decide)) (fun _ => ?_)
            refine lv_aload_n hx hb dL_isTold_892 rfl (lv_at hl 0 rfl) ?_
            refine lv_ldc (v := nI 2147483647) hx hb hown (hts (.constant RL 233 (2147483647)) (List.mem_of_getElem? (i := 1) rfl)) dL_isTold_893 ?_
            refine va_calli (vx_runSW (As := [.ref h, .int (nI 2147483647)]) (rest := []) ⟨hx, hb, hml, hown, hts⟩ (cw_lost l hst D cI cO cb eA mi st dO dT vF ws_311 hc_313 hM_285 hsI (nI 2147483647)) (vx_cwSW 2 hts gL_isTold_L_lost rfl rfl rfl kd_L_lost ⟨Nat.le_of_ble_eq_true rfl, Nat.le_of_ble_eq_true rfl⟩) ⟨kB_blind, kB_pre hK hG hGT hN (fun q h9 => Or.inl h9) hS (fun q h9 => hA q (Nat.le_trans hS.1 h9)) hPw _⟩ rfl rfl hl.1 rfl (lv_room (Nat.le_of_ble_eq_true rfl)) dL_isTold_895 ⟨by show (((((((((((((0 + 152 * 4) + 3 * (T 11 4)) + 55 + 1 * (T 11 5)) + 35 * 4) + 1) + 1) + 1) + 3) + 4) + 1) + 1) + 1) + 1) + 1 ≤ 1000; omega, by show (((((((((((((0 + 4477 * 4) + 18 * (T 11 4)) + 442 + 6 * (T 11 5)) + 210 * 4) + 6) + 6) + 6) + 26) + 32) + 6) + 6) + 6) + 6) + 6 ≤ 21000; omega⟩) hS (fun _ _ h9 => Or.inl h9) (fun _ h9 => Or.inl h9) (fun r_318 ws_319 U8 H_323 locs_324 ht hvm hu_322 hB hz1 hk1 hS1 => ?_)
            obtain ⟨hr_320, hc_321⟩ := hu_322
            replace hB : va_P D vwCl ws_319 U8.heap := hB
            rw [ht] at hB
            replace hPa := aP_keep hPa hdB hAB hk1
            clear hPw hS
            have hPw := hB
            have hS := hS1
            clear hB hS1 hz1 hk1 hvm ht U8
            have hk_325 : k_b (nI 2147483647) = 1 := by exact kb_1 (by decide) (by decide)
            rw [hk_325] at hr_320
            replace hr_320 : r_318 = (-7100) := hr_320
            subst hr_320
            clear hk_325
            refine lv_sipush (v := (-7100)) hx hb dL_isTold_898 (by decide) ?_
            refine lv_icmp_ne (tgt := 932) hx hb dL_isTold_901 (by decide)  (fun c9 => absurd c9 (by decide)) (fun _ => ?_)
            refine lv_aload_n hx hb dL_isTold_904 rfl (lv_at hl 0 rfl) ?_
            refine lv_iconst (v := nI 2) hx hb dL_isTold_905 (by decide) ?_
            refine lv_iconst (v := nI 0) hx hb dL_isTold_906 (by decide) ?_
            refine va_calli (vx_runSW (As := [.ref h, .int (nI 2), .int (nI 0)]) (rest := []) ⟨hx, hb, hml, hown, hts⟩ (cw_winnerAnew l hst D cI cO cb eA mi st dO dT vF ws_319 hc_321 hM_285 hsI (nI 2) (nI 0)) (vx_cwSW 3 hts gL_isTold_L_winnerAnew rfl rfl rfl kd_L_winnerAnew ⟨Nat.le_of_ble_eq_true rfl, Nat.le_of_ble_eq_true rfl⟩) ⟨kB_blind, kB_pre hK hG hGT hN (fun q h9 => Or.inl h9) hS (fun q h9 => hA q (Nat.le_trans hS.1 h9)) hPw _⟩ rfl rfl hl.1 rfl (lv_room (Nat.le_of_ble_eq_true rfl)) dL_isTold_907 ⟨by show ((((((((((((((0 + 152 * 4) + 3 * (T 11 4)) + 55 + 1 * (T 11 5)) + 35 * 4) + 1) + 1) + 1) + 3) + 4) + 1) + 1) + 1) + 1) + 1) + 21 ≤ 1000; omega, by show ((((((((((((((0 + 4477 * 4) + 18 * (T 11 4)) + 442 + 6 * (T 11 5)) + 210 * 4) + 6) + 6) + 6) + 26) + 32) + 6) + 6) + 6) + 6) + 6) + 839 ≤ 21000; omega⟩) hS (fun _ _ h9 => Or.inl h9) (fun _ h9 => Or.inl h9) (fun r_326 ws_327 U8 H_331 locs_332 ht hvm hu_330 hB hz1 hk1 hS1 => ?_)
            obtain ⟨hr_328, hc_329⟩ := hu_330
            replace hB : va_P D vwCl ws_327 U8.heap := hB
            rw [ht] at hB
            replace hPa := aP_keep hPa hdB hAB hk1
            clear hPw hS
            have hPw := hB
            have hS := hS1
            clear hB hS1 hz1 hk1 hvm ht U8
            have hk_333 : k_lot M_285 (nI 2) (nI 0) = 1 := by exact lotk_1 (m_isLot_t (by omega) (by omega) (by omega))
            rw [hk_333] at hr_328
            replace hr_328 : r_326 = (-7100) := hr_328
            subst hr_328
            clear hk_333
            refine lv_sipush (v := (-7100)) hx hb dL_isTold_910 (by decide) ?_
            refine lv_icmp_ne (tgt := 932) hx hb dL_isTold_913 (by decide)  (fun c9 => absurd c9 (by decide)) (fun _ => ?_)
            refine lv_aload_n hx hb dL_isTold_916 rfl (lv_at hl 0 rfl) ?_
            refine lv_iconst (v := (-1)) hx hb dL_isTold_917 (by decide) ?_
            refine lv_iconst (v := nI 0) hx hb dL_isTold_918 (by decide) ?_
            refine va_calli (vx_runSW (As := [.ref h, .int (-1), .int (nI 0)]) (rest := []) ⟨hx, hb, hml, hown, hts⟩ (cw_awardOf l hst D cI cO cb eA mi st dO dT vF ws_327 hc_329 hM_285 hsI (-1) (nI 0)) (vx_cwSW 3 hts gL_isTold_L_awardOf rfl rfl rfl kd_L_awardOf ⟨Nat.le_of_ble_eq_true rfl, Nat.le_of_ble_eq_true rfl⟩) ⟨kB_blind, kB_pre hK hG hGT hN (fun q h9 => Or.inl h9) hS (fun q h9 => hA q (Nat.le_trans hS.1 h9)) hPw _⟩ rfl rfl hl.1 rfl (lv_room (Nat.le_of_ble_eq_true rfl)) dL_isTold_919 ⟨by show (((((((((((((((0 + 152 * 4) + 3 * (T 11 4)) + 55 + 1 * (T 11 5)) + 35 * 4) + 1) + 1) + 1) + 3) + 4) + 1) + 1) + 1) + 1) + 1) + 21) + 2 ≤ 1000; omega, by show (((((((((((((((0 + 4477 * 4) + 18 * (T 11 4)) + 442 + 6 * (T 11 5)) + 210 * 4) + 6) + 6) + 6) + 26) + 32) + 6) + 6) + 6) + 6) + 6) + 839) + 12 ≤ 21000; omega⟩) hS (fun _ _ h9 => Or.inl h9) (fun _ h9 => Or.inl h9) (fun r_334 ws_335 U8 H_339 locs_340 ht hvm hu_338 hB hz1 hk1 hS1 => ?_)
            obtain ⟨hr_336, hc_337⟩ := hu_338
            replace hB : va_P D vwCl ws_335 U8.heap := hB
            rw [ht] at hB
            replace hPa := aP_keep hPa hdB hAB hk1
            clear hPw hS
            have hPw := hB
            have hS := hS1
            clear hB hS1 hz1 hk1 hvm ht U8
            have hk_341 : k_lot M_285 (-1) (nI 0) = 1 := by exact lotk_1 (m_isLot_n (by omega) (by decide))
            rw [hk_341] at hr_336
            replace hr_336 : r_334 = (-7100) := hr_336
            subst hr_336
            clear hk_341
            refine lv_sipush (v := (-7100)) hx hb dL_isTold_922 (by decide) ?_
            refine lv_icmp_ne (tgt := 932) hx hb dL_isTold_925 (by decide)  (fun c9 => absurd c9 (by decide)) (fun _ => ?_)
            refine lv_iconst (v := nI 1) hx hb dL_isTold_928 (by decide) ?_
            refine lv_goto (tgt := 933) hx hb dL_isTold_929 (by decide) ?_
            refine W.widen (k := 1000) (n := 21000) (by omega) (by omega) ?_
            exact W.zret (v := nI 1) hx hb hr rfl (fun U9 ht9 hW9 => ⟨⟨_, (ws_335, M_285), rfl, ⟨rfl, hc_337, hM_285, hLB_285, h15_285, hR_285⟩, by show va_P D vwCl _ U9.heap ∧ va_P D vwCl _ U9.heap; rw [ht9]; exact ⟨hPw, hPa⟩⟩, hS.F ht9⟩) hS.2.2 dL_isTold_933
          · refine lv_iconst (v := nI 0) hx hb dL_isTold_493 (by decide) ?_
            refine lv_istore (lv' := [(14, .int (nI 0)), (0, .ref h), (1, .int y), (2, .ref (ad 1)), (3, .ref (ad 2)), (4, .ref (ad 3)), (5, .ref (ad 4)), (6, .ref (ad 5)), (7, .ref (ad 6)), (8, .ref (ad 7)), (9, .ref (ad 8)), (10, .ref (ad 9)), (11, .ref (ad 10)), (12, .ref (ad 11)), (13, .int (nI b))]) hx hb dL_isTold_494 hl (by decide) rfl (fun ls hl => ?_)
            refine lv_iconst (v := nI 0) hx hb dL_isTold_496 (by decide) ?_
            refine lv_istore (lv' := [(15, .int (nI 0)), (14, .int (nI 0)), (0, .ref h), (1, .int y), (2, .ref (ad 1)), (3, .ref (ad 2)), (4, .ref (ad 3)), (5, .ref (ad 4)), (6, .ref (ad 5)), (7, .ref (ad 6)), (8, .ref (ad 7)), (9, .ref (ad 8)), (10, .ref (ad 9)), (11, .ref (ad 10)), (12, .ref (ad 11)), (13, .int (nI b))]) hx hb dL_isTold_497 hl (by decide) rfl (fun ls hl => ?_)
            refine lv_iconst (v := nI 0) hx hb dL_isTold_499 (by decide) ?_
            refine lv_istore (lv' := [(16, .int (nI 0)), (15, .int (nI 0)), (14, .int (nI 0)), (0, .ref h), (1, .int y), (2, .ref (ad 1)), (3, .ref (ad 2)), (4, .ref (ad 3)), (5, .ref (ad 4)), (6, .ref (ad 5)), (7, .ref (ad 6)), (8, .ref (ad 7)), (9, .ref (ad 8)), (10, .ref (ad 9)), (11, .ref (ad 10)), (12, .ref (ad 11)), (13, .int (nI b))]) hx hb dL_isTold_500 hl (by decide) rfl (fun ls hl => ?_)
            have eI_342 : t_owf T b 0 = 0 := by rfl
            refine W.widen (k := ((((0 + 152 * 4) + 3 * (T 11 4)) + 55 + 1 * (T 11 5)) + 35 * b) + 1 * 0) (n := ((((0 + 4477 * 4) + 18 * (T 11 4)) + 442 + 6 * (T 11 5)) + 210 * b) + 6 * 0) (by omega) (by omega) ?_
            refine w_loopX (σ := va_W) (n := T 11 6) (nL := 19) (fun k _ => [(0, .ref h), (1, .int y), (2, .ref (ad 1)), (3, .ref (ad 2)), (4, .ref (ad 3)), (5, .ref (ad 4)), (6, .ref (ad 5)), (7, .ref (ad 6)), (8, .ref (ad 7)), (9, .ref (ad 8)), (10, .ref (ad 9)), (11, .ref (ad 10)), (12, .ref (ad 11)), (13, .int (nI b)), (14, .int (nI (t_owf T b k))), (15, .int (nI 0)), (16, .int (nI k))]) (fun k ws9 H9 locs9 => va_P D vwCl ws9 H9 ∧ cSt cI cO eA st A h M_225 ws9 ∧ va_P D vwCl (aws ad cI T) H9 ∧ va_S (fun q => A q ∨ B q) s.heap H9 locs9) (fun k => ((((0 + 152 * 4) + 3 * (T 11 4)) + 55 + 1 * (T 11 5)) + 35 * b) + 1 * k) (fun k => ((((0 + 4477 * 4) + 18 * (T 11 4)) + 442 + 6 * (T 11 5)) + 210 * b) + 6 * k) (fun k hb_343 ws_345 H_347 locs_348 hJ_346 ih_344 ls hl => ?_) 0 (by omega) ws_236 _ _ ⟨hPw, hc_240, hPa, hS⟩ ls (lv_sub hl [3, 4, 5, 6, 7, 8, 9, 10, 11, 12, 13, 14, 15, 16, 2, 1, 0] (by show lv_pick _ _ = [(0, .ref h), (1, .int y), (2, .ref (ad 1)), (3, .ref (ad 2)), (4, .ref (ad 3)), (5, .ref (ad 4)), (6, .ref (ad 5)), (7, .ref (ad 6)), (8, .ref (ad 7)), (9, .ref (ad 8)), (10, .ref (ad 9)), (11, .ref (ad 10)), (12, .ref (ad 11)), (13, .int (nI b)), (14, .int (nI (t_owf T b 0))), (15, .int (nI 0)), (16, .int (nI 0))]; rw [eI_342]; rfl))
            clear hPw hPa hS
            obtain ⟨hPw, hc_349, hPa, hS⟩ := hJ_346
            show W _ _ _ _ _ _ _ _ _ _ _ _ (((((0 + 152 * 4) + 3 * (T 11 4)) + 55 + 1 * (T 11 5)) + 35 * b) + 1 * k) (((((0 + 4477 * 4) + 18 * (T 11 4)) + 442 + 6 * (T 11 5)) + 210 * b) + 6 * k) _ _
            refine lv_iload hx hb dL_isTold_502 (lv_at hl 16 rfl) ?_
            refine lv_aload hx hb dL_isTold_504 (lv_at hl 12 rfl) ?_
            refine lv_bipush (v := nI 6) hx hb dL_isTold_506 (by decide) ?_
            refine a_iald (f := 11) (n := 7) hx hb hKa hPa rfl (by decide) (by decide) dL_isTold_508 ?_
            refine n_icmp_ge (tgt := 609) hx hb dL_isTold_509 (by decide) (by omega) (by have f1 : T 11 6 ≤ 2000 := hT.1 11 6; have f2 : T 11 6 ≤ 32 := hT.2.2.2.2.2; omega) (fun c_350 => ?_) (fun c_350 => ?_)
            · obtain rfl : T 11 6 = k := by omega
              refine lv_iconst (v := nI 0) hx hb dL_isTold_609 (by decide) ?_
              refine lv_istore (lv' := [(16, .int (nI 0)), (0, .ref h), (1, .int y), (2, .ref (ad 1)), (3, .ref (ad 2)), (4, .ref (ad 3)), (5, .ref (ad 4)), (6, .ref (ad 5)), (7, .ref (ad 6)), (8, .ref (ad 7)), (9, .ref (ad 8)), (10, .ref (ad 9)), (11, .ref (ad 10)), (12, .ref (ad 11)), (13, .int (nI b)), (14, .int (nI (t_owf T b (T 11 6)))), (15, .int (nI 0))]) hx hb dL_isTold_610 hl (by decide) rfl (fun ls hl => ?_)
              have eI_351 : t_hdf T b 0 = 0 := by rfl
              refine w_loop (e := 4) (nL := 19) (fun j => [(0, .ref h), (1, .int y), (2, .ref (ad 1)), (3, .ref (ad 2)), (4, .ref (ad 3)), (5, .ref (ad 4)), (6, .ref (ad 5)), (7, .ref (ad 6)), (8, .ref (ad 7)), (9, .ref (ad 8)), (10, .ref (ad 9)), (11, .ref (ad 10)), (12, .ref (ad 11)), (13, .int (nI b)), (14, .int (nI (t_owf T b (T 11 6)))), (15, .int (nI (t_hdf T b j))), (16, .int (nI j))]) (fun j hb_353 ih_352 ls hl => ?_) 0 (by omega) ls (lv_sub hl [1, 2, 3, 4, 5, 6, 7, 8, 9, 10, 11, 12, 13, 14, 15, 16, 0] (by show lv_pick _ _ = [(0, .ref h), (1, .int y), (2, .ref (ad 1)), (3, .ref (ad 2)), (4, .ref (ad 3)), (5, .ref (ad 4)), (6, .ref (ad 5)), (7, .ref (ad 6)), (8, .ref (ad 7)), (9, .ref (ad 8)), (10, .ref (ad 9)), (11, .ref (ad 10)), (12, .ref (ad 11)), (13, .int (nI b)), (14, .int (nI (t_owf T b (T 11 6)))), (15, .int (nI (t_hdf T b 0))), (16, .int (nI 0))]; rw [eI_351]; rfl))
              refine lv_iload hx hb dL_isTold_612 (lv_at hl 16 rfl) ?_
              refine lv_iconst (v := nI 4) hx hb dL_isTold_614 (by decide) ?_
              refine n_icmp_ge (tgt := 724) hx hb dL_isTold_615 (by decide) (by omega) (by decide) (fun c_355 => ?_) (fun c_355 => ?_)
              · obtain rfl : 4 = j := by omega
                refine lv_aload_n hx hb dL_isTold_724 rfl (lv_at hl 0 rfl) ?_
                refine lv_iload hx hb dL_isTold_725 (lv_at hl 13 rfl) ?_
                refine va_calli (vx_runSW (As := [.ref h, .int (nI b)]) (rest := []) ⟨hx, hb, hml, hown, hts⟩ (cw_owes l hst D cI cO cb eA mi st dO dT vF ws_345 hc_349 hM_225 hsI (nI b)) (vx_cwSW 2 hts gL_isTold_L_owes rfl rfl rfl kd_L_owes ⟨Nat.le_of_ble_eq_true rfl, Nat.le_of_ble_eq_true rfl⟩) ⟨kB_blind, kB_pre hK hG hGT hN (fun q h9 => Or.inl h9) hS (fun q h9 => hA q (Nat.le_trans hS.1 h9)) hPw _⟩ rfl rfl hl.1 rfl (lv_room (Nat.le_of_ble_eq_true rfl)) dL_isTold_727 ⟨by show (((((0 + 152 * 4) + 3 * (T 11 4)) + 55 + 1 * (T 11 5)) + 35 * b) + 1 * (T 11 6)) + 1 ≤ 1000; omega, by show (((((0 + 4477 * 4) + 18 * (T 11 4)) + 442 + 6 * (T 11 5)) + 210 * b) + 6 * (T 11 6)) + 6 ≤ 21000; omega⟩) hS (fun _ _ h9 => Or.inl h9) (fun _ h9 => Or.inl h9) (fun r_356 ws_357 U8 H_361 locs_362 ht hvm hu_360 hB hz1 hk1 hS1 => ?_)
                obtain ⟨hr_358, hc_359⟩ := hu_360
                replace hB : va_P D vwCl ws_357 U8.heap := hB
                rw [ht] at hB
                replace hPa := aP_keep hPa hdB hAB hk1
                clear hPw hS
                have hPw := hB
                have hS := hS1
                clear hB hS1 hz1 hk1 hvm ht U8
                have hv9 : er (k_b (nI b)) (r_owes M_225 (nI b)) = nI (t_owf T b (T 11 6)) := by exact hR_225.q_ow hM_225 (by omega) (by omega)
                rw [hv9] at hr_358
                clear hv9
                subst hr_358
                refine lv_iload hx hb dL_isTold_730 (lv_at hl 14 rfl) ?_
                refine n_icmp_ne (tgt := 760) hx hb dL_isTold_732 (by decide) (by have f1 : t_owf T b (T 11 6) ≤ 131072 * T 11 6 := t_owf_le hT.1 b (T 11 6); omega) (by have f1 : t_owf T b (T 11 6) ≤ 131072 * T 11 6 := t_owf_le hT.1 b (T 11 6); omega) (fun c_363 => absurd (by omega) c_363) (fun c_363 => ?_)
                refine lv_aload_n hx hb dL_isTold_735 rfl (lv_at hl 0 rfl) ?_
                refine lv_iload hx hb dL_isTold_736 (lv_at hl 13 rfl) ?_
                refine va_calli (vx_runSW (As := [.ref h, .int (nI b)]) (rest := []) ⟨hx, hb, hml, hown, hts⟩ (cw_held l hst D cI cO cb eA mi st dO dT vF ws_357 hc_359 hM_225 hsI (nI b)) (vx_cwSW 2 hts gL_isTold_L_held rfl rfl rfl kd_L_held ⟨Nat.le_of_ble_eq_true rfl, Nat.le_of_ble_eq_true rfl⟩) ⟨kB_blind, kB_pre hK hG hGT hN (fun q h9 => Or.inl h9) hS (fun q h9 => hA q (Nat.le_trans hS.1 h9)) hPw _⟩ rfl rfl hl.1 rfl (lv_room (Nat.le_of_ble_eq_true rfl)) dL_isTold_738 ⟨by show ((((((0 + 152 * 4) + 3 * (T 11 4)) + 55 + 1 * (T 11 5)) + 35 * b) + 1 * (T 11 6)) + 1) + 1 ≤ 1000; omega, by show ((((((0 + 4477 * 4) + 18 * (T 11 4)) + 442 + 6 * (T 11 5)) + 210 * b) + 6 * (T 11 6)) + 6) + 6 ≤ 21000; omega⟩) hS (fun _ _ h9 => Or.inl h9) (fun _ h9 => Or.inl h9) (fun r_364 ws_365 U8 H_369 locs_370 ht hvm hu_368 hB hz1 hk1 hS1 => ?_)
                obtain ⟨hr_366, hc_367⟩ := hu_368
                replace hB : va_P D vwCl ws_365 U8.heap := hB
                rw [ht] at hB
                replace hPa := aP_keep hPa hdB hAB hk1
                clear hPw hS
                have hPw := hB
                have hS := hS1
                clear hB hS1 hz1 hk1 hvm ht U8
                have hv9 : er (k_b (nI b)) (r_held M_225 (nI b)) = nI (t_hdf T b 4) := by exact hR_225.q_he hM_225 hU_225 hRS_225 (by omega)
                rw [hv9] at hr_366
                clear hv9
                subst hr_366
                refine lv_iload hx hb dL_isTold_741 (lv_at hl 15 rfl) ?_
                refine n_icmp_ne (tgt := 760) hx hb dL_isTold_743 (by decide) (by have f1 : t_hdf T b 4 ≤ 10001 * 4 := t_hdf_le hT.1 b 4; omega) (by have f1 : t_hdf T b 4 ≤ 10001 * 4 := t_hdf_le hT.1 b 4; omega) (fun c_371 => absurd (by omega) c_371) (fun c_371 => ?_)
                refine lv_aload_n hx hb dL_isTold_746 rfl (lv_at hl 0 rfl) ?_
                refine lv_iload hx hb dL_isTold_747 (lv_at hl 13 rfl) ?_
                refine va_calli (vx_runSW (As := [.ref h, .int (nI b)]) (rest := []) ⟨hx, hb, hml, hown, hts⟩ (cw_lost l hst D cI cO cb eA mi st dO dT vF ws_365 hc_367 hM_225 hsI (nI b)) (vx_cwSW 2 hts gL_isTold_L_lost rfl rfl rfl kd_L_lost ⟨Nat.le_of_ble_eq_true rfl, Nat.le_of_ble_eq_true rfl⟩) ⟨kB_blind, kB_pre hK hG hGT hN (fun q h9 => Or.inl h9) hS (fun q h9 => hA q (Nat.le_trans hS.1 h9)) hPw _⟩ rfl rfl hl.1 rfl (lv_room (Nat.le_of_ble_eq_true rfl)) dL_isTold_749 ⟨by show (((((((0 + 152 * 4) + 3 * (T 11 4)) + 55 + 1 * (T 11 5)) + 35 * b) + 1 * (T 11 6)) + 1) + 1) + 1 ≤ 1000; omega, by show (((((((0 + 4477 * 4) + 18 * (T 11 4)) + 442 + 6 * (T 11 5)) + 210 * b) + 6 * (T 11 6)) + 6) + 6) + 6 ≤ 21000; omega⟩) hS (fun _ _ h9 => Or.inl h9) (fun _ h9 => Or.inl h9) (fun r_372 ws_373 U8 H_377 locs_378 ht hvm hu_376 hB hz1 hk1 hS1 => ?_)
                obtain ⟨hr_374, hc_375⟩ := hu_376
                replace hB : va_P D vwCl ws_373 U8.heap := hB
                rw [ht] at hB
                replace hPa := aP_keep hPa hdB hAB hk1
                clear hPw hS
                have hPw := hB
                have hS := hS1
                clear hB hS1 hz1 hk1 hvm ht U8
                have hv9 : er (k_b (nI b)) (r_lost M_225 (nI b)) = nI (T 10 b) := by exact hR_225.q_lo (by omega)
                rw [hv9] at hr_374
                clear hv9
                subst hr_374
                refine lv_aload hx hb dL_isTold_752 (lv_at hl 11 rfl) ?_
                refine lv_iload hx hb dL_isTold_754 (lv_at hl 13 rfl) ?_
                refine a_iald (f := 10) (n := 4) hx hb hKa hPa rfl (by omega) (by decide) dL_isTold_756 ?_
                refine n_icmp_eq (tgt := 762) hx hb dL_isTold_757 (by decide) (by have f1 : T 10 b ≤ 1200000000 := hT.1 10 b; omega) (by have f1 : T 10 b ≤ 1200000000 := hT.1 10 b; omega) (fun c_379 => ?_) (fun c_379 => absurd (by omega) c_379)
                refine n_iinc (k := 13) (lv' := [(13, .int (nI (b + 1))), (0, .ref h), (1, .int y), (2, .ref (ad 1)), (3, .ref (ad 2)), (4, .ref (ad 3)), (5, .ref (ad 4)), (6, .ref (ad 5)), (7, .ref (ad 6)), (8, .ref (ad 7)), (9, .ref (ad 8)), (10, .ref (ad 9)), (11, .ref (ad 10)), (12, .ref (ad 11)), (14, .int (nI (t_owf T b (T 11 6)))), (15, .int (nI (t_hdf T b 4))), (16, .int (nI 4))]) hx hb dL_isTold_762 hl rfl (by decide) rfl (fun ls hl => ?_)
                refine lv_goto (tgt := 487) hx hb dL_isTold_765 (by decide) ?_
                refine W.widen (k := (((0 + 152 * 4) + 3 * (T 11 4)) + 55 + 1 * (T 11 5)) + 35 * (b + 1)) (n := (((0 + 4477 * 4) + 18 * (T 11 4)) + 442 + 6 * (T 11 5)) + 210 * (b + 1)) (by omega) (by omega) ?_
                refine ih_235 (by omega) ws_373 _ _ ⟨hPw, hc_375, hPa, hS⟩ ls ?_
                show lv_has ls 19 [(0, .ref h), (1, .int y), (2, .ref (ad 1)), (3, .ref (ad 2)), (4, .ref (ad 3)), (5, .ref (ad 4)), (6, .ref (ad 5)), (7, .ref (ad 6)), (8, .ref (ad 7)), (9, .ref (ad 8)), (10, .ref (ad 9)), (11, .ref (ad 10)), (12, .ref (ad 11)), (13, .int (nI (b + 1)))]
                exact lv_sub hl [1, 2, 3, 4, 5, 6, 7, 8, 9, 10, 11, 12, 13, 0] rfl
              · refine lv_aload hx hb dL_isTold_618 (lv_at hl 8 rfl) ?_
                refine lv_aload hx hb dL_isTold_620 (lv_at hl 12 rfl) ?_
                refine lv_iload hx hb dL_isTold_622 (lv_at hl 16 rfl) ?_
                refine vp_callSi (W.runS (As := [.ref (ad 7), .ref (ad 11), .int (nI j)]) (rest := []) ⟨hx, hb, hml, hown, hts⟩ (ch_standing l D ad cI T hT j (by omega)) (va_cwS 3 hts gL_isTold_L_standing rfl rfl rfl kd_L_standing ⟨Nat.le_of_ble_eq_true rfl, Nat.le_of_ble_eq_true rfl⟩) ⟨aB_blind, a_pre hKa hPa _⟩ rfl rfl hl.1 rfl (lv_room (Nat.le_of_ble_eq_true rfl)) dL_isTold_624 ⟨by show (((((0 + 152 * 4) + 3 * (T 11 4)) + 55 + 1 * (T 11 5)) + 35 * b) + 1 * (T 11 6)) + 0 ≤ 1000; omega, by show (((((0 + 4477 * 4) + 18 * (T 11 4)) + 442 + 6 * (T 11 5)) + 210 * b) + 6 * (T 11 6)) + 0 ≤ 21000; omega⟩) (fun r_380 hr_380 => ?_)
                subst hr_380
                rcases ho_381 : t_st T j with _ | o_381
                · have hn1 : optI (none : Option Nat) = (-1) := rfl
                  rw [hn1]
                  refine lv_istore (lv' := [(17, .int (-1)), (0, .ref h), (1, .int y), (2, .ref (ad 1)), (3, .ref (ad 2)), (4, .ref (ad 3)), (5, .ref (ad 4)), (6, .ref (ad 5)), (7, .ref (ad 6)), (8, .ref (ad 7)), (9, .ref (ad 8)), (10, .ref (ad 9)), (11, .ref (ad 10)), (12, .ref (ad 11)), (13, .int (nI b)), (14, .int (nI (t_owf T b (T 11 6)))), (15, .int (nI (t_hdf T b j))), (16, .int (nI j))]) hx hb dL_isTold_627 hl (by decide) rfl (fun ls hl => ?_)
                  refine w_joinB (nL := 19) (pc1 := 700) (sk1 := []) (fun it9 => [(18, .int (bi it9)), (17, .int (-1)), (0, .ref h), (1, .int y), (2, .ref (ad 1)), (3, .ref (ad 2)), (4, .ref (ad 3)), (5, .ref (ad 4)), (6, .ref (ad 5)), (7, .ref (ad 6)), (8, .ref (ad 7)), (9, .ref (ad 8)), (10, .ref (ad 9)), (11, .ref (ad 10)), (12, .ref (ad 11)), (13, .int (nI b)), (14, .int (nI (t_owf T b (T 11 6)))), (15, .int (nI (t_hdf T b j))), (16, .int (nI j))]) (fun it9 => it9 = t_hb T b j) (fun it9 hit9 ls hl => ?_) (fun hk_382 => ?_)
                  · have hj9 : j < 4 := by omega
                    refine lv_iload hx hb dL_isTold_700 (lv_at hl 17 rfl) ?_
                    refine lv_iload hx hb dL_isTold_702 (lv_at hl 0 rfl) ?_
                    refine b_if_eq (tgt := 714) hx hb dL_isTold_704 (by decide)  (fun c_383 => ?_) (fun c_383 => ?_)
                    · refine lv_iconst (v := nI 0) hx hb dL_isTold_714 (by decide) ?_
                      refine n_iadd hx hb dL_isTold_715 (z := (t_hdf T b j) + 0) rfl ?_
                      refine lv_istore (lv' := [(15, .int (nI ((t_hdf T b j) + 0))), (18, .int (bi it9)), (17, .int (-1)), (0, .ref h), (1, .int y), (2, .ref (ad 1)), (3, .ref (ad 2)), (4, .ref (ad 3)), (5, .ref (ad 4)), (6, .ref (ad 5)), (7, .ref (ad 6)), (8, .ref (ad 7)), (9, .ref (ad 8)), (10, .ref (ad 9)), (11, .ref (ad 10)), (12, .ref (ad 11)), (13, .int (nI b)), (14, .int (nI (t_owf T b (T 11 6)))), (16, .int (nI j))]) hx hb dL_isTold_716 hl (by decide) rfl (fun ls hl => ?_)
                      refine n_iinc (k := 18) (lv' := [(16, .int (nI (j + 1))), (15, .int (nI ((t_hdf T b j) + 0))), (18, .int (bi it9)), (17, .int (-1)), (0, .ref h), (1, .int y), (2, .ref (ad 1)), (3, .ref (ad 2)), (4, .ref (ad 3)), (5, .ref (ad 4)), (6, .ref (ad 5)), (7, .ref (ad 6)), (8, .ref (ad 7)), (9, .ref (ad 8)), (10, .ref (ad 9)), (11, .ref (ad 10)), (12, .ref (ad 11)), (13, .int (nI b)), (14, .int (nI (t_owf T b (T 11 6))))]) hx hb dL_isTold_718 hl rfl (by decide) rfl (fun ls hl => ?_)
                      refine lv_goto (tgt := 612) hx hb dL_isTold_721 (by decide) ?_
                      have e_384 : t_hdf T b (j + 1) = (t_hdf T b j) + 0 := by (rw [t_hdf, ← hit9]; first | rw [if_pos c_383] | rw [if_neg (by rw [c_383]; decide)])
                      refine ih_352 (by omega) ls ?_
                      show lv_has ls 19 [(0, .ref h), (1, .int y), (2, .ref (ad 1)), (3, .ref (ad 2)), (4, .ref (ad 3)), (5, .ref (ad 4)), (6, .ref (ad 5)), (7, .ref (ad 6)), (8, .ref (ad 7)), (9, .ref (ad 8)), (10, .ref (ad 9)), (11, .ref (ad 10)), (12, .ref (ad 11)), (13, .int (nI b)), (14, .int (nI (t_owf T b (T 11 6)))), (15, .int (nI (t_hdf T b (j + 1)))), (16, .int (nI (j + 1)))]
                      rw [e_384]
                      exact lv_sub hl [4, 5, 6, 7, 8, 9, 10, 11, 12, 13, 14, 15, 16, 17, 18, 1, 0] rfl
                    · refine lv_aload_n hx hb dL_isTold_707 rfl (lv_at hl 5 rfl) ?_
                      refine lv_iload hx hb dL_isTold_708 (lv_at hl 18 rfl) ?_
                      refine a_iald2 hx hb hKa hPa (by omega) dL_isTold_710 ?_
                      have hz9 : T 2 j ≠ 0 := hR_225.hb_lot (by omega) (by omega) (hit9.symm.trans c_383)
                      rw [show (nI (T 2 j) - 1 : Int32) = nI (T 2 j - 1) from by obtain ⟨z, hz⟩ : ∃ z, T 2 j = z + 1 := ⟨T 2 j - 1, by omega⟩; rw [hz]; exact nI_pred _]
                      refine lv_goto (tgt := 715) hx hb dL_isTold_711 (by decide) ?_
                      refine n_iadd hx hb dL_isTold_715 (z := (t_hdf T b j) + (T 2 j - 1)) rfl ?_
                      refine lv_istore (lv' := [(15, .int (nI ((t_hdf T b j) + (T 2 j - 1)))), (18, .int (bi it9)), (17, .int (-1)), (0, .ref h), (1, .int y), (2, .ref (ad 1)), (3, .ref (ad 2)), (4, .ref (ad 3)), (5, .ref (ad 4)), (6, .ref (ad 5)), (7, .ref (ad 6)), (8, .ref (ad 7)), (9, .ref (ad 8)), (10, .ref (ad 9)), (11, .ref (ad 10)), (12, .ref (ad 11)), (13, .int (nI b)), (14, .int (nI (t_owf T b (T 11 6)))), (16, .int (nI j))]) hx hb dL_isTold_716 hl (by decide) rfl (fun ls hl => ?_)
                      refine n_iinc (k := 18) (lv' := [(16, .int (nI (j + 1))), (15, .int (nI ((t_hdf T b j) + (T 2 j - 1)))), (18, .int (bi it9)), (17, .int (-1)), (0, .ref h), (1, .int y), (2, .ref (ad 1)), (3, .ref (ad 2)), (4, .ref (ad 3)), (5, .ref (ad 4)), (6, .ref (ad 5)), (7, .ref (ad 6)), (8, .ref (ad 7)), (9, .ref (ad 8)), (10, .ref (ad 9)), (11, .ref (ad 10)), (12, .ref (ad 11)), (13, .int (nI b)), (14, .int (nI (t_owf T b (T 11 6))))]) hx hb dL_isTold_718 hl rfl (by decide) rfl (fun ls hl => ?_)
                      refine lv_goto (tgt := 612) hx hb dL_isTold_721 (by decide) ?_
                      have e_385 : t_hdf T b (j + 1) = (t_hdf T b j) + (T 2 j - 1) := by (rw [t_hdf, ← hit9]; first | rw [if_pos c_383] | rw [if_neg (by rw [c_383]; decide)])
                      refine ih_352 (by omega) ls ?_
                      show lv_has ls 19 [(0, .ref h), (1, .int y), (2, .ref (ad 1)), (3, .ref (ad 2)), (4, .ref (ad 3)), (5, .ref (ad 4)), (6, .ref (ad 5)), (7, .ref (ad 6)), (8, .ref (ad 7)), (9, .ref (ad 8)), (10, .ref (ad 9)), (11, .ref (ad 10)), (12, .ref (ad 11)), (13, .int (nI b)), (14, .int (nI (t_owf T b (T 11 6)))), (15, .int (nI (t_hdf T b (j + 1)))), (16, .int (nI (j + 1)))]
                      rw [e_385]
                      exact lv_sub hl [4, 5, 6, 7, 8, 9, 10, 11, 12, 13, 14, 15, 16, 17, 18, 1, 0] rfl
                  · have hk9 := hk_382
                    refine lv_aload hx hb dL_isTold_629 (lv_at hl 5 rfl) ?_
                    refine lv_iconst (v := nI 4) hx hb dL_isTold_631 (by decide) ?_
                    refine lv_iload hx hb dL_isTold_632 (lv_at hl 17 rfl) ?_
                    refine n_imul hx hb dL_isTold_634 (z := 4 * j) rfl ?_
                    refine lv_iload hx hb dL_isTold_635 (lv_at hl 14 rfl) ?_
                    refine n_iadd hx hb dL_isTold_637 (z := (4 * j) + b) rfl ?_
                    refine a_iald (f := 3) (n := 16) hx hb hKa hPa rfl (by omega) (by decide) dL_isTold_638 ?_
                    refine n_if_le (tgt := 697) hx hb dL_isTold_639 (by decide) (by have f1 : T 3 ((4 * j) + b) ≤ 134217727 := hT.1 3 ((4 * j) + b); omega) (fun c_386 => ?_) (fun c_386 => ?_)
                    · refine lv_iconst (v := nI 0) hx hb dL_isTold_697 (by decide) ?_
                      refine lv_istore (lv' := [(18, .int (nI 0)), (17, .int (-1)), (0, .ref h), (1, .int y), (2, .ref (ad 1)), (3, .ref (ad 2)), (4, .ref (ad 3)), (5, .ref (ad 4)), (6, .ref (ad 5)), (7, .ref (ad 6)), (8, .ref (ad 7)), (9, .ref (ad 8)), (10, .ref (ad 9)), (11, .ref (ad 10)), (12, .ref (ad 11)), (13, .int (nI b)), (14, .int (nI (t_owf T b (T 11 6)))), (15, .int (nI (t_hdf T b j))), (16, .int (nI j))]) hx hb dL_isTold_698 hl (by decide) rfl (fun ls hl => ?_)
                      have ej : nI 0 = bi false := rfl
                      rw [ej] at hl
                      exact hk_382 false (by first | (simp [t_hb, ho_381, c_386]; done) | (simp [t_hb, ho_381, c_386]; omega)) ls (lv_sub hl [0, 1, 2, 3, 4, 5, 6, 7, 8, 9, 10, 11, 12, 13, 14, 15, 16, 17, 18] rfl)
                    · refine lv_aload_n hx hb dL_isTold_642 rfl (lv_at hl 3 rfl) ?_
                      refine lv_aload hx hb dL_isTold_643 (lv_at hl 13 rfl) ?_
                      refine lv_iload hx hb dL_isTold_645 (lv_at hl 17 rfl) ?_
                      refine lv_iconst (v := nI 2) hx hb dL_isTold_647 (by decide) ?_
                      refine n_idiv hx hb dL_isTold_648 (z := j / 2) (by omega) (by decide) (by decide) rfl ?_
                      refine vp_callSi (W.runS (As := [.ref (ad 1), .ref (ad 11), .int (nI (j / 2))]) (rest := []) ⟨hx, hb, hml, hown, hts⟩ (ch_isOpened l D ad cI T hT (j / 2) (by omega)) (va_cwS 3 hts gL_isTold_L_isOpened rfl rfl rfl kd_L_isOpened ⟨Nat.le_of_ble_eq_true rfl, Nat.le_of_ble_eq_true rfl⟩) ⟨aB_blind, a_pre hKa hPa _⟩ rfl rfl hl.1 rfl (lv_room (Nat.le_of_ble_eq_true rfl)) dL_isTold_649 ⟨by show (((((0 + 152 * 4) + 3 * (T 11 4)) + 55 + 1 * (T 11 5)) + 35 * b) + 1 * (T 11 6)) + 0 ≤ 1000; omega, by show (((((0 + 4477 * 4) + 18 * (T 11 4)) + 442 + 6 * (T 11 5)) + 210 * b) + 6 * (T 11 6)) + 0 ≤ 21000; omega⟩) (fun r_387 hr_387 => ?_)
                      subst hr_387
                      refine b_if_eq (tgt := 677) hx hb dL_isTold_652 (by decide)  (fun c_388 => ?_) (fun c_388 => ?_)
                      · refine lv_iload hx hb dL_isTold_677 (lv_at hl 0 rfl) ?_
                        refine lv_if_lt (tgt := 693) hx hb dL_isTold_679 (by decide)  (fun _ => ?_) (fun c9 => absurd c9 (by decide))
                        refine lv_iconst (v := nI 1) hx hb dL_isTold_693 (by decide) ?_
                        refine lv_goto (tgt := 698) hx hb dL_isTold_694 (by decide) ?_
                        refine lv_istore (lv' := [(18, .int (nI 1)), (17, .int (-1)), (0, .ref h), (1, .int y), (2, .ref (ad 1)), (3, .ref (ad 2)), (4, .ref (ad 3)), (5, .ref (ad 4)), (6, .ref (ad 5)), (7, .ref (ad 6)), (8, .ref (ad 7)), (9, .ref (ad 8)), (10, .ref (ad 9)), (11, .ref (ad 10)), (12, .ref (ad 11)), (13, .int (nI b)), (14, .int (nI (t_owf T b (T 11 6)))), (15, .int (nI (t_hdf T b j))), (16, .int (nI j))]) hx hb dL_isTold_698 hl (by decide) rfl (fun ls hl => ?_)
                        have ej : nI 1 = bi true := rfl
                        rw [ej] at hl
                        exact hk_382 true (by first | (simp [t_hb, ho_381, c_386, c_388]; done) | (simp [t_hb, ho_381, c_386, c_388]; omega)) ls (lv_sub hl [0, 1, 2, 3, 4, 5, 6, 7, 8, 9, 10, 11, 12, 13, 14, 15, 16, 17, 18] rfl)
                      · refine lv_aload_n hx hb dL_isTold_655 rfl (lv_at hl 3 rfl) ?_
                        refine lv_aload hx hb dL_isTold_656 (lv_at hl 5 rfl) ?_
                        refine lv_aload hx hb dL_isTold_658 (lv_at hl 7 rfl) ?_
                        refine lv_aload hx hb dL_isTold_660 (lv_at hl 8 rfl) ?_
                        refine lv_aload hx hb dL_isTold_662 (lv_at hl 13 rfl) ?_
                        refine lv_iconst (v := nI 4) hx hb dL_isTold_664 (by decide) ?_
                        refine lv_iload hx hb dL_isTold_665 (lv_at hl 17 rfl) ?_
                        refine n_imul hx hb dL_isTold_667 (z := 4 * j) rfl ?_
                        refine lv_iload hx hb dL_isTold_668 (lv_at hl 14 rfl) ?_
                        refine n_iadd hx hb dL_isTold_670 (z := (4 * j) + b) rfl ?_
                        refine vp_callSi (W.runS (As := [.ref (ad 1), .ref (ad 3), .ref (ad 5), .ref (ad 6), .ref (ad 11), .int (nI ((4 * j) + b))]) (rest := []) ⟨hx, hb, hml, hown, hts⟩ (ch_takes l D ad cI T hT ((4 * j) + b) (by omega)) (va_cwS 6 hts gL_isTold_L_takes rfl rfl rfl kd_L_takes ⟨Nat.le_of_ble_eq_true rfl, Nat.le_of_ble_eq_true rfl⟩) ⟨aB_blind, a_pre hKa hPa _⟩ rfl rfl hl.1 rfl (lv_room (Nat.le_of_ble_eq_true rfl)) dL_isTold_671 ⟨by show (((((0 + 152 * 4) + 3 * (T 11 4)) + 55 + 1 * (T 11 5)) + 35 * b) + 1 * (T 11 6)) + 0 ≤ 1000; omega, by show (((((0 + 4477 * 4) + 18 * (T 11 4)) + 442 + 6 * (T 11 5)) + 210 * b) + 6 * (T 11 6)) + 0 ≤ 21000; omega⟩) (fun r_389 hr_389 => ?_)
                        subst hr_389
                        refine b_if_eq (tgt := 697) hx hb dL_isTold_674 (by decide)  (fun c_390 => ?_) (fun c_390 => ?_)
                        · refine lv_iconst (v := nI 0) hx hb dL_isTold_697 (by decide) ?_
                          refine lv_istore (lv' := [(18, .int (nI 0)), (17, .int (-1)), (0, .ref h), (1, .int y), (2, .ref (ad 1)), (3, .ref (ad 2)), (4, .ref (ad 3)), (5, .ref (ad 4)), (6, .ref (ad 5)), (7, .ref (ad 6)), (8, .ref (ad 7)), (9, .ref (ad 8)), (10, .ref (ad 9)), (11, .ref (ad 10)), (12, .ref (ad 11)), (13, .int (nI b)), (14, .int (nI (t_owf T b (T 11 6)))), (15, .int (nI (t_hdf T b j))), (16, .int (nI j))]) hx hb dL_isTold_698 hl (by decide) rfl (fun ls hl => ?_)
                          have ej : nI 0 = bi false := rfl
                          rw [ej] at hl
                          exact hk_382 false (by first | (simp [t_hb, ho_381, c_386, c_388, c_390]; done) | (simp [t_hb, ho_381, c_386, c_388, c_390]; omega)) ls (lv_sub hl [0, 1, 2, 3, 4, 5, 6, 7, 8, 9, 10, 11, 12, 13, 14, 15, 16, 17, 18] rfl)
                        · refine lv_iload hx hb dL_isTold_677 (lv_at hl 0 rfl) ?_
                          refine lv_if_lt (tgt := 693) hx hb dL_isTold_679 (by decide)  (fun _ => ?_) (fun c9 => absurd c9 (by decide))
                          refine lv_iconst (v := nI 1) hx hb dL_isTold_693 (by decide) ?_
                          refine lv_goto (tgt := 698) hx hb dL_isTold_694 (by decide) ?_
                          refine lv_istore (lv' := [(18, .int (nI 1)), (17, .int (-1)), (0, .ref h), (1, .int y), (2, .ref (ad 1)), (3, .ref (ad 2)), (4, .ref (ad 3)), (5, .ref (ad 4)), (6, .ref (ad 5)), (7, .ref (ad 6)), (8, .ref (ad 7)), (9, .ref (ad 8)), (10, .ref (ad 9)), (11, .ref (ad 10)), (12, .ref (ad 11)), (13, .int (nI b)), (14, .int (nI (t_owf T b (T 11 6)))), (15, .int (nI (t_hdf T b j))), (16, .int (nI j))]) hx hb dL_isTold_698 hl (by decide) rfl (fun ls hl => ?_)
                          have ej : nI 1 = bi true := rfl
                          rw [ej] at hl
                          exact hk_382 true (by first | (simp [t_hb, ho_381, c_386, c_388, c_390]; done) | (simp [t_hb, ho_381, c_386, c_388, c_390]; omega)) ls (lv_sub hl [0, 1, 2, 3, 4, 5, 6, 7, 8, 9, 10, 11, 12, 13, 14, 15, 16, 17, 18] rfl)
                · have hn1 : optI (some o_381) = nI o_381 := rfl
                  rw [hn1]
                  refine lv_istore (lv' := [(17, .int (nI o_381)), (0, .ref h), (1, .int y), (2, .ref (ad 1)), (3, .ref (ad 2)), (4, .ref (ad 3)), (5, .ref (ad 4)), (6, .ref (ad 5)), (7, .ref (ad 6)), (8, .ref (ad 7)), (9, .ref (ad 8)), (10, .ref (ad 9)), (11, .ref (ad 10)), (12, .ref (ad 11)), (13, .int (nI b)), (14, .int (nI (t_owf T b (T 11 6)))), (15, .int (nI (t_hdf T b j))), (16, .int (nI j))]) hx hb dL_isTold_627 hl (by decide) rfl (fun ls hl => ?_)
                  refine w_joinB (nL := 19) (pc1 := 700) (sk1 := []) (fun it9 => [(18, .int (bi it9)), (17, .int (nI o_381)), (0, .ref h), (1, .int y), (2, .ref (ad 1)), (3, .ref (ad 2)), (4, .ref (ad 3)), (5, .ref (ad 4)), (6, .ref (ad 5)), (7, .ref (ad 6)), (8, .ref (ad 7)), (9, .ref (ad 8)), (10, .ref (ad 9)), (11, .ref (ad 10)), (12, .ref (ad 11)), (13, .int (nI b)), (14, .int (nI (t_owf T b (T 11 6)))), (15, .int (nI (t_hdf T b j))), (16, .int (nI j))]) (fun it9 => it9 = t_hb T b j) (fun it9 hit9 ls hl => ?_) (fun hk_391 => ?_)
                  · have hj9 : j < 4 := by omega
                    refine lv_iload hx hb dL_isTold_700 (lv_at hl 17 rfl) ?_
                    refine lv_iload hx hb dL_isTold_702 (lv_at hl 0 rfl) ?_
                    refine b_if_eq (tgt := 714) hx hb dL_isTold_704 (by decide)  (fun c_392 => ?_) (fun c_392 => ?_)
                    · refine lv_iconst (v := nI 0) hx hb dL_isTold_714 (by decide) ?_
                      refine n_iadd hx hb dL_isTold_715 (z := (t_hdf T b j) + 0) rfl ?_
                      refine lv_istore (lv' := [(15, .int (nI ((t_hdf T b j) + 0))), (18, .int (bi it9)), (17, .int (nI o_381)), (0, .ref h), (1, .int y), (2, .ref (ad 1)), (3, .ref (ad 2)), (4, .ref (ad 3)), (5, .ref (ad 4)), (6, .ref (ad 5)), (7, .ref (ad 6)), (8, .ref (ad 7)), (9, .ref (ad 8)), (10, .ref (ad 9)), (11, .ref (ad 10)), (12, .ref (ad 11)), (13, .int (nI b)), (14, .int (nI (t_owf T b (T 11 6)))), (16, .int (nI j))]) hx hb dL_isTold_716 hl (by decide) rfl (fun ls hl => ?_)
                      refine n_iinc (k := 18) (lv' := [(16, .int (nI (j + 1))), (15, .int (nI ((t_hdf T b j) + 0))), (18, .int (bi it9)), (17, .int (nI o_381)), (0, .ref h), (1, .int y), (2, .ref (ad 1)), (3, .ref (ad 2)), (4, .ref (ad 3)), (5, .ref (ad 4)), (6, .ref (ad 5)), (7, .ref (ad 6)), (8, .ref (ad 7)), (9, .ref (ad 8)), (10, .ref (ad 9)), (11, .ref (ad 10)), (12, .ref (ad 11)), (13, .int (nI b)), (14, .int (nI (t_owf T b (T 11 6))))]) hx hb dL_isTold_718 hl rfl (by decide) rfl (fun ls hl => ?_)
                      refine lv_goto (tgt := 612) hx hb dL_isTold_721 (by decide) ?_
                      have e_393 : t_hdf T b (j + 1) = (t_hdf T b j) + 0 := by (rw [t_hdf, ← hit9]; first | rw [if_pos c_392] | rw [if_neg (by rw [c_392]; decide)])
                      refine ih_352 (by omega) ls ?_
                      show lv_has ls 19 [(0, .ref h), (1, .int y), (2, .ref (ad 1)), (3, .ref (ad 2)), (4, .ref (ad 3)), (5, .ref (ad 4)), (6, .ref (ad 5)), (7, .ref (ad 6)), (8, .ref (ad 7)), (9, .ref (ad 8)), (10, .ref (ad 9)), (11, .ref (ad 10)), (12, .ref (ad 11)), (13, .int (nI b)), (14, .int (nI (t_owf T b (T 11 6)))), (15, .int (nI (t_hdf T b (j + 1)))), (16, .int (nI (j + 1)))]
                      rw [e_393]
                      exact lv_sub hl [4, 5, 6, 7, 8, 9, 10, 11, 12, 13, 14, 15, 16, 17, 18, 1, 0] rfl
                    · refine lv_aload_n hx hb dL_isTold_707 rfl (lv_at hl 5 rfl) ?_
                      refine lv_iload hx hb dL_isTold_708 (lv_at hl 18 rfl) ?_
                      refine a_iald2 hx hb hKa hPa (by omega) dL_isTold_710 ?_
                      have hz9 : T 2 j ≠ 0 := hR_225.hb_lot (by omega) (by omega) (hit9.symm.trans c_392)
                      rw [show (nI (T 2 j) - 1 : Int32) = nI (T 2 j - 1) from by obtain ⟨z, hz⟩ : ∃ z, T 2 j = z + 1 := ⟨T 2 j - 1, by omega⟩; rw [hz]; exact nI_pred _]
                      refine lv_goto (tgt := 715) hx hb dL_isTold_711 (by decide) ?_
                      refine n_iadd hx hb dL_isTold_715 (z := (t_hdf T b j) + (T 2 j - 1)) rfl ?_
                      refine lv_istore (lv' := [(15, .int (nI ((t_hdf T b j) + (T 2 j - 1)))), (18, .int (bi it9)), (17, .int (nI o_381)), (0, .ref h), (1, .int y), (2, .ref (ad 1)), (3, .ref (ad 2)), (4, .ref (ad 3)), (5, .ref (ad 4)), (6, .ref (ad 5)), (7, .ref (ad 6)), (8, .ref (ad 7)), (9, .ref (ad 8)), (10, .ref (ad 9)), (11, .ref (ad 10)), (12, .ref (ad 11)), (13, .int (nI b)), (14, .int (nI (t_owf T b (T 11 6)))), (16, .int (nI j))]) hx hb dL_isTold_716 hl (by decide) rfl (fun ls hl => ?_)
                      refine n_iinc (k := 18) (lv' := [(16, .int (nI (j + 1))), (15, .int (nI ((t_hdf T b j) + (T 2 j - 1)))), (18, .int (bi it9)), (17, .int (nI o_381)), (0, .ref h), (1, .int y), (2, .ref (ad 1)), (3, .ref (ad 2)), (4, .ref (ad 3)), (5, .ref (ad 4)), (6, .ref (ad 5)), (7, .ref (ad 6)), (8, .ref (ad 7)), (9, .ref (ad 8)), (10, .ref (ad 9)), (11, .ref (ad 10)), (12, .ref (ad 11)), (13, .int (nI b)), (14, .int (nI (t_owf T b (T 11 6))))]) hx hb dL_isTold_718 hl rfl (by decide) rfl (fun ls hl => ?_)
                      refine lv_goto (tgt := 612) hx hb dL_isTold_721 (by decide) ?_
                      have e_394 : t_hdf T b (j + 1) = (t_hdf T b j) + (T 2 j - 1) := by (rw [t_hdf, ← hit9]; first | rw [if_pos c_392] | rw [if_neg (by rw [c_392]; decide)])
                      refine ih_352 (by omega) ls ?_
                      show lv_has ls 19 [(0, .ref h), (1, .int y), (2, .ref (ad 1)), (3, .ref (ad 2)), (4, .ref (ad 3)), (5, .ref (ad 4)), (6, .ref (ad 5)), (7, .ref (ad 6)), (8, .ref (ad 7)), (9, .ref (ad 8)), (10, .ref (ad 9)), (11, .ref (ad 10)), (12, .ref (ad 11)), (13, .int (nI b)), (14, .int (nI (t_owf T b (T 11 6)))), (15, .int (nI (t_hdf T b (j + 1)))), (16, .int (nI (j + 1)))]
                      rw [e_394]
                      exact lv_sub hl [4, 5, 6, 7, 8, 9, 10, 11, 12, 13, 14, 15, 16, 17, 18, 1, 0] rfl
                  · have hk9 := hk_391
                    refine lv_aload hx hb dL_isTold_629 (lv_at hl 5 rfl) ?_
                    refine lv_iconst (v := nI 4) hx hb dL_isTold_631 (by decide) ?_
                    refine lv_iload hx hb dL_isTold_632 (lv_at hl 17 rfl) ?_
                    refine n_imul hx hb dL_isTold_634 (z := 4 * j) rfl ?_
                    refine lv_iload hx hb dL_isTold_635 (lv_at hl 14 rfl) ?_
                    refine n_iadd hx hb dL_isTold_637 (z := (4 * j) + b) rfl ?_
                    refine a_iald (f := 3) (n := 16) hx hb hKa hPa rfl (by omega) (by decide) dL_isTold_638 ?_
                    refine n_if_le (tgt := 697) hx hb dL_isTold_639 (by decide) (by have f1 : T 3 ((4 * j) + b) ≤ 134217727 := hT.1 3 ((4 * j) + b); omega) (fun c_395 => ?_) (fun c_395 => ?_)
                    · refine lv_iconst (v := nI 0) hx hb dL_isTold_697 (by decide) ?_
                      refine lv_istore (lv' := [(18, .int (nI 0)), (17, .int (nI o_381)), (0, .ref h), (1, .int y), (2, .ref (ad 1)), (3, .ref (ad 2)), (4, .ref (ad 3)), (5, .ref (ad 4)), (6, .ref (ad 5)), (7, .ref (ad 6)), (8, .ref (ad 7)), (9, .ref (ad 8)), (10, .ref (ad 9)), (11, .ref (ad 10)), (12, .ref (ad 11)), (13, .int (nI b)), (14, .int (nI (t_owf T b (T 11 6)))), (15, .int (nI (t_hdf T b j))), (16, .int (nI j))]) hx hb dL_isTold_698 hl (by decide) rfl (fun ls hl => ?_)
                      have ej : nI 0 = bi false := rfl
                      rw [ej] at hl
                      exact hk_391 false (by first | (simp [t_hb, ho_381, c_395]; done) | (simp [t_hb, ho_381, c_395]; omega)) ls (lv_sub hl [0, 1, 2, 3, 4, 5, 6, 7, 8, 9, 10, 11, 12, 13, 14, 15, 16, 17, 18] rfl)
                    · refine lv_aload_n hx hb dL_isTold_642 rfl (lv_at hl 3 rfl) ?_
                      refine lv_aload hx hb dL_isTold_643 (lv_at hl 13 rfl) ?_
                      refine lv_iload hx hb dL_isTold_645 (lv_at hl 17 rfl) ?_
                      refine lv_iconst (v := nI 2) hx hb dL_isTold_647 (by decide) ?_
                      refine n_idiv hx hb dL_isTold_648 (z := j / 2) (by omega) (by decide) (by decide) rfl ?_
                      refine vp_callSi (W.runS (As := [.ref (ad 1), .ref (ad 11), .int (nI (j / 2))]) (rest := []) ⟨hx, hb, hml, hown, hts⟩ (ch_isOpened l D ad cI T hT (j / 2) (by omega)) (va_cwS 3 hts gL_isTold_L_isOpened rfl rfl rfl kd_L_isOpened ⟨Nat.le_of_ble_eq_true rfl, Nat.le_of_ble_eq_true rfl⟩) ⟨aB_blind, a_pre hKa hPa _⟩ rfl rfl hl.1 rfl (lv_room (Nat.le_of_ble_eq_true rfl)) dL_isTold_649 ⟨by show (((((0 + 152 * 4) + 3 * (T 11 4)) + 55 + 1 * (T 11 5)) + 35 * b) + 1 * (T 11 6)) + 0 ≤ 1000; omega, by show (((((0 + 4477 * 4) + 18 * (T 11 4)) + 442 + 6 * (T 11 5)) + 210 * b) + 6 * (T 11 6)) + 0 ≤ 21000; omega⟩) (fun r_396 hr_396 => ?_)
                      subst hr_396
                      refine b_if_eq (tgt := 677) hx hb dL_isTold_652 (by decide)  (fun c_397 => ?_) (fun c_397 => ?_)
                      · refine lv_iload hx hb dL_isTold_677 (lv_at hl 0 rfl) ?_
                        refine n_if_ltF (tgt := 693) hx hb dL_isTold_679 (by decide) (by have f1 := (t_stf_some (T 11 4) o_381 ho_381).1; have f2 : T 11 4 ≤ 32 := hT.2.2.2.1; omega) ?_
                        refine lv_aload hx hb dL_isTold_682 (lv_at hl 9 rfl) ?_
                        refine lv_iload hx hb dL_isTold_684 (lv_at hl 0 rfl) ?_
                        refine a_iald (f := 7) (n := 32) hx hb hKa hPa rfl (by have f1 := (t_stf_some (T 11 4) o_381 ho_381).1; have f2 : T 11 4 ≤ 32 := hT.2.2.2.1; omega) (by decide) dL_isTold_686 ?_
                        refine lv_bipush (v := nI 17) hx hb dL_isTold_687 (by decide) ?_
                        refine lv_ishr hx hb dL_isTold_689 ?_
                        rw [show (nI (T 7 o_381)) >>> ((nI 17) &&& 31) = nI ((T 7 o_381) / 131072) from n_shrK (by have f1 := (t_stf_some (T 11 4) o_381 ho_381).1; have f2 : T 11 4 ≤ 32 := hT.2.2.2.1; have f3 : T 7 o_381 ≤ 16777215 := hT.1 7 o_381; omega) (by decide) rfl]
                        refine n_if_gt (tgt := 697) hx hb dL_isTold_690 (by decide) (by have f1 := (t_stf_some (T 11 4) o_381 ho_381).1; have f2 : T 11 4 ≤ 32 := hT.2.2.2.1; have f3 : T 7 o_381 ≤ 16777215 := hT.1 7 o_381; omega) (fun c_398 => ?_) (fun c_398 => ?_)
                        · refine lv_iconst (v := nI 0) hx hb dL_isTold_697 (by decide) ?_
                          refine lv_istore (lv' := [(18, .int (nI 0)), (17, .int (nI o_381)), (0, .ref h), (1, .int y), (2, .ref (ad 1)), (3, .ref (ad 2)), (4, .ref (ad 3)), (5, .ref (ad 4)), (6, .ref (ad 5)), (7, .ref (ad 6)), (8, .ref (ad 7)), (9, .ref (ad 8)), (10, .ref (ad 9)), (11, .ref (ad 10)), (12, .ref (ad 11)), (13, .int (nI b)), (14, .int (nI (t_owf T b (T 11 6)))), (15, .int (nI (t_hdf T b j))), (16, .int (nI j))]) hx hb dL_isTold_698 hl (by decide) rfl (fun ls hl => ?_)
                          have ej : nI 0 = bi false := rfl
                          rw [ej] at hl
                          exact hk_391 false (by first | (simp [t_hb, ho_381, c_395, c_397, c_398]; done) | (simp [t_hb, ho_381, c_395, c_397, c_398]; omega)) ls (lv_sub hl [0, 1, 2, 3, 4, 5, 6, 7, 8, 9, 10, 11, 12, 13, 14, 15, 16, 17, 18] rfl)
                        · refine lv_iconst (v := nI 1) hx hb dL_isTold_693 (by decide) ?_
                          refine lv_goto (tgt := 698) hx hb dL_isTold_694 (by decide) ?_
                          refine lv_istore (lv' := [(18, .int (nI 1)), (17, .int (nI o_381)), (0, .ref h), (1, .int y), (2, .ref (ad 1)), (3, .ref (ad 2)), (4, .ref (ad 3)), (5, .ref (ad 4)), (6, .ref (ad 5)), (7, .ref (ad 6)), (8, .ref (ad 7)), (9, .ref (ad 8)), (10, .ref (ad 9)), (11, .ref (ad 10)), (12, .ref (ad 11)), (13, .int (nI b)), (14, .int (nI (t_owf T b (T 11 6)))), (15, .int (nI (t_hdf T b j))), (16, .int (nI j))]) hx hb dL_isTold_698 hl (by decide) rfl (fun ls hl => ?_)
                          have ej : nI 1 = bi true := rfl
                          rw [ej] at hl
                          exact hk_391 true (by first | (simp [t_hb, ho_381, c_395, c_397, c_398]; done) | (simp [t_hb, ho_381, c_395, c_397, c_398]; omega)) ls (lv_sub hl [0, 1, 2, 3, 4, 5, 6, 7, 8, 9, 10, 11, 12, 13, 14, 15, 16, 17, 18] rfl)
                      · refine lv_aload_n hx hb dL_isTold_655 rfl (lv_at hl 3 rfl) ?_
                        refine lv_aload hx hb dL_isTold_656 (lv_at hl 5 rfl) ?_
                        refine lv_aload hx hb dL_isTold_658 (lv_at hl 7 rfl) ?_
                        refine lv_aload hx hb dL_isTold_660 (lv_at hl 8 rfl) ?_
                        refine lv_aload hx hb dL_isTold_662 (lv_at hl 13 rfl) ?_
                        refine lv_iconst (v := nI 4) hx hb dL_isTold_664 (by decide) ?_
                        refine lv_iload hx hb dL_isTold_665 (lv_at hl 17 rfl) ?_
                        refine n_imul hx hb dL_isTold_667 (z := 4 * j) rfl ?_
                        refine lv_iload hx hb dL_isTold_668 (lv_at hl 14 rfl) ?_
                        refine n_iadd hx hb dL_isTold_670 (z := (4 * j) + b) rfl ?_
                        refine vp_callSi (W.runS (As := [.ref (ad 1), .ref (ad 3), .ref (ad 5), .ref (ad 6), .ref (ad 11), .int (nI ((4 * j) + b))]) (rest := []) ⟨hx, hb, hml, hown, hts⟩ (ch_takes l D ad cI T hT ((4 * j) + b) (by omega)) (va_cwS 6 hts gL_isTold_L_takes rfl rfl rfl kd_L_takes ⟨Nat.le_of_ble_eq_true rfl, Nat.le_of_ble_eq_true rfl⟩) ⟨aB_blind, a_pre hKa hPa _⟩ rfl rfl hl.1 rfl (lv_room (Nat.le_of_ble_eq_true rfl)) dL_isTold_671 ⟨by show (((((0 + 152 * 4) + 3 * (T 11 4)) + 55 + 1 * (T 11 5)) + 35 * b) + 1 * (T 11 6)) + 0 ≤ 1000; omega, by show (((((0 + 4477 * 4) + 18 * (T 11 4)) + 442 + 6 * (T 11 5)) + 210 * b) + 6 * (T 11 6)) + 0 ≤ 21000; omega⟩) (fun r_399 hr_399 => ?_)
                        subst hr_399
                        refine b_if_eq (tgt := 697) hx hb dL_isTold_674 (by decide)  (fun c_400 => ?_) (fun c_400 => ?_)
                        · refine lv_iconst (v := nI 0) hx hb dL_isTold_697 (by decide) ?_
                          refine lv_istore (lv' := [(18, .int (nI 0)), (17, .int (nI o_381)), (0, .ref h), (1, .int y), (2, .ref (ad 1)), (3, .ref (ad 2)), (4, .ref (ad 3)), (5, .ref (ad 4)), (6, .ref (ad 5)), (7, .ref (ad 6)), (8, .ref (ad 7)), (9, .ref (ad 8)), (10, .ref (ad 9)), (11, .ref (ad 10)), (12, .ref (ad 11)), (13, .int (nI b)), (14, .int (nI (t_owf T b (T 11 6)))), (15, .int (nI (t_hdf T b j))), (16, .int (nI j))]) hx hb dL_isTold_698 hl (by decide) rfl (fun ls hl => ?_)
                          have ej : nI 0 = bi false := rfl
                          rw [ej] at hl
                          exact hk_391 false (by first | (simp [t_hb, ho_381, c_395, c_397, c_400]; done) | (simp [t_hb, ho_381, c_395, c_397, c_400]; omega)) ls (lv_sub hl [0, 1, 2, 3, 4, 5, 6, 7, 8, 9, 10, 11, 12, 13, 14, 15, 16, 17, 18] rfl)
                        · refine lv_iload hx hb dL_isTold_677 (lv_at hl 0 rfl) ?_
                          refine n_if_ltF (tgt := 693) hx hb dL_isTold_679 (by decide) (by have f1 := (t_stf_some (T 11 4) o_381 ho_381).1; have f2 : T 11 4 ≤ 32 := hT.2.2.2.1; omega) ?_
                          refine lv_aload hx hb dL_isTold_682 (lv_at hl 9 rfl) ?_
                          refine lv_iload hx hb dL_isTold_684 (lv_at hl 0 rfl) ?_
                          refine a_iald (f := 7) (n := 32) hx hb hKa hPa rfl (by have f1 := (t_stf_some (T 11 4) o_381 ho_381).1; have f2 : T 11 4 ≤ 32 := hT.2.2.2.1; omega) (by decide) dL_isTold_686 ?_
                          refine lv_bipush (v := nI 17) hx hb dL_isTold_687 (by decide) ?_
                          refine lv_ishr hx hb dL_isTold_689 ?_
                          rw [show (nI (T 7 o_381)) >>> ((nI 17) &&& 31) = nI ((T 7 o_381) / 131072) from n_shrK (by have f1 := (t_stf_some (T 11 4) o_381 ho_381).1; have f2 : T 11 4 ≤ 32 := hT.2.2.2.1; have f3 : T 7 o_381 ≤ 16777215 := hT.1 7 o_381; omega) (by decide) rfl]
                          refine n_if_gt (tgt := 697) hx hb dL_isTold_690 (by decide) (by have f1 := (t_stf_some (T 11 4) o_381 ho_381).1; have f2 : T 11 4 ≤ 32 := hT.2.2.2.1; have f3 : T 7 o_381 ≤ 16777215 := hT.1 7 o_381; omega) (fun c_401 => ?_) (fun c_401 => ?_)
                          · refine lv_iconst (v := nI 0) hx hb dL_isTold_697 (by decide) ?_
                            refine lv_istore (lv' := [(18, .int (nI 0)), (17, .int (nI o_381)), (0, .ref h), (1, .int y), (2, .ref (ad 1)), (3, .ref (ad 2)), (4, .ref (ad 3)), (5, .ref (ad 4)), (6, .ref (ad 5)), (7, .ref (ad 6)), (8, .ref (ad 7)), (9, .ref (ad 8)), (10, .ref (ad 9)), (11, .ref (ad 10)), (12, .ref (ad 11)), (13, .int (nI b)), (14, .int (nI (t_owf T b (T 11 6)))), (15, .int (nI (t_hdf T b j))), (16, .int (nI j))]) hx hb dL_isTold_698 hl (by decide) rfl (fun ls hl => ?_)
                            have ej : nI 0 = bi false := rfl
                            rw [ej] at hl
                            exact hk_391 false (by first | (simp [t_hb, ho_381, c_395, c_397, c_400, c_401]; done) | (simp [t_hb, ho_381, c_395, c_397, c_400, c_401]; omega)) ls (lv_sub hl [0, 1, 2, 3, 4, 5, 6, 7, 8, 9, 10, 11, 12, 13, 14, 15, 16, 17, 18] rfl)
                          · refine lv_iconst (v := nI 1) hx hb dL_isTold_693 (by decide) ?_
                            refine lv_goto (tgt := 698) hx hb dL_isTold_694 (by decide) ?_
                            refine lv_istore (lv' := [(18, .int (nI 1)), (17, .int (nI o_381)), (0, .ref h), (1, .int y), (2, .ref (ad 1)), (3, .ref (ad 2)), (4, .ref (ad 3)), (5, .ref (ad 4)), (6, .ref (ad 5)), (7, .ref (ad 6)), (8, .ref (ad 7)), (9, .ref (ad 8)), (10, .ref (ad 9)), (11, .ref (ad 10)), (12, .ref (ad 11)), (13, .int (nI b)), (14, .int (nI (t_owf T b (T 11 6)))), (15, .int (nI (t_hdf T b j))), (16, .int (nI j))]) hx hb dL_isTold_698 hl (by decide) rfl (fun ls hl => ?_)
                            have ej : nI 1 = bi true := rfl
                            rw [ej] at hl
                            exact hk_391 true (by first | (simp [t_hb, ho_381, c_395, c_397, c_400, c_401]; done) | (simp [t_hb, ho_381, c_395, c_397, c_400, c_401]; omega)) ls (lv_sub hl [0, 1, 2, 3, 4, 5, 6, 7, 8, 9, 10, 11, 12, 13, 14, 15, 16, 17, 18] rfl)
            · refine lv_aload hx hb dL_isTold_512 (lv_at hl 10 rfl) ?_
              refine lv_iload hx hb dL_isTold_514 (lv_at hl 16 rfl) ?_
              refine a_iald (f := 9) (n := 32) hx hb hKa hPa rfl (by omega) (by decide) dL_isTold_516 ?_
              refine lv_bipush (v := nI 31) hx hb dL_isTold_517 (by decide) ?_
              refine lv_iand hx hb dL_isTold_519 ?_
              rw [show (nI (T 9 k)) &&& (nI 31) = nI ((T 9 k) % 32) from n_andK (k := 5) (by have f1 : T 9 k ≤ 4194303 := hT.1 9 k; omega) (by decide) (by decide) rfl]
              refine lv_istore (lv' := [(17, .int (nI ((T 9 k) % 32))), (0, .ref h), (1, .int y), (2, .ref (ad 1)), (3, .ref (ad 2)), (4, .ref (ad 3)), (5, .ref (ad 4)), (6, .ref (ad 5)), (7, .ref (ad 6)), (8, .ref (ad 7)), (9, .ref (ad 8)), (10, .ref (ad 9)), (11, .ref (ad 10)), (12, .ref (ad 11)), (13, .int (nI b)), (14, .int (nI (t_owf T b k))), (15, .int (nI 0)), (16, .int (nI k))]) hx hb dL_isTold_520 hl (by decide) rfl (fun ls hl => ?_)
              refine w_join (nL := 19) (pc1 := 555) (sk1 := []) (fun r9 => [(18, .int (nI r9)), (17, .int (nI ((T 9 k) % 32))), (0, .ref h), (1, .int y), (2, .ref (ad 1)), (3, .ref (ad 2)), (4, .ref (ad 3)), (5, .ref (ad 4)), (6, .ref (ad 5)), (7, .ref (ad 6)), (8, .ref (ad 7)), (9, .ref (ad 8)), (10, .ref (ad 9)), (11, .ref (ad 10)), (12, .ref (ad 11)), (13, .int (nI b)), (14, .int (nI (t_owf T b k))), (15, .int (nI 0)), (16, .int (nI k))]) (fun r9 => r9 = t_ru T k) (fun r9 hr9 ls hl => ?_) (fun hk_402 => ?_)
              · have hr2 : r9 ≤ 2 := by rw [hr9]; exact t_ru_le
                refine lv_aload_n hx hb dL_isTold_555 rfl (lv_at hl 2 rfl) ?_
                refine lv_iload hx hb dL_isTold_556 (lv_at hl 18 rfl) ?_
                refine va_calli (vx_runSW (As := [.ref h, .int (nI k)]) (rest := []) ⟨hx, hb, hml, hown, hts⟩ (cw_running l hst D cI cO cb eA mi st dO dT vF ws_345 hc_349 hM_225 hsI (nI k)) (vx_cwSW 2 hts gL_isTold_L_running rfl rfl rfl kd_L_running ⟨Nat.le_of_ble_eq_true rfl, Nat.le_of_ble_eq_true rfl⟩) ⟨kB_blind, kB_pre hK hG hGT hN (fun q h9 => Or.inl h9) hS (fun q h9 => hA q (Nat.le_trans hS.1 h9)) hPw _⟩ rfl rfl hl.1 rfl (lv_room (Nat.le_of_ble_eq_true rfl)) dL_isTold_558 ⟨by show (((((0 + 152 * 4) + 3 * (T 11 4)) + 55 + 1 * (T 11 5)) + 35 * b) + 1 * k) + 1 ≤ 1000; omega, by show (((((0 + 4477 * 4) + 18 * (T 11 4)) + 442 + 6 * (T 11 5)) + 210 * b) + 6 * k) + 6 ≤ 21000; omega⟩) hS (fun _ _ h9 => Or.inl h9) (fun _ h9 => Or.inl h9) (fun r_403 ws_404 U8 H_408 locs_409 ht hvm hu_407 hB hz1 hk1 hS1 => ?_)
                obtain ⟨hr_405, hc_406⟩ := hu_407
                replace hB : va_P D vwCl ws_404 U8.heap := hB
                rw [ht] at hB
                replace hPa := aP_keep hPa hdB hAB hk1
                clear hPw hS
                have hPw := hB
                have hS := hS1
                clear hB hS1 hz1 hk1 hvm ht U8
                have hv9 : er (k_ct M_225 (nI k)) (r_running M_225 (nI k)) = nI r9 := by rw [hR_225.q_ru hM_225 (by omega) (by omega) (by omega), ← hr9]
                rw [hv9] at hr_405
                clear hv9
                subst hr_405
                refine lv_iload hx hb dL_isTold_561 (lv_at hl 0 rfl) ?_
                refine n_icmp_eq (tgt := 568) hx hb dL_isTold_563 (by decide) (by have f1 := hr2; omega) (by have f1 := hr2; omega) (fun c_410 => ?_) (fun c_410 => absurd (by omega) c_410)
                refine lv_iload hx hb dL_isTold_568 (lv_at hl 16 rfl) ?_
                refine lv_iload hx hb dL_isTold_570 (lv_at hl 0 rfl) ?_
                refine n_if_ne (tgt := 599) hx hb dL_isTold_572 (by decide) (by have f1 := hr2; omega) (fun c_411 => ?_) (fun c_411 => ?_)
                · refine lv_iconst (v := nI 0) hx hb dL_isTold_599 (by decide) ?_
                  refine n_iadd hx hb dL_isTold_600 (z := (t_owf T b k) + 0) rfl ?_
                  refine lv_istore (lv' := [(14, .int (nI ((t_owf T b k) + 0))), (18, .int (nI r9)), (17, .int (nI ((T 9 k) % 32))), (0, .ref h), (1, .int y), (2, .ref (ad 1)), (3, .ref (ad 2)), (4, .ref (ad 3)), (5, .ref (ad 4)), (6, .ref (ad 5)), (7, .ref (ad 6)), (8, .ref (ad 7)), (9, .ref (ad 8)), (10, .ref (ad 9)), (11, .ref (ad 10)), (12, .ref (ad 11)), (13, .int (nI b)), (15, .int (nI 0)), (16, .int (nI k))]) hx hb dL_isTold_601 hl (by decide) rfl (fun ls hl => ?_)
                  refine n_iinc (k := 18) (lv' := [(16, .int (nI (k + 1))), (14, .int (nI ((t_owf T b k) + 0))), (18, .int (nI r9)), (17, .int (nI ((T 9 k) % 32))), (0, .ref h), (1, .int y), (2, .ref (ad 1)), (3, .ref (ad 2)), (4, .ref (ad 3)), (5, .ref (ad 4)), (6, .ref (ad 5)), (7, .ref (ad 6)), (8, .ref (ad 7)), (9, .ref (ad 8)), (10, .ref (ad 9)), (11, .ref (ad 10)), (12, .ref (ad 11)), (13, .int (nI b)), (15, .int (nI 0))]) hx hb dL_isTold_603 hl rfl (by decide) rfl (fun ls hl => ?_)
                  refine lv_goto (tgt := 502) hx hb dL_isTold_606 (by decide) ?_
                  have e_412 : t_owf T b (k + 1) = (t_owf T b k) + 0 := by first | (rw [t_owf, if_pos ⟨by rw [← hr9]; assumption, by assumption⟩]; done) | (rw [t_owf, if_neg (fun z => absurd (hr9.trans z.1) (by assumption))]; done) | (rw [t_owf, if_neg (fun z => absurd z.2 (by assumption))]; done)
                  refine W.widen (k := ((((0 + 152 * 4) + 3 * (T 11 4)) + 55 + 1 * (T 11 5)) + 35 * b) + 1 * (k + 1)) (n := ((((0 + 4477 * 4) + 18 * (T 11 4)) + 442 + 6 * (T 11 5)) + 210 * b) + 6 * (k + 1)) (by omega) (by omega) ?_
                  refine ih_344 (by omega) ws_404 _ _ ⟨hPw, hc_406, hPa, hS⟩ ls ?_
                  show lv_has ls 19 [(0, .ref h), (1, .int y), (2, .ref (ad 1)), (3, .ref (ad 2)), (4, .ref (ad 3)), (5, .ref (ad 4)), (6, .ref (ad 5)), (7, .ref (ad 6)), (8, .ref (ad 7)), (9, .ref (ad 8)), (10, .ref (ad 9)), (11, .ref (ad 10)), (12, .ref (ad 11)), (13, .int (nI b)), (14, .int (nI (t_owf T b (k + 1)))), (15, .int (nI 0)), (16, .int (nI (k + 1)))]
                  rw [e_412]
                  exact lv_sub hl [4, 5, 6, 7, 8, 9, 10, 11, 12, 13, 14, 15, 16, 17, 1, 18, 0] rfl
                · refine lv_aload hx hb dL_isTold_575 (lv_at hl 10 rfl) ?_
                  refine lv_iload hx hb dL_isTold_577 (lv_at hl 1 rfl) ?_
                  refine a_iald (f := 7) (n := 32) hx hb hKa hPa rfl (by have f1 : T 9 k ≤ 4194303 := hT.1 9 k; omega) (by decide) dL_isTold_579 ?_
                  refine lv_iconst (v := nI 2) hx hb dL_isTold_580 (by decide) ?_
                  refine lv_ishr hx hb dL_isTold_581 ?_
                  rw [show (nI (T 7 ((T 9 k) % 32))) >>> ((nI 2) &&& 31) = nI ((T 7 ((T 9 k) % 32)) / 4) from n_shrK (by have f1 : T 9 k ≤ 4194303 := hT.1 9 k; have f2 : T 7 ((T 9 k) % 32) ≤ 16777215 := hT.1 7 ((T 9 k) % 32); omega) (by decide) rfl]
                  refine lv_iconst (v := nI 3) hx hb dL_isTold_582 (by decide) ?_
                  refine lv_iand hx hb dL_isTold_583 ?_
                  rw [show (nI ((T 7 ((T 9 k) % 32)) / 4)) &&& (nI 3) = nI (((T 7 ((T 9 k) % 32)) / 4) % 4) from n_andK (k := 2) (by have f1 : T 9 k ≤ 4194303 := hT.1 9 k; have f2 : T 7 ((T 9 k) % 32) ≤ 16777215 := hT.1 7 ((T 9 k) % 32); omega) (by decide) (by decide) rfl]
                  refine lv_iload hx hb dL_isTold_584 (lv_at hl 15 rfl) ?_
                  refine n_icmp_ne (tgt := 599) hx hb dL_isTold_586 (by decide) (by have f1 : T 9 k ≤ 4194303 := hT.1 9 k; have f2 : T 7 ((T 9 k) % 32) ≤ 16777215 := hT.1 7 ((T 9 k) % 32); omega) (by omega) (fun c_413 => ?_) (fun c_413 => ?_)
                  · refine lv_iconst (v := nI 0) hx hb dL_isTold_599 (by decide) ?_
                    refine n_iadd hx hb dL_isTold_600 (z := (t_owf T b k) + 0) rfl ?_
                    refine lv_istore (lv' := [(14, .int (nI ((t_owf T b k) + 0))), (18, .int (nI r9)), (17, .int (nI ((T 9 k) % 32))), (0, .ref h), (1, .int y), (2, .ref (ad 1)), (3, .ref (ad 2)), (4, .ref (ad 3)), (5, .ref (ad 4)), (6, .ref (ad 5)), (7, .ref (ad 6)), (8, .ref (ad 7)), (9, .ref (ad 8)), (10, .ref (ad 9)), (11, .ref (ad 10)), (12, .ref (ad 11)), (13, .int (nI b)), (15, .int (nI 0)), (16, .int (nI k))]) hx hb dL_isTold_601 hl (by decide) rfl (fun ls hl => ?_)
                    refine n_iinc (k := 18) (lv' := [(16, .int (nI (k + 1))), (14, .int (nI ((t_owf T b k) + 0))), (18, .int (nI r9)), (17, .int (nI ((T 9 k) % 32))), (0, .ref h), (1, .int y), (2, .ref (ad 1)), (3, .ref (ad 2)), (4, .ref (ad 3)), (5, .ref (ad 4)), (6, .ref (ad 5)), (7, .ref (ad 6)), (8, .ref (ad 7)), (9, .ref (ad 8)), (10, .ref (ad 9)), (11, .ref (ad 10)), (12, .ref (ad 11)), (13, .int (nI b)), (15, .int (nI 0))]) hx hb dL_isTold_603 hl rfl (by decide) rfl (fun ls hl => ?_)
                    refine lv_goto (tgt := 502) hx hb dL_isTold_606 (by decide) ?_
                    have e_414 : t_owf T b (k + 1) = (t_owf T b k) + 0 := by first | (rw [t_owf, if_pos ⟨by rw [← hr9]; assumption, by assumption⟩]; done) | (rw [t_owf, if_neg (fun z => absurd (hr9.trans z.1) (by assumption))]; done) | (rw [t_owf, if_neg (fun z => absurd z.2 (by assumption))]; done)
                    refine W.widen (k := ((((0 + 152 * 4) + 3 * (T 11 4)) + 55 + 1 * (T 11 5)) + 35 * b) + 1 * (k + 1)) (n := ((((0 + 4477 * 4) + 18 * (T 11 4)) + 442 + 6 * (T 11 5)) + 210 * b) + 6 * (k + 1)) (by omega) (by omega) ?_
                    refine ih_344 (by omega) ws_404 _ _ ⟨hPw, hc_406, hPa, hS⟩ ls ?_
                    show lv_has ls 19 [(0, .ref h), (1, .int y), (2, .ref (ad 1)), (3, .ref (ad 2)), (4, .ref (ad 3)), (5, .ref (ad 4)), (6, .ref (ad 5)), (7, .ref (ad 6)), (8, .ref (ad 7)), (9, .ref (ad 8)), (10, .ref (ad 9)), (11, .ref (ad 10)), (12, .ref (ad 11)), (13, .int (nI b)), (14, .int (nI (t_owf T b (k + 1)))), (15, .int (nI 0)), (16, .int (nI (k + 1)))]
                    rw [e_414]
                    exact lv_sub hl [4, 5, 6, 7, 8, 9, 10, 11, 12, 13, 14, 15, 16, 17, 1, 18, 0] rfl
                  · refine lv_aload hx hb dL_isTold_589 (lv_at hl 12 rfl) ?_
                    refine lv_iload hx hb dL_isTold_591 (lv_at hl 18 rfl) ?_
                    refine a_iald (f := 9) (n := 32) hx hb hKa hPa rfl (by omega) (by decide) dL_isTold_593 ?_
                    refine lv_iconst (v := nI 5) hx hb dL_isTold_594 (by decide) ?_
                    refine lv_ishr hx hb dL_isTold_595 ?_
                    rw [show (nI (T 9 k)) >>> ((nI 5) &&& 31) = nI ((T 9 k) / 32) from n_shrK (by have f1 : T 9 k ≤ 4194303 := hT.1 9 k; omega) (by decide) rfl]
                    refine lv_goto (tgt := 600) hx hb dL_isTold_596 (by decide) ?_
                    refine n_iadd hx hb dL_isTold_600 (z := (t_owf T b k) + ((T 9 k) / 32)) rfl ?_
                    refine lv_istore (lv' := [(14, .int (nI ((t_owf T b k) + ((T 9 k) / 32)))), (18, .int (nI r9)), (17, .int (nI ((T 9 k) % 32))), (0, .ref h), (1, .int y), (2, .ref (ad 1)), (3, .ref (ad 2)), (4, .ref (ad 3)), (5, .ref (ad 4)), (6, .ref (ad 5)), (7, .ref (ad 6)), (8, .ref (ad 7)), (9, .ref (ad 8)), (10, .ref (ad 9)), (11, .ref (ad 10)), (12, .ref (ad 11)), (13, .int (nI b)), (15, .int (nI 0)), (16, .int (nI k))]) hx hb dL_isTold_601 hl (by decide) rfl (fun ls hl => ?_)
                    refine n_iinc (k := 18) (lv' := [(16, .int (nI (k + 1))), (14, .int (nI ((t_owf T b k) + ((T 9 k) / 32)))), (18, .int (nI r9)), (17, .int (nI ((T 9 k) % 32))), (0, .ref h), (1, .int y), (2, .ref (ad 1)), (3, .ref (ad 2)), (4, .ref (ad 3)), (5, .ref (ad 4)), (6, .ref (ad 5)), (7, .ref (ad 6)), (8, .ref (ad 7)), (9, .ref (ad 8)), (10, .ref (ad 9)), (11, .ref (ad 10)), (12, .ref (ad 11)), (13, .int (nI b)), (15, .int (nI 0))]) hx hb dL_isTold_603 hl rfl (by decide) rfl (fun ls hl => ?_)
                    refine lv_goto (tgt := 502) hx hb dL_isTold_606 (by decide) ?_
                    have e_415 : t_owf T b (k + 1) = (t_owf T b k) + ((T 9 k) / 32) := by first | (rw [t_owf, if_pos ⟨by rw [← hr9]; assumption, by assumption⟩]; done) | (rw [t_owf, if_neg (fun z => absurd (hr9.trans z.1) (by assumption))]; done) | (rw [t_owf, if_neg (fun z => absurd z.2 (by assumption))]; done)
                    refine W.widen (k := ((((0 + 152 * 4) + 3 * (T 11 4)) + 55 + 1 * (T 11 5)) + 35 * b) + 1 * (k + 1)) (n := ((((0 + 4477 * 4) + 18 * (T 11 4)) + 442 + 6 * (T 11 5)) + 210 * b) + 6 * (k + 1)) (by omega) (by omega) ?_
                    refine ih_344 (by omega) ws_404 _ _ ⟨hPw, hc_406, hPa, hS⟩ ls ?_
                    show lv_has ls 19 [(0, .ref h), (1, .int y), (2, .ref (ad 1)), (3, .ref (ad 2)), (4, .ref (ad 3)), (5, .ref (ad 4)), (6, .ref (ad 5)), (7, .ref (ad 6)), (8, .ref (ad 7)), (9, .ref (ad 8)), (10, .ref (ad 9)), (11, .ref (ad 10)), (12, .ref (ad 11)), (13, .int (nI b)), (14, .int (nI (t_owf T b (k + 1)))), (15, .int (nI 0)), (16, .int (nI (k + 1)))]
                    rw [e_415]
                    exact lv_sub hl [4, 5, 6, 7, 8, 9, 10, 11, 12, 13, 14, 15, 16, 17, 1, 18, 0] rfl
              · have hk9 := hk_402
                refine lv_aload hx hb dL_isTold_522 (lv_at hl 9 rfl) ?_
                refine lv_iload hx hb dL_isTold_524 (lv_at hl 0 rfl) ?_
                refine vp_callSi (W.runS (As := [.ref (ad 7), .int (nI ((T 9 k) % 32))]) (rest := []) ⟨hx, hb, hml, hown, hts⟩ (ch_gone l D ad cI T hT ((T 9 k) % 32) (by have f1 : T 9 k ≤ 4194303 := hT.1 9 k; omega)) (va_cwS 2 hts gL_isTold_L_gone rfl rfl rfl kd_L_gone ⟨Nat.le_of_ble_eq_true rfl, Nat.le_of_ble_eq_true rfl⟩) ⟨aB_blind, a_pre hKa hPa _⟩ rfl rfl hl.1 rfl (lv_room (Nat.le_of_ble_eq_true rfl)) dL_isTold_526 ⟨by show (((((0 + 152 * 4) + 3 * (T 11 4)) + 55 + 1 * (T 11 5)) + 35 * b) + 1 * k) + 0 ≤ 1000; omega, by show (((((0 + 4477 * 4) + 18 * (T 11 4)) + 442 + 6 * (T 11 5)) + 210 * b) + 6 * k) + 0 ≤ 21000; omega⟩) (fun r_416 hr_416 => ?_)
                subst hr_416
                refine b_if_eq (tgt := 536) hx hb dL_isTold_529 (by decide)  (fun c_417 => ?_) (fun c_417 => ?_)
                · refine lv_aload hx hb dL_isTold_536 (lv_at hl 10 rfl) ?_
                  refine lv_aload hx hb dL_isTold_538 (lv_at hl 13 rfl) ?_
                  refine lv_iload hx hb dL_isTold_540 (lv_at hl 0 rfl) ?_
                  refine vp_callSi (W.runS (As := [.ref (ad 8), .ref (ad 11), .int (nI ((T 9 k) % 32))]) (rest := []) ⟨hx, hb, hml, hown, hts⟩ (ch_openOnes l D ad cI T hT ((T 9 k) % 32) (by have f1 : T 9 k ≤ 4194303 := hT.1 9 k; omega)) (va_cwS 3 hts gL_isTold_L_openOnes rfl rfl rfl kd_L_openOnes ⟨Nat.le_of_ble_eq_true rfl, Nat.le_of_ble_eq_true rfl⟩) ⟨aB_blind, a_pre hKa hPa _⟩ rfl rfl hl.1 rfl (lv_room (Nat.le_of_ble_eq_true rfl)) dL_isTold_542 ⟨by show (((((0 + 152 * 4) + 3 * (T 11 4)) + 55 + 1 * (T 11 5)) + 35 * b) + 1 * k) + 0 ≤ 1000; omega, by show (((((0 + 4477 * 4) + 18 * (T 11 4)) + 442 + 6 * (T 11 5)) + 210 * b) + 6 * k) + 0 ≤ 21000; omega⟩) (fun r_418 hr_418 => ?_)
                  subst hr_418
                  refine n_if_le (tgt := 552) hx hb dL_isTold_545 (by decide) (by have f1 : t_oo T ((T 9 k) % 32) ≤ T 11 5 := t_oof_le ((T 9 k) % 32) (T 11 5); have f2 : T 11 5 ≤ 32 := hT.2.2.2.2.1; omega) (fun c_419 => ?_) (fun c_419 => ?_)
                  · refine lv_iconst (v := nI 2) hx hb dL_isTold_552 (by decide) ?_
                    refine lv_istore (lv' := [(18, .int (nI 2)), (17, .int (nI ((T 9 k) % 32))), (0, .ref h), (1, .int y), (2, .ref (ad 1)), (3, .ref (ad 2)), (4, .ref (ad 3)), (5, .ref (ad 4)), (6, .ref (ad 5)), (7, .ref (ad 6)), (8, .ref (ad 7)), (9, .ref (ad 8)), (10, .ref (ad 9)), (11, .ref (ad 10)), (12, .ref (ad 11)), (13, .int (nI b)), (14, .int (nI (t_owf T b k))), (15, .int (nI 0)), (16, .int (nI k))]) hx hb dL_isTold_553 hl (by decide) rfl (fun ls hl => ?_)
                    exact hk_402 2 (by first | (simp [t_ru, c_417, c_419]; done) | (simp [t_ru, c_417, c_419]; omega)) ls (lv_sub hl [0, 1, 2, 3, 4, 5, 6, 7, 8, 9, 10, 11, 12, 13, 14, 15, 16, 17, 18] rfl)
                  · refine lv_iconst (v := nI 1) hx hb dL_isTold_548 (by decide) ?_
                    refine lv_goto (tgt := 553) hx hb dL_isTold_549 (by decide) ?_
                    refine lv_istore (lv' := [(18, .int (nI 1)), (17, .int (nI ((T 9 k) % 32))), (0, .ref h), (1, .int y), (2, .ref (ad 1)), (3, .ref (ad 2)), (4, .ref (ad 3)), (5, .ref (ad 4)), (6, .ref (ad 5)), (7, .ref (ad 6)), (8, .ref (ad 7)), (9, .ref (ad 8)), (10, .ref (ad 9)), (11, .ref (ad 10)), (12, .ref (ad 11)), (13, .int (nI b)), (14, .int (nI (t_owf T b k))), (15, .int (nI 0)), (16, .int (nI k))]) hx hb dL_isTold_553 hl (by decide) rfl (fun ls hl => ?_)
                    exact hk_402 1 (by first | (simp [t_ru, c_417, c_419]; done) | (simp [t_ru, c_417, c_419]; omega)) ls (lv_sub hl [0, 1, 2, 3, 4, 5, 6, 7, 8, 9, 10, 11, 12, 13, 14, 15, 16, 17, 18] rfl)
                · refine lv_iconst (v := nI 0) hx hb dL_isTold_532 (by decide) ?_
                  refine lv_goto (tgt := 553) hx hb dL_isTold_533 (by decide) ?_
                  refine lv_istore (lv' := [(18, .int (nI 0)), (17, .int (nI ((T 9 k) % 32))), (0, .ref h), (1, .int y), (2, .ref (ad 1)), (3, .ref (ad 2)), (4, .ref (ad 3)), (5, .ref (ad 4)), (6, .ref (ad 5)), (7, .ref (ad 6)), (8, .ref (ad 7)), (9, .ref (ad 8)), (10, .ref (ad 9)), (11, .ref (ad 10)), (12, .ref (ad 11)), (13, .int (nI b)), (14, .int (nI (t_owf T b k))), (15, .int (nI 0)), (16, .int (nI k))]) hx hb dL_isTold_553 hl (by decide) rfl (fun ls hl => ?_)
                  exact hk_402 0 (by first | (simp [t_ru, c_417]; done) | (simp [t_ru, c_417]; omega)) ls (lv_sub hl [0, 1, 2, 3, 4, 5, 6, 7, 8, 9, 10, 11, 12, 13, 14, 15, 16, 17, 18] rfl)
        · refine lv_aload_n hx hb dL_isTold_457 rfl (lv_at hl 0 rfl) ?_
          refine lv_iload hx hb dL_isTold_458 (lv_at hl 13 rfl) ?_
          refine va_calli (vx_runSW (As := [.ref h, .int (nI k)]) (rest := []) ⟨hx, hb, hml, hown, hts⟩ (cw_stateOf l hst D cI cO cb eA mi st dO dT vF ws_228 hc_232 hM_225 hsI (nI k)) (vx_cwSW 2 hts gL_isTold_L_stateOf rfl rfl rfl kd_L_stateOf ⟨Nat.le_of_ble_eq_true rfl, Nat.le_of_ble_eq_true rfl⟩) ⟨kB_blind, kB_pre hK hG hGT hN (fun q h9 => Or.inl h9) hS (fun q h9 => hA q (Nat.le_trans hS.1 h9)) hPw _⟩ rfl rfl hl.1 rfl (lv_room (Nat.le_of_ble_eq_true rfl)) dL_isTold_460 ⟨by show (((0 + 152 * 4) + 3 * (T 11 4)) + 55 + 1 * k) + 1 ≤ 1000; omega, by show (((0 + 4477 * 4) + 18 * (T 11 4)) + 442 + 6 * k) + 6 ≤ 21000; omega⟩) hS (fun _ _ h9 => Or.inl h9) (fun _ h9 => Or.inl h9) (fun r_420 ws_421 U8 H_425 locs_426 ht hvm hu_424 hB hz1 hk1 hS1 => ?_)
          obtain ⟨hr_422, hc_423⟩ := hu_424
          replace hB : va_P D vwCl ws_421 U8.heap := hB
          rw [ht] at hB
          replace hPa := aP_keep hPa hdB hAB hk1
          clear hPw hS
          have hPw := hB
          have hS := hS1
          clear hB hS1 hz1 hk1 hvm ht U8
          have hv9 : er (k_co M_225 (nI k)) (r_stateOf M_225 (nI k)) = nI (T 8 k / 512 % 4) := by exact hR_225.q_so hM_225 (by omega) (by omega) (by omega)
          rw [hv9] at hr_422
          clear hv9
          subst hr_422
          refine lv_aload hx hb dL_isTold_463 (lv_at hl 9 rfl) ?_
          refine lv_iload hx hb dL_isTold_465 (lv_at hl 13 rfl) ?_
          refine a_iald (f := 8) (n := 32) hx hb hKa hPa rfl (by omega) (by decide) dL_isTold_467 ?_
          refine lv_bipush (v := nI 9) hx hb dL_isTold_468 (by decide) ?_
          refine lv_ishr hx hb dL_isTold_470 ?_
          rw [show (nI (T 8 k)) >>> ((nI 9) &&& 31) = nI ((T 8 k) / 512) from n_shrK (by have f1 : T 8 k ≤ 16777215 := hT.1 8 k; omega) (by decide) rfl]
          refine lv_iconst (v := nI 3) hx hb dL_isTold_471 (by decide) ?_
          refine lv_iand hx hb dL_isTold_472 ?_
          rw [show (nI ((T 8 k) / 512)) &&& (nI 3) = nI (((T 8 k) / 512) % 4) from n_andK (k := 2) (by have f1 : T 8 k ≤ 16777215 := hT.1 8 k; omega) (by decide) (by decide) rfl]
          refine n_icmp_eq (tgt := 478) hx hb dL_isTold_473 (by decide) (by omega) (by have f1 : T 8 k ≤ 16777215 := hT.1 8 k; omega) (fun c_427 => ?_) (fun c_427 => absurd (by omega) c_427)
          refine n_iinc (k := 13) (lv' := [(13, .int (nI (k + 1))), (0, .ref h), (1, .int y), (2, .ref (ad 1)), (3, .ref (ad 2)), (4, .ref (ad 3)), (5, .ref (ad 4)), (6, .ref (ad 5)), (7, .ref (ad 6)), (8, .ref (ad 7)), (9, .ref (ad 8)), (10, .ref (ad 9)), (11, .ref (ad 10)), (12, .ref (ad 11))]) hx hb dL_isTold_478 hl rfl (by decide) rfl (fun ls hl => ?_)
          refine lv_goto (tgt := 448) hx hb dL_isTold_481 (by decide) ?_
          refine W.widen (k := ((0 + 152 * 4) + 3 * (T 11 4)) + 55 + 1 * (k + 1)) (n := ((0 + 4477 * 4) + 18 * (T 11 4)) + 442 + 6 * (k + 1)) (by omega) (by omega) ?_
          refine ih_227 (by omega) ws_421 _ _ ⟨hPw, hc_423, hPa, hS⟩ ls ?_
          show lv_has ls 19 [(0, .ref h), (1, .int y), (2, .ref (ad 1)), (3, .ref (ad 2)), (4, .ref (ad 3)), (5, .ref (ad 4)), (6, .ref (ad 5)), (7, .ref (ad 6)), (8, .ref (ad 7)), (9, .ref (ad 8)), (10, .ref (ad 9)), (11, .ref (ad 10)), (12, .ref (ad 11)), (13, .int (nI (k + 1)))]
          exact lv_sub hl [1, 2, 3, 4, 5, 6, 7, 8, 9, 10, 11, 12, 13, 0] rfl
    · refine lv_aload_n hx hb dL_isTold_335 rfl (lv_at hl 0 rfl) ?_
      refine lv_iload hx hb dL_isTold_336 (lv_at hl 13 rfl) ?_
      refine va_calli (vx_runSW (As := [.ref h, .int (nI k)]) (rest := []) ⟨hx, hb, hml, hown, hts⟩ (cw_winner l hst D cI cO cb eA mi st dO dT vF ws_11 hc_15 hM hsI (nI k)) (vx_cwSW 2 hts gL_isTold_L_winner rfl rfl rfl kd_L_winner ⟨Nat.le_of_ble_eq_true rfl, Nat.le_of_ble_eq_true rfl⟩) ⟨kB_blind, kB_pre hK hG hGT hN (fun q h9 => Or.inl h9) hS (fun q h9 => hA q (Nat.le_trans hS.1 h9)) hPw _⟩ rfl rfl hl.1 rfl (lv_room (Nat.le_of_ble_eq_true rfl)) dL_isTold_338 ⟨by show ((0 + 152 * 4) + 3 * k) + 1 ≤ 1000; omega, by show ((0 + 4477 * 4) + 18 * k) + 6 ≤ 21000; omega⟩) hS (fun _ _ h9 => Or.inl h9) (fun _ h9 => Or.inl h9) (fun r_428 ws_429 U8 H_433 locs_434 ht hvm hu_432 hB hz1 hk1 hS1 => ?_)
      obtain ⟨hr_430, hc_431⟩ := hu_432
      replace hB : va_P D vwCl ws_429 U8.heap := hB
      rw [ht] at hB
      replace hPa := aP_keep hPa hdB hAB hk1
      clear hPw hS
      have hPw := hB
      have hS := hS1
      clear hB hS1 hz1 hk1 hvm ht U8
      have hv9 : er (k_aw M (nI k)) (r_winner M (nI k)) = nI (T 7 k / 4 % 4) := by exact (hR.q_wi hM (by omega) (by omega)).1
      rw [hv9] at hr_430
      clear hv9
      subst hr_430
      refine lv_aload hx hb dL_isTold_341 (lv_at hl 8 rfl) ?_
      refine lv_iload hx hb dL_isTold_343 (lv_at hl 13 rfl) ?_
      refine a_iald (f := 7) (n := 32) hx hb hKa hPa rfl (by omega) (by decide) dL_isTold_345 ?_
      refine lv_iconst (v := nI 2) hx hb dL_isTold_346 (by decide) ?_
      refine lv_ishr hx hb dL_isTold_347 ?_
      rw [show (nI (T 7 k)) >>> ((nI 2) &&& 31) = nI ((T 7 k) / 4) from n_shrK (by have f1 : T 7 k ≤ 16777215 := hT.1 7 k; omega) (by decide) rfl]
      refine lv_iconst (v := nI 3) hx hb dL_isTold_348 (by decide) ?_
      refine lv_iand hx hb dL_isTold_349 ?_
      rw [show (nI ((T 7 k) / 4)) &&& (nI 3) = nI (((T 7 k) / 4) % 4) from n_andK (k := 2) (by have f1 : T 7 k ≤ 16777215 := hT.1 7 k; omega) (by decide) (by decide) rfl]
      refine n_icmp_ne (tgt := 406) hx hb dL_isTold_350 (by decide) (by omega) (by have f1 : T 7 k ≤ 16777215 := hT.1 7 k; omega) (fun c_435 => absurd (by omega) c_435) (fun c_435 => ?_)
      refine lv_aload_n hx hb dL_isTold_353 rfl (lv_at hl 0 rfl) ?_
      refine lv_iload hx hb dL_isTold_354 (lv_at hl 13 rfl) ?_
      refine va_calli (vx_runSW (As := [.ref h, .int (nI k)]) (rest := []) ⟨hx, hb, hml, hown, hts⟩ (cw_isVoid l hst D cI cO cb eA mi st dO dT vF ws_429 hc_431 hM hsI (nI k)) (vx_cwSW 2 hts gL_isTold_L_isVoid rfl rfl rfl kd_L_isVoid ⟨Nat.le_of_ble_eq_true rfl, Nat.le_of_ble_eq_true rfl⟩) ⟨kB_blind, kB_pre hK hG hGT hN (fun q h9 => Or.inl h9) hS (fun q h9 => hA q (Nat.le_trans hS.1 h9)) hPw _⟩ rfl rfl hl.1 rfl (lv_room (Nat.le_of_ble_eq_true rfl)) dL_isTold_356 ⟨by show (((0 + 152 * 4) + 3 * k) + 1) + 1 ≤ 1000; omega, by show (((0 + 4477 * 4) + 18 * k) + 6) + 6 ≤ 21000; omega⟩) hS (fun _ _ h9 => Or.inl h9) (fun _ h9 => Or.inl h9) (fun r_436 ws_437 U8 H_441 locs_442 ht hvm hu_440 hB hz1 hk1 hS1 => ?_)
      obtain ⟨hr_438, hc_439⟩ := hu_440
      replace hB : va_P D vwCl ws_437 U8.heap := hB
      rw [ht] at hB
      replace hPa := aP_keep hPa hdB hAB hk1
      clear hPw hS
      have hPw := hB
      have hS := hS1
      clear hB hS1 hz1 hk1 hvm ht U8
      have hv9 : er (k_aw M (nI k)) (bi (r_isVoid M (nI k))) = bi (t_gn T k) := by exact (hR.q_wi hM (by omega) (by omega)).2.1
      rw [hv9] at hr_438
      clear hv9
      subst hr_438
      refine lv_aload hx hb dL_isTold_359 (lv_at hl 8 rfl) ?_
      refine lv_iload hx hb dL_isTold_361 (lv_at hl 13 rfl) ?_
      refine vp_callSi (W.runS (As := [.ref (ad 7), .int (nI k)]) (rest := [.int (bi (t_gn T k))]) ⟨hx, hb, hml, hown, hts⟩ (ch_gone l D ad cI T hT k (by omega)) (va_cwS 2 hts gL_isTold_L_gone rfl rfl rfl kd_L_gone ⟨Nat.le_of_ble_eq_true rfl, Nat.le_of_ble_eq_true rfl⟩) ⟨aB_blind, a_pre hKa hPa _⟩ rfl rfl hl.1 rfl (lv_room (Nat.le_of_ble_eq_true rfl)) dL_isTold_363 ⟨by show ((((0 + 152 * 4) + 3 * k) + 1) + 1) + 0 ≤ 1000; omega, by show ((((0 + 4477 * 4) + 18 * k) + 6) + 6) + 0 ≤ 21000; omega⟩) (fun r_443 hr_443 => ?_)
      subst hr_443
      refine b_if_eq (tgt := 373) hx hb dL_isTold_366 (by decide)  (fun c_444 => ?_) (fun c_444 => ?_)
      · rw [show bi (t_gn T k) = nI 0 from by rw [c_444]; rfl]
        refine lv_iconst (v := nI 0) hx hb dL_isTold_373 (by decide) ?_
        refine n_icmp_ne (tgt := 406) hx hb dL_isTold_374 (by decide) (by decide) (by decide) (fun c9 => absurd c9 (by decide)) (fun _ => ?_)
        refine lv_aload_n hx hb dL_isTold_377 rfl (lv_at hl 0 rfl) ?_
        refine lv_iload hx hb dL_isTold_378 (lv_at hl 13 rfl) ?_
        refine va_calli (vx_runSW (As := [.ref h, .int (nI k)]) (rest := []) ⟨hx, hb, hml, hown, hts⟩ (cw_isFinal l hst D cI cO cb eA mi st dO dT vF ws_437 hc_439 hM hsI (nI k)) (vx_cwSW 2 hts gL_isTold_L_isFinal rfl rfl rfl kd_L_isFinal ⟨Nat.le_of_ble_eq_true rfl, Nat.le_of_ble_eq_true rfl⟩) ⟨kB_blind, kB_pre hK hG hGT hN (fun q h9 => Or.inl h9) hS (fun q h9 => hA q (Nat.le_trans hS.1 h9)) hPw _⟩ rfl rfl hl.1 rfl (lv_room (Nat.le_of_ble_eq_true rfl)) dL_isTold_380 ⟨by show ((((0 + 152 * 4) + 3 * k) + 1) + 1) + 1 ≤ 1000; omega, by show ((((0 + 4477 * 4) + 18 * k) + 6) + 6) + 6 ≤ 21000; omega⟩) hS (fun _ _ h9 => Or.inl h9) (fun _ h9 => Or.inl h9) (fun r_445 ws_446 U8 H_450 locs_451 ht hvm hu_449 hB hz1 hk1 hS1 => ?_)
        obtain ⟨hr_447, hc_448⟩ := hu_449
        replace hB : va_P D vwCl ws_446 U8.heap := hB
        rw [ht] at hB
        replace hPa := aP_keep hPa hdB hAB hk1
        clear hPw hS
        have hPw := hB
        have hS := hS1
        clear hB hS1 hz1 hk1 hvm ht U8
        have hv9 : er (k_aw M (nI k)) (bi (r_isFinal M (nI k))) = bi (t_se T k) := by exact (hR.q_wi hM (by omega) (by omega)).2.2
        rw [hv9] at hr_447
        clear hv9
        subst hr_447
        refine lv_aload_n hx hb dL_isTold_383 rfl (lv_at hl 2 rfl) ?_
        refine lv_aload hx hb dL_isTold_384 (lv_at hl 8 rfl) ?_
        refine lv_aload hx hb dL_isTold_386 (lv_at hl 9 rfl) ?_
        refine lv_aload hx hb dL_isTold_388 (lv_at hl 12 rfl) ?_
        refine lv_iload hx hb dL_isTold_390 (lv_at hl 13 rfl) ?_
        refine vp_callSi (W.runS (As := [.ref (ad 1), .ref (ad 7), .ref (ad 8), .ref (ad 11), .int (nI k)]) (rest := [.int (bi (t_se T k))]) ⟨hx, hb, hml, hown, hts⟩ (ch_settled l D ad cI T hT k (by omega)) (va_cwS 5 hts gL_isTold_L_settled rfl rfl rfl kd_L_settled ⟨Nat.le_of_ble_eq_true rfl, Nat.le_of_ble_eq_true rfl⟩) ⟨aB_blind, a_pre hKa hPa _⟩ rfl rfl hl.1 rfl (lv_room (Nat.le_of_ble_eq_true rfl)) dL_isTold_392 ⟨by show (((((0 + 152 * 4) + 3 * k) + 1) + 1) + 1) + 0 ≤ 1000; omega, by show (((((0 + 4477 * 4) + 18 * k) + 6) + 6) + 6) + 0 ≤ 21000; omega⟩) (fun r_452 hr_452 => ?_)
        subst hr_452
        refine b_if_eq (tgt := 402) hx hb dL_isTold_395 (by decide)  (fun c_453 => ?_) (fun c_453 => ?_)
        · rw [show bi (t_se T k) = nI 0 from by rw [c_453]; rfl]
          refine lv_iconst (v := nI 0) hx hb dL_isTold_402 (by decide) ?_
          refine n_icmp_eq (tgt := 408) hx hb dL_isTold_403 (by decide) (by decide) (by decide) (fun _ => ?_) (fun c9 => absurd c9 (by decide))
          refine n_iinc (k := 13) (lv' := [(13, .int (nI (k + 1))), (0, .ref h), (1, .int y), (2, .ref (ad 1)), (3, .ref (ad 2)), (4, .ref (ad 3)), (5, .ref (ad 4)), (6, .ref (ad 5)), (7, .ref (ad 6)), (8, .ref (ad 7)), (9, .ref (ad 8)), (10, .ref (ad 9)), (11, .ref (ad 10)), (12, .ref (ad 11))]) hx hb dL_isTold_408 hl rfl (by decide) rfl (fun ls hl => ?_)
          refine lv_goto (tgt := 326) hx hb dL_isTold_411 (by decide) ?_
          refine W.widen (k := (0 + 152 * 4) + 3 * (k + 1)) (n := (0 + 4477 * 4) + 18 * (k + 1)) (by omega) (by omega) ?_
          refine ih_10 (by omega) ws_446 _ _ ⟨hPw, hc_448, hPa, hS⟩ ls ?_
          show lv_has ls 19 [(0, .ref h), (1, .int y), (2, .ref (ad 1)), (3, .ref (ad 2)), (4, .ref (ad 3)), (5, .ref (ad 4)), (6, .ref (ad 5)), (7, .ref (ad 6)), (8, .ref (ad 7)), (9, .ref (ad 8)), (10, .ref (ad 9)), (11, .ref (ad 10)), (12, .ref (ad 11)), (13, .int (nI (k + 1)))]
          exact lv_sub hl [1, 2, 3, 4, 5, 6, 7, 8, 9, 10, 11, 12, 13, 0] rfl
        · rw [show bi (t_se T k) = nI 1 from by rw [c_453]; rfl]
          refine lv_iconst (v := nI 1) hx hb dL_isTold_398 (by decide) ?_
          refine lv_goto (tgt := 403) hx hb dL_isTold_399 (by decide) ?_
          refine n_icmp_eq (tgt := 408) hx hb dL_isTold_403 (by decide) (by decide) (by decide) (fun _ => ?_) (fun c9 => absurd c9 (by decide))
          refine n_iinc (k := 13) (lv' := [(13, .int (nI (k + 1))), (0, .ref h), (1, .int y), (2, .ref (ad 1)), (3, .ref (ad 2)), (4, .ref (ad 3)), (5, .ref (ad 4)), (6, .ref (ad 5)), (7, .ref (ad 6)), (8, .ref (ad 7)), (9, .ref (ad 8)), (10, .ref (ad 9)), (11, .ref (ad 10)), (12, .ref (ad 11))]) hx hb dL_isTold_408 hl rfl (by decide) rfl (fun ls hl => ?_)
          refine lv_goto (tgt := 326) hx hb dL_isTold_411 (by decide) ?_
          refine W.widen (k := (0 + 152 * 4) + 3 * (k + 1)) (n := (0 + 4477 * 4) + 18 * (k + 1)) (by omega) (by omega) ?_
          refine ih_10 (by omega) ws_446 _ _ ⟨hPw, hc_448, hPa, hS⟩ ls ?_
          show lv_has ls 19 [(0, .ref h), (1, .int y), (2, .ref (ad 1)), (3, .ref (ad 2)), (4, .ref (ad 3)), (5, .ref (ad 4)), (6, .ref (ad 5)), (7, .ref (ad 6)), (8, .ref (ad 7)), (9, .ref (ad 8)), (10, .ref (ad 9)), (11, .ref (ad 10)), (12, .ref (ad 11)), (13, .int (nI (k + 1)))]
          exact lv_sub hl [1, 2, 3, 4, 5, 6, 7, 8, 9, 10, 11, 12, 13, 0] rfl
      · rw [show bi (t_gn T k) = nI 1 from by rw [c_444]; rfl]
        refine lv_iconst (v := nI 1) hx hb dL_isTold_369 (by decide) ?_
        refine lv_goto (tgt := 374) hx hb dL_isTold_370 (by decide) ?_
        refine n_icmp_ne (tgt := 406) hx hb dL_isTold_374 (by decide) (by decide) (by decide) (fun c9 => absurd c9 (by decide)) (fun _ => ?_)
        refine lv_aload_n hx hb dL_isTold_377 rfl (lv_at hl 0 rfl) ?_
        refine lv_iload hx hb dL_isTold_378 (lv_at hl 13 rfl) ?_
        refine va_calli (vx_runSW (As := [.ref h, .int (nI k)]) (rest := []) ⟨hx, hb, hml, hown, hts⟩ (cw_isFinal l hst D cI cO cb eA mi st dO dT vF ws_437 hc_439 hM hsI (nI k)) (vx_cwSW 2 hts gL_isTold_L_isFinal rfl rfl rfl kd_L_isFinal ⟨Nat.le_of_ble_eq_true rfl, Nat.le_of_ble_eq_true rfl⟩) ⟨kB_blind, kB_pre hK hG hGT hN (fun q h9 => Or.inl h9) hS (fun q h9 => hA q (Nat.le_trans hS.1 h9)) hPw _⟩ rfl rfl hl.1 rfl (lv_room (Nat.le_of_ble_eq_true rfl)) dL_isTold_380 ⟨by show ((((0 + 152 * 4) + 3 * k) + 1) + 1) + 1 ≤ 1000; omega, by show ((((0 + 4477 * 4) + 18 * k) + 6) + 6) + 6 ≤ 21000; omega⟩) hS (fun _ _ h9 => Or.inl h9) (fun _ h9 => Or.inl h9) (fun r_454 ws_455 U8 H_459 locs_460 ht hvm hu_458 hB hz1 hk1 hS1 => ?_)
        obtain ⟨hr_456, hc_457⟩ := hu_458
        replace hB : va_P D vwCl ws_455 U8.heap := hB
        rw [ht] at hB
        replace hPa := aP_keep hPa hdB hAB hk1
        clear hPw hS
        have hPw := hB
        have hS := hS1
        clear hB hS1 hz1 hk1 hvm ht U8
        have hv9 : er (k_aw M (nI k)) (bi (r_isFinal M (nI k))) = bi (t_se T k) := by exact (hR.q_wi hM (by omega) (by omega)).2.2
        rw [hv9] at hr_456
        clear hv9
        subst hr_456
        refine lv_aload_n hx hb dL_isTold_383 rfl (lv_at hl 2 rfl) ?_
        refine lv_aload hx hb dL_isTold_384 (lv_at hl 8 rfl) ?_
        refine lv_aload hx hb dL_isTold_386 (lv_at hl 9 rfl) ?_
        refine lv_aload hx hb dL_isTold_388 (lv_at hl 12 rfl) ?_
        refine lv_iload hx hb dL_isTold_390 (lv_at hl 13 rfl) ?_
        refine vp_callSi (W.runS (As := [.ref (ad 1), .ref (ad 7), .ref (ad 8), .ref (ad 11), .int (nI k)]) (rest := [.int (bi (t_se T k))]) ⟨hx, hb, hml, hown, hts⟩ (ch_settled l D ad cI T hT k (by omega)) (va_cwS 5 hts gL_isTold_L_settled rfl rfl rfl kd_L_settled ⟨Nat.le_of_ble_eq_true rfl, Nat.le_of_ble_eq_true rfl⟩) ⟨aB_blind, a_pre hKa hPa _⟩ rfl rfl hl.1 rfl (lv_room (Nat.le_of_ble_eq_true rfl)) dL_isTold_392 ⟨by show (((((0 + 152 * 4) + 3 * k) + 1) + 1) + 1) + 0 ≤ 1000; omega, by show (((((0 + 4477 * 4) + 18 * k) + 6) + 6) + 6) + 0 ≤ 21000; omega⟩) (fun r_461 hr_461 => ?_)
        subst hr_461
        refine b_if_eq (tgt := 402) hx hb dL_isTold_395 (by decide)  (fun c_462 => ?_) (fun c_462 => ?_)
        · rw [show bi (t_se T k) = nI 0 from by rw [c_462]; rfl]
          refine lv_iconst (v := nI 0) hx hb dL_isTold_402 (by decide) ?_
          refine n_icmp_eq (tgt := 408) hx hb dL_isTold_403 (by decide) (by decide) (by decide) (fun _ => ?_) (fun c9 => absurd c9 (by decide))
          refine n_iinc (k := 13) (lv' := [(13, .int (nI (k + 1))), (0, .ref h), (1, .int y), (2, .ref (ad 1)), (3, .ref (ad 2)), (4, .ref (ad 3)), (5, .ref (ad 4)), (6, .ref (ad 5)), (7, .ref (ad 6)), (8, .ref (ad 7)), (9, .ref (ad 8)), (10, .ref (ad 9)), (11, .ref (ad 10)), (12, .ref (ad 11))]) hx hb dL_isTold_408 hl rfl (by decide) rfl (fun ls hl => ?_)
          refine lv_goto (tgt := 326) hx hb dL_isTold_411 (by decide) ?_
          refine W.widen (k := (0 + 152 * 4) + 3 * (k + 1)) (n := (0 + 4477 * 4) + 18 * (k + 1)) (by omega) (by omega) ?_
          refine ih_10 (by omega) ws_455 _ _ ⟨hPw, hc_457, hPa, hS⟩ ls ?_
          show lv_has ls 19 [(0, .ref h), (1, .int y), (2, .ref (ad 1)), (3, .ref (ad 2)), (4, .ref (ad 3)), (5, .ref (ad 4)), (6, .ref (ad 5)), (7, .ref (ad 6)), (8, .ref (ad 7)), (9, .ref (ad 8)), (10, .ref (ad 9)), (11, .ref (ad 10)), (12, .ref (ad 11)), (13, .int (nI (k + 1)))]
          exact lv_sub hl [1, 2, 3, 4, 5, 6, 7, 8, 9, 10, 11, 12, 13, 0] rfl
        · rw [show bi (t_se T k) = nI 1 from by rw [c_462]; rfl]
          refine lv_iconst (v := nI 1) hx hb dL_isTold_398 (by decide) ?_
          refine lv_goto (tgt := 403) hx hb dL_isTold_399 (by decide) ?_
          refine n_icmp_eq (tgt := 408) hx hb dL_isTold_403 (by decide) (by decide) (by decide) (fun _ => ?_) (fun c9 => absurd c9 (by decide))
          refine n_iinc (k := 13) (lv' := [(13, .int (nI (k + 1))), (0, .ref h), (1, .int y), (2, .ref (ad 1)), (3, .ref (ad 2)), (4, .ref (ad 3)), (5, .ref (ad 4)), (6, .ref (ad 5)), (7, .ref (ad 6)), (8, .ref (ad 7)), (9, .ref (ad 8)), (10, .ref (ad 9)), (11, .ref (ad 10)), (12, .ref (ad 11))]) hx hb dL_isTold_408 hl rfl (by decide) rfl (fun ls hl => ?_)
          refine lv_goto (tgt := 326) hx hb dL_isTold_411 (by decide) ?_
          refine W.widen (k := (0 + 152 * 4) + 3 * (k + 1)) (n := (0 + 4477 * 4) + 18 * (k + 1)) (by omega) (by omega) ?_
          refine ih_10 (by omega) ws_455 _ _ ⟨hPw, hc_457, hPa, hS⟩ ls ?_
          show lv_has ls 19 [(0, .ref h), (1, .int y), (2, .ref (ad 1)), (3, .ref (ad 2)), (4, .ref (ad 3)), (5, .ref (ad 4)), (6, .ref (ad 5)), (7, .ref (ad 6)), (8, .ref (ad 7)), (9, .ref (ad 8)), (10, .ref (ad 9)), (11, .ref (ad 10)), (12, .ref (ad 11)), (13, .int (nI (k + 1)))]
          exact lv_sub hl [1, 2, 3, 4, 5, 6, 7, 8, 9, 10, 11, 12, 13, 0] rfl
  · refine lv_aload_n hx hb dL_isTold_9 rfl (lv_at hl 3 rfl) ?_
    refine lv_iload hx hb dL_isTold_10 (lv_at hl 13 rfl) ?_
    refine a_iald2 hx hb hKa hPa (by omega) dL_isTold_12 ?_
    refine lv_if_ge (tgt := 19) hx hb dL_isTold_13 (by decide)  (fun c_463 => ?_) (fun c_463 => ?_)
    · rw [l_ge0 (by have f9 : T 2 j ≤ 10001 := hT.1 2 j; omega)] at c_463
      have hlz : T 2 j ≠ 0 := c_463
      have lo9 := hR.lot3 hlz (by omega)
      have w9 := hR.w100 hM lo9.2.1
      refine lv_iconst (v := nI 0) hx hb dL_isTold_19 (by decide) ?_
      refine lv_istore (lv' := [(14, .int (nI 0)), (0, .ref h), (1, .int y), (2, .ref (ad 1)), (3, .ref (ad 2)), (4, .ref (ad 3)), (5, .ref (ad 4)), (6, .ref (ad 5)), (7, .ref (ad 6)), (8, .ref (ad 7)), (9, .ref (ad 8)), (10, .ref (ad 9)), (11, .ref (ad 10)), (12, .ref (ad 11)), (13, .int (nI j))]) hx hb dL_isTold_20 hl (by decide) rfl (fun ls hl => ?_)
      refine lv_iconst (v := nI 0) hx hb dL_isTold_22 (by decide) ?_
      refine lv_istore (lv' := [(15, .int (nI 0)), (14, .int (nI 0)), (0, .ref h), (1, .int y), (2, .ref (ad 1)), (3, .ref (ad 2)), (4, .ref (ad 3)), (5, .ref (ad 4)), (6, .ref (ad 5)), (7, .ref (ad 6)), (8, .ref (ad 7)), (9, .ref (ad 8)), (10, .ref (ad 9)), (11, .ref (ad 10)), (12, .ref (ad 11)), (13, .int (nI j))]) hx hb dL_isTold_23 hl (by decide) rfl (fun ls hl => ?_)
      have eI_464 : t_sts T j 0 = 0 := by rfl
      refine W.widen (k := (0 + 152 * j) + 24 * 0) (n := (0 + 4477 * j) + 857 * 0) (by omega) (by omega) ?_
      refine w_loopX (σ := va_W) (n := 5) (nL := 19) (fun pl _ => [(0, .ref h), (1, .int y), (2, .ref (ad 1)), (3, .ref (ad 2)), (4, .ref (ad 3)), (5, .ref (ad 4)), (6, .ref (ad 5)), (7, .ref (ad 6)), (8, .ref (ad 7)), (9, .ref (ad 8)), (10, .ref (ad 9)), (11, .ref (ad 10)), (12, .ref (ad 11)), (13, .int (nI j)), (14, .int (nI (t_sts T j pl))), (15, .int (nI pl))]) (fun pl ws9 H9 locs9 => va_P D vwCl ws9 H9 ∧ cSt cI cO eA st A h M ws9 ∧ va_P D vwCl (aws ad cI T) H9 ∧ va_S (fun q => A q ∨ B q) s.heap H9 locs9) (fun pl => (0 + 152 * j) + 24 * pl) (fun pl => (0 + 4477 * j) + 857 * pl) (fun pl hb_465 ws_467 H_469 locs_470 hJ_468 ih_466 ls hl => ?_) 0 (by omega) ws_3 _ _ ⟨hPw, hc_7, hPa, hS⟩ ls (lv_sub hl [2, 3, 4, 5, 6, 7, 8, 9, 10, 11, 12, 13, 14, 15, 1, 0] (by show lv_pick _ _ = [(0, .ref h), (1, .int y), (2, .ref (ad 1)), (3, .ref (ad 2)), (4, .ref (ad 3)), (5, .ref (ad 4)), (6, .ref (ad 5)), (7, .ref (ad 6)), (8, .ref (ad 7)), (9, .ref (ad 8)), (10, .ref (ad 9)), (11, .ref (ad 10)), (12, .ref (ad 11)), (13, .int (nI j)), (14, .int (nI (t_sts T j 0))), (15, .int (nI 0))]; rw [eI_464]; rfl))
      clear hPw hPa hS
      obtain ⟨hPw, hc_471, hPa, hS⟩ := hJ_468
      show W _ _ _ _ _ _ _ _ _ _ _ _ ((0 + 152 * j) + 24 * pl) ((0 + 4477 * j) + 857 * pl) _ _
      refine lv_iload hx hb dL_isTold_25 (lv_at hl 15 rfl) ?_
      refine lv_iconst (v := nI 5) hx hb dL_isTold_27 (by decide) ?_
      refine n_icmp_ge (tgt := 142) hx hb dL_isTold_28 (by decide) (by omega) (by decide) (fun c_472 => ?_) (fun c_472 => ?_)
      · obtain rfl : 5 = pl := by omega
        refine lv_iconst (v := nI 0) hx hb dL_isTold_142 (by decide) ?_
        refine lv_istore (lv' := [(15, .int (nI 0)), (0, .ref h), (1, .int y), (2, .ref (ad 1)), (3, .ref (ad 2)), (4, .ref (ad 3)), (5, .ref (ad 4)), (6, .ref (ad 5)), (7, .ref (ad 6)), (8, .ref (ad 7)), (9, .ref (ad 8)), (10, .ref (ad 9)), (11, .ref (ad 10)), (12, .ref (ad 11)), (13, .int (nI j)), (14, .int (nI (t_sts T j 5)))]) hx hb dL_isTold_143 hl (by decide) rfl (fun ls hl => ?_)
        refine W.widen (k := ((0 + 152 * j) + 24 * 5) + 6 * 0) (n := ((0 + 4477 * j) + 857 * 5) + 36 * 0) (by omega) (by omega) ?_
        refine w_loopX (σ := va_W) (n := 4) (nL := 19) (fun b _ => [(0, .ref h), (1, .int y), (2, .ref (ad 1)), (3, .ref (ad 2)), (4, .ref (ad 3)), (5, .ref (ad 4)), (6, .ref (ad 5)), (7, .ref (ad 6)), (8, .ref (ad 7)), (9, .ref (ad 8)), (10, .ref (ad 9)), (11, .ref (ad 10)), (12, .ref (ad 11)), (13, .int (nI j)), (15, .int (nI b))]) (fun b ws9 H9 locs9 => va_P D vwCl ws9 H9 ∧ cSt cI cO eA st A h M ws9 ∧ va_P D vwCl (aws ad cI T) H9 ∧ va_S (fun q => A q ∨ B q) s.heap H9 locs9) (fun b => ((0 + 152 * j) + 24 * 5) + 6 * b) (fun b => ((0 + 4477 * j) + 857 * 5) + 36 * b) (fun b hb_473 ws_475 H_477 locs_478 hJ_476 ih_474 ls hl => ?_) 0 (by omega) ws_467 _ _ ⟨hPw, hc_471, hPa, hS⟩ ls (lv_sub hl [1, 2, 3, 4, 5, 6, 7, 8, 9, 10, 11, 12, 13, 14, 0] rfl)
        clear hPw hPa hS
        obtain ⟨hPw, hc_479, hPa, hS⟩ := hJ_476
        show W _ _ _ _ _ _ _ _ _ _ _ _ (((0 + 152 * j) + 24 * 5) + 6 * b) (((0 + 4477 * j) + 857 * 5) + 36 * b) _ _
        refine lv_iload hx hb dL_isTold_145 (lv_at hl 14 rfl) ?_
        refine lv_iconst (v := nI 4) hx hb dL_isTold_147 (by decide) ?_
        refine n_icmp_ge (tgt := 252) hx hb dL_isTold_148 (by decide) (by omega) (by decide) (fun c_480 => ?_) (fun c_480 => ?_)
        · obtain rfl : 4 = b := by omega
          refine lv_aload_n hx hb dL_isTold_252 rfl (lv_at hl 0 rfl) ?_
          refine lv_iload hx hb dL_isTold_253 (lv_at hl 13 rfl) ?_
          refine lv_iconst (v := nI 2) hx hb dL_isTold_255 (by decide) ?_
          refine n_idiv hx hb dL_isTold_256 (z := j / 2) (by omega) (by decide) (by decide) rfl ?_
          refine lv_iload hx hb dL_isTold_257 (lv_at hl 13 rfl) ?_
          refine lv_iconst (v := nI 2) hx hb dL_isTold_259 (by decide) ?_
          refine n_irem hx hb dL_isTold_260 (z := j % 2) (by omega) (by decide) (by decide) rfl ?_
          refine va_calli (vx_runSW (As := [.ref h, .int (nI (j / 2)), .int (nI (j % 2))]) (rest := []) ⟨hx, hb, hml, hown, hts⟩ (cw_awardOf l hst D cI cO cb eA mi st dO dT vF ws_475 hc_479 hM hsI (nI (j / 2)) (nI (j % 2))) (vx_cwSW 3 hts gL_isTold_L_awardOf rfl rfl rfl kd_L_awardOf ⟨Nat.le_of_ble_eq_true rfl, Nat.le_of_ble_eq_true rfl⟩) ⟨kB_blind, kB_pre hK hG hGT hN (fun q h9 => Or.inl h9) hS (fun q h9 => hA q (Nat.le_trans hS.1 h9)) hPw _⟩ rfl rfl hl.1 rfl (lv_room (Nat.le_of_ble_eq_true rfl)) dL_isTold_261 ⟨by show (((0 + 152 * j) + 24 * 5) + 6 * 4) + 2 ≤ 1000; omega, by show (((0 + 4477 * j) + 857 * 5) + 36 * 4) + 12 ≤ 21000; omega⟩) hS (fun _ _ h9 => Or.inl h9) (fun _ h9 => Or.inl h9) (fun r_481 ws_482 U8 H_486 locs_487 ht hvm hu_485 hB hz1 hk1 hS1 => ?_)
          obtain ⟨hr_483, hc_484⟩ := hu_485
          replace hB : va_P D vwCl ws_482 U8.heap := hB
          rw [ht] at hB
          replace hPa := aP_keep hPa hdB hAB hk1
          clear hPw hS
          have hPw := hB
          have hS := hS1
          clear hB hS1 hz1 hk1 hvm ht U8
          have hv9 : er (k_lot M (nI (j / 2)) (nI (j % 2))) (r_awardOf M (nI (j / 2)) (nI (j % 2))) = optI (t_st T j) := by exact hR.q_ao hM hU (by omega) hlz
          rw [hv9] at hr_483
          clear hv9
          subst hr_483
          refine lv_aload hx hb dL_isTold_264 (lv_at hl 8 rfl) ?_
          refine lv_aload hx hb dL_isTold_266 (lv_at hl 12 rfl) ?_
          refine lv_iload hx hb dL_isTold_268 (lv_at hl 13 rfl) ?_
          refine vp_callSi (W.runS (As := [.ref (ad 7), .ref (ad 11), .int (nI j)]) (rest := [.int (optI (t_st T j))]) ⟨hx, hb, hml, hown, hts⟩ (ch_standing l D ad cI T hT j (by omega)) (va_cwS 3 hts gL_isTold_L_standing rfl rfl rfl kd_L_standing ⟨Nat.le_of_ble_eq_true rfl, Nat.le_of_ble_eq_true rfl⟩) ⟨aB_blind, a_pre hKa hPa _⟩ rfl rfl hl.1 rfl (lv_room (Nat.le_of_ble_eq_true rfl)) dL_isTold_270 ⟨by show ((((0 + 152 * j) + 24 * 5) + 6 * 4) + 2) + 0 ≤ 1000; omega, by show ((((0 + 4477 * j) + 857 * 5) + 36 * 4) + 12) + 0 ≤ 21000; omega⟩) (fun r_488 hr_488 => ?_)
          subst hr_488
          rcases ho_489 : t_st T j with _ | o_489
          · have hn1 : optI (none : Option Nat) = (-1) := rfl
            rw [hn1]
            refine lv_icmp_ne (tgt := 315) hx hb dL_isTold_273 (by decide)  (fun c9 => absurd c9 (by decide)) (fun _ => ?_)
            refine lv_aload_n hx hb dL_isTold_276 rfl (lv_at hl 0 rfl) ?_
            refine lv_iload hx hb dL_isTold_277 (lv_at hl 13 rfl) ?_
            refine lv_iconst (v := nI 2) hx hb dL_isTold_279 (by decide) ?_
            refine n_idiv hx hb dL_isTold_280 (z := j / 2) (by omega) (by decide) (by decide) rfl ?_
            refine lv_iload hx hb dL_isTold_281 (lv_at hl 13 rfl) ?_
            refine lv_iconst (v := nI 2) hx hb dL_isTold_283 (by decide) ?_
            refine n_irem hx hb dL_isTold_284 (z := j % 2) (by omega) (by decide) (by decide) rfl ?_
            refine lv_iconst (v := (-1)) hx hb dL_isTold_285 (by decide) ?_
            refine va_calli (vx_runSW (As := [.ref h, .int (nI (j / 2)), .int (nI (j % 2)), .int (-1)]) (rest := []) ⟨hx, hb, hml, hown, hts⟩ (cw_ranked l hst D cI cO cb eA mi st dO dT vF ws_482 hc_484 hM hsI (nI (j / 2)) (nI (j % 2)) (-1)) (vx_cwSW 4 hts gL_isTold_L_ranked rfl rfl rfl kd_L_ranked ⟨Nat.le_of_ble_eq_true rfl, Nat.le_of_ble_eq_true rfl⟩) ⟨kB_blind, kB_pre hK hG hGT hN (fun q h9 => Or.inl h9) hS (fun q h9 => hA q (Nat.le_trans hS.1 h9)) hPw _⟩ rfl rfl hl.1 rfl (lv_room (Nat.le_of_ble_eq_true rfl)) dL_isTold_286 ⟨by show ((((0 + 152 * j) + 24 * 5) + 6 * 4) + 2) + 3 ≤ 1000; omega, by show ((((0 + 4477 * j) + 857 * 5) + 36 * 4) + 12) + 18 ≤ 21000; omega⟩) hS (fun _ _ h9 => Or.inl h9) (fun _ h9 => Or.inl h9) (fun r_490 ws_491 U8 H_495 locs_496 ht hvm hu_494 hB hz1 hk1 hS1 => ?_)
            obtain ⟨hr_492, hc_493⟩ := hu_494
            replace hB : va_P D vwCl ws_491 U8.heap := hB
            rw [ht] at hB
            replace hPa := aP_keep hPa hdB hAB hk1
            clear hPw hS
            have hPw := hB
            have hS := hS1
            clear hB hS1 hz1 hk1 hvm ht U8
            have hk_497 : k_ranked M (nI (j / 2)) (nI (j % 2)) (-1) = 2 := by exact rk_2 (by rw [hR.lotB hM (by omega)]; exact decide_eq_true hlz) (by decide)
            rw [hk_497] at hr_492
            replace hr_492 : r_490 = (-7200) := hr_492
            subst hr_492
            clear hk_497
            refine lv_sipush (v := (-7200)) hx hb dL_isTold_289 (by decide) ?_
            refine lv_icmp_ne (tgt := 315) hx hb dL_isTold_292 (by decide)  (fun c9 => absurd c9 (by decide)) (fun _ => ?_)
            refine lv_aload_n hx hb dL_isTold_295 rfl (lv_at hl 0 rfl) ?_
            refine lv_bipush (v := nI 8) hx hb dL_isTold_296 (by decide) ?_
            refine lv_iload hx hb dL_isTold_298 (lv_at hl 13 rfl) ?_
            refine lv_iconst (v := nI 2) hx hb dL_isTold_300 (by decide) ?_
            refine n_idiv hx hb dL_isTold_301 (z := j / 2) (by omega) (by decide) (by decide) rfl ?_
            refine lv_iload hx hb dL_isTold_302 (lv_at hl 13 rfl) ?_
            refine lv_iconst (v := nI 2) hx hb dL_isTold_304 (by decide) ?_
            refine n_irem hx hb dL_isTold_305 (z := j % 2) (by omega) (by decide) (by decide) rfl ?_
            refine va_calli (vx_runSW (As := [.ref h, .int (nI 8), .int (nI (j / 2)), .int (nI (j % 2))]) (rest := []) ⟨hx, hb, hml, hown, hts⟩ (cw_score l hst D cI cO cb eA mi st dO dT vF ws_491 hc_493 hM hsI (nI 8) (nI (j / 2)) (nI (j % 2))) (vx_cwSW 4 hts gL_isTold_L_score rfl rfl rfl kd_L_score ⟨Nat.le_of_ble_eq_true rfl, Nat.le_of_ble_eq_true rfl⟩) ⟨kB_blind, kB_pre hK hG hGT hN (fun q h9 => Or.inl h9) hS (fun q h9 => hA q (Nat.le_trans hS.1 h9)) hPw _⟩ rfl rfl hl.1 rfl (lv_room (Nat.le_of_ble_eq_true rfl)) dL_isTold_306 ⟨by show (((((0 + 152 * j) + 24 * 5) + 6 * 4) + 2) + 3) + 3 ≤ 1000; omega, by show (((((0 + 4477 * j) + 857 * 5) + 36 * 4) + 12) + 18) + 18 ≤ 21000; omega⟩) hS (fun _ _ h9 => Or.inl h9) (fun _ h9 => Or.inl h9) (fun r_498 ws_499 U8 H_503 locs_504 ht hvm hu_502 hB hz1 hk1 hS1 => ?_)
            obtain ⟨hr_500, hc_501⟩ := hu_502
            replace hB : va_P D vwCl ws_499 U8.heap := hB
            rw [ht] at hB
            replace hPa := aP_keep hPa hdB hAB hk1
            clear hPw hS
            have hPw := hB
            have hS := hS1
            clear hB hS1 hz1 hk1 hvm ht U8
            have hk_505 : k_ask M (nI 8) (nI (j / 2)) (nI (j % 2)) = 1 := by exact ask_1b (by omega) (by omega)
            rw [hk_505] at hr_500
            replace hr_500 : r_498 = (-7100) := hr_500
            subst hr_500
            clear hk_505
            refine lv_sipush (v := (-7100)) hx hb dL_isTold_309 (by decide) ?_
            refine lv_icmp_eq (tgt := 317) hx hb dL_isTold_312 (by decide)  (fun _ => ?_) (fun c9 => absurd c9 (by decide))
            refine n_iinc (k := 13) (lv' := [(13, .int (nI (j + 1))), (0, .ref h), (1, .int y), (2, .ref (ad 1)), (3, .ref (ad 2)), (4, .ref (ad 3)), (5, .ref (ad 4)), (6, .ref (ad 5)), (7, .ref (ad 6)), (8, .ref (ad 7)), (9, .ref (ad 8)), (10, .ref (ad 9)), (11, .ref (ad 10)), (12, .ref (ad 11)), (15, .int (nI 4))]) hx hb dL_isTold_317 hl rfl (by decide) rfl (fun ls hl => ?_)
            refine lv_goto (tgt := 3) hx hb dL_isTold_320 (by decide) ?_
            refine W.widen (k := 0 + 152 * (j + 1)) (n := 0 + 4477 * (j + 1)) (by omega) (by omega) ?_
            refine ih_2 (by omega) ws_499 _ _ ⟨hPw, hc_501, hPa, hS⟩ ls ?_
            show lv_has ls 19 [(0, .ref h), (1, .int y), (2, .ref (ad 1)), (3, .ref (ad 2)), (4, .ref (ad 3)), (5, .ref (ad 4)), (6, .ref (ad 5)), (7, .ref (ad 6)), (8, .ref (ad 7)), (9, .ref (ad 8)), (10, .ref (ad 9)), (11, .ref (ad 10)), (12, .ref (ad 11)), (13, .int (nI (j + 1)))]
            exact lv_sub hl [1, 2, 3, 4, 5, 6, 7, 8, 9, 10, 11, 12, 13, 0] rfl
          · have hn1 : optI (some o_489) = nI o_489 := rfl
            rw [hn1]
            refine n_icmp_ne (tgt := 315) hx hb dL_isTold_273 (by decide) (by have f1 := (t_stf_some (T 11 4) o_489 ho_489).1; have f2 : T 11 4 ≤ 32 := hT.2.2.2.1; omega) (by have f1 := (t_stf_some (T 11 4) o_489 ho_489).1; have f2 : T 11 4 ≤ 32 := hT.2.2.2.1; omega) (fun c_506 => absurd (by omega) c_506) (fun c_506 => ?_)
            refine lv_aload_n hx hb dL_isTold_276 rfl (lv_at hl 0 rfl) ?_
            refine lv_iload hx hb dL_isTold_277 (lv_at hl 13 rfl) ?_
            refine lv_iconst (v := nI 2) hx hb dL_isTold_279 (by decide) ?_
            refine n_idiv hx hb dL_isTold_280 (z := j / 2) (by omega) (by decide) (by decide) rfl ?_
            refine lv_iload hx hb dL_isTold_281 (lv_at hl 13 rfl) ?_
            refine lv_iconst (v := nI 2) hx hb dL_isTold_283 (by decide) ?_
            refine n_irem hx hb dL_isTold_284 (z := j % 2) (by omega) (by decide) (by decide) rfl ?_
            refine lv_iconst (v := (-1)) hx hb dL_isTold_285 (by decide) ?_
            refine va_calli (vx_runSW (As := [.ref h, .int (nI (j / 2)), .int (nI (j % 2)), .int (-1)]) (rest := []) ⟨hx, hb, hml, hown, hts⟩ (cw_ranked l hst D cI cO cb eA mi st dO dT vF ws_482 hc_484 hM hsI (nI (j / 2)) (nI (j % 2)) (-1)) (vx_cwSW 4 hts gL_isTold_L_ranked rfl rfl rfl kd_L_ranked ⟨Nat.le_of_ble_eq_true rfl, Nat.le_of_ble_eq_true rfl⟩) ⟨kB_blind, kB_pre hK hG hGT hN (fun q h9 => Or.inl h9) hS (fun q h9 => hA q (Nat.le_trans hS.1 h9)) hPw _⟩ rfl rfl hl.1 rfl (lv_room (Nat.le_of_ble_eq_true rfl)) dL_isTold_286 ⟨by show ((((0 + 152 * j) + 24 * 5) + 6 * 4) + 2) + 3 ≤ 1000; omega, by show ((((0 + 4477 * j) + 857 * 5) + 36 * 4) + 12) + 18 ≤ 21000; omega⟩) hS (fun _ _ h9 => Or.inl h9) (fun _ h9 => Or.inl h9) (fun r_507 ws_508 U8 H_512 locs_513 ht hvm hu_511 hB hz1 hk1 hS1 => ?_)
            obtain ⟨hr_509, hc_510⟩ := hu_511
            replace hB : va_P D vwCl ws_508 U8.heap := hB
            rw [ht] at hB
            replace hPa := aP_keep hPa hdB hAB hk1
            clear hPw hS
            have hPw := hB
            have hS := hS1
            clear hB hS1 hz1 hk1 hvm ht U8
            have hk_514 : k_ranked M (nI (j / 2)) (nI (j % 2)) (-1) = 2 := by exact rk_2 (by rw [hR.lotB hM (by omega)]; exact decide_eq_true hlz) (by decide)
            rw [hk_514] at hr_509
            replace hr_509 : r_507 = (-7200) := hr_509
            subst hr_509
            clear hk_514
            refine lv_sipush (v := (-7200)) hx hb dL_isTold_289 (by decide) ?_
            refine lv_icmp_ne (tgt := 315) hx hb dL_isTold_292 (by decide)  (fun c9 => absurd c9 (by decide)) (fun _ => ?_)
            refine lv_aload_n hx hb dL_isTold_295 rfl (lv_at hl 0 rfl) ?_
            refine lv_bipush (v := nI 8) hx hb dL_isTold_296 (by decide) ?_
            refine lv_iload hx hb dL_isTold_298 (lv_at hl 13 rfl) ?_
            refine lv_iconst (v := nI 2) hx hb dL_isTold_300 (by decide) ?_
            refine n_idiv hx hb dL_isTold_301 (z := j / 2) (by omega) (by decide) (by decide) rfl ?_
            refine lv_iload hx hb dL_isTold_302 (lv_at hl 13 rfl) ?_
            refine lv_iconst (v := nI 2) hx hb dL_isTold_304 (by decide) ?_
            refine n_irem hx hb dL_isTold_305 (z := j % 2) (by omega) (by decide) (by decide) rfl ?_
            refine va_calli (vx_runSW (As := [.ref h, .int (nI 8), .int (nI (j / 2)), .int (nI (j % 2))]) (rest := []) ⟨hx, hb, hml, hown, hts⟩ (cw_score l hst D cI cO cb eA mi st dO dT vF ws_508 hc_510 hM hsI (nI 8) (nI (j / 2)) (nI (j % 2))) (vx_cwSW 4 hts gL_isTold_L_score rfl rfl rfl kd_L_score ⟨Nat.le_of_ble_eq_true rfl, Nat.le_of_ble_eq_true rfl⟩) ⟨kB_blind, kB_pre hK hG hGT hN (fun q h9 => Or.inl h9) hS (fun q h9 => hA q (Nat.le_trans hS.1 h9)) hPw _⟩ rfl rfl hl.1 rfl (lv_room (Nat.le_of_ble_eq_true rfl)) dL_isTold_306 ⟨by show (((((0 + 152 * j) + 24 * 5) + 6 * 4) + 2) + 3) + 3 ≤ 1000; omega, by show (((((0 + 4477 * j) + 857 * 5) + 36 * 4) + 12) + 18) + 18 ≤ 21000; omega⟩) hS (fun _ _ h9 => Or.inl h9) (fun _ h9 => Or.inl h9) (fun r_515 ws_516 U8 H_520 locs_521 ht hvm hu_519 hB hz1 hk1 hS1 => ?_)
            obtain ⟨hr_517, hc_518⟩ := hu_519
            replace hB : va_P D vwCl ws_516 U8.heap := hB
            rw [ht] at hB
            replace hPa := aP_keep hPa hdB hAB hk1
            clear hPw hS
            have hPw := hB
            have hS := hS1
            clear hB hS1 hz1 hk1 hvm ht U8
            have hk_522 : k_ask M (nI 8) (nI (j / 2)) (nI (j % 2)) = 1 := by exact ask_1b (by omega) (by omega)
            rw [hk_522] at hr_517
            replace hr_517 : r_515 = (-7100) := hr_517
            subst hr_517
            clear hk_522
            refine lv_sipush (v := (-7100)) hx hb dL_isTold_309 (by decide) ?_
            refine lv_icmp_eq (tgt := 317) hx hb dL_isTold_312 (by decide)  (fun _ => ?_) (fun c9 => absurd c9 (by decide))
            refine n_iinc (k := 13) (lv' := [(13, .int (nI (j + 1))), (0, .ref h), (1, .int y), (2, .ref (ad 1)), (3, .ref (ad 2)), (4, .ref (ad 3)), (5, .ref (ad 4)), (6, .ref (ad 5)), (7, .ref (ad 6)), (8, .ref (ad 7)), (9, .ref (ad 8)), (10, .ref (ad 9)), (11, .ref (ad 10)), (12, .ref (ad 11)), (15, .int (nI 4))]) hx hb dL_isTold_317 hl rfl (by decide) rfl (fun ls hl => ?_)
            refine lv_goto (tgt := 3) hx hb dL_isTold_320 (by decide) ?_
            refine W.widen (k := 0 + 152 * (j + 1)) (n := 0 + 4477 * (j + 1)) (by omega) (by omega) ?_
            refine ih_2 (by omega) ws_516 _ _ ⟨hPw, hc_518, hPa, hS⟩ ls ?_
            show lv_has ls 19 [(0, .ref h), (1, .int y), (2, .ref (ad 1)), (3, .ref (ad 2)), (4, .ref (ad 3)), (5, .ref (ad 4)), (6, .ref (ad 5)), (7, .ref (ad 6)), (8, .ref (ad 7)), (9, .ref (ad 8)), (10, .ref (ad 9)), (11, .ref (ad 10)), (12, .ref (ad 11)), (13, .int (nI (j + 1)))]
            exact lv_sub hl [1, 2, 3, 4, 5, 6, 7, 8, 9, 10, 11, 12, 13, 0] rfl
        · refine lv_aload_n hx hb dL_isTold_151 rfl (lv_at hl 2 rfl) ?_
          refine lv_aload hx hb dL_isTold_152 (lv_at hl 4 rfl) ?_
          refine lv_aload hx hb dL_isTold_154 (lv_at hl 6 rfl) ?_
          refine lv_aload hx hb dL_isTold_156 (lv_at hl 7 rfl) ?_
          refine lv_aload hx hb dL_isTold_158 (lv_at hl 12 rfl) ?_
          refine lv_iconst (v := nI 4) hx hb dL_isTold_160 (by decide) ?_
          refine lv_iload hx hb dL_isTold_161 (lv_at hl 13 rfl) ?_
          refine n_imul hx hb dL_isTold_163 (z := 4 * j) rfl ?_
          refine lv_iload hx hb dL_isTold_164 (lv_at hl 14 rfl) ?_
          refine n_iadd hx hb dL_isTold_166 (z := (4 * j) + b) rfl ?_
          refine vp_callSi (W.runS (As := [.ref (ad 1), .ref (ad 3), .ref (ad 5), .ref (ad 6), .ref (ad 11), .int (nI ((4 * j) + b))]) (rest := []) ⟨hx, hb, hml, hown, hts⟩ (ch_takes l D ad cI T hT ((4 * j) + b) (by omega)) (va_cwS 6 hts gL_isTold_L_takes rfl rfl rfl kd_L_takes ⟨Nat.le_of_ble_eq_true rfl, Nat.le_of_ble_eq_true rfl⟩) ⟨aB_blind, a_pre hKa hPa _⟩ rfl rfl hl.1 rfl (lv_room (Nat.le_of_ble_eq_true rfl)) dL_isTold_167 ⟨by show (((0 + 152 * j) + 24 * 5) + 6 * b) + 0 ≤ 1000; omega, by show (((0 + 4477 * j) + 857 * 5) + 36 * b) + 0 ≤ 21000; omega⟩) (fun r_523 hr_523 => ?_)
          subst hr_523
          refine lv_istore (lv' := [(16, .int (bi (t_tk T ((4 * j) + b)))), (0, .ref h), (1, .int y), (2, .ref (ad 1)), (3, .ref (ad 2)), (4, .ref (ad 3)), (5, .ref (ad 4)), (6, .ref (ad 5)), (7, .ref (ad 6)), (8, .ref (ad 7)), (9, .ref (ad 8)), (10, .ref (ad 9)), (11, .ref (ad 10)), (12, .ref (ad 11)), (13, .int (nI j)), (15, .int (nI b))]) hx hb dL_isTold_170 hl (by decide) rfl (fun ls hl => ?_)
          refine lv_aload_n hx hb dL_isTold_172 rfl (lv_at hl 1 rfl) ?_
          refine lv_iload hx hb dL_isTold_173 (lv_at hl 15 rfl) ?_
          refine lv_iload hx hb dL_isTold_175 (lv_at hl 14 rfl) ?_
          refine lv_iconst (v := nI 2) hx hb dL_isTold_177 (by decide) ?_
          refine n_idiv hx hb dL_isTold_178 (z := j / 2) (by omega) (by decide) (by decide) rfl ?_
          refine lv_iload hx hb dL_isTold_179 (lv_at hl 14 rfl) ?_
          refine lv_iconst (v := nI 2) hx hb dL_isTold_181 (by decide) ?_
          refine n_irem hx hb dL_isTold_182 (z := j % 2) (by omega) (by decide) (by decide) rfl ?_
          refine va_calli (vx_runSW (As := [.ref h, .int (nI b), .int (nI (j / 2)), .int (nI (j % 2))]) (rest := []) ⟨hx, hb, hml, hown, hts⟩ (cw_isIn l hst D cI cO cb eA mi st dO dT vF ws_475 hc_479 hM hsI (nI b) (nI (j / 2)) (nI (j % 2))) (vx_cwSW 4 hts gL_isTold_L_isIn rfl rfl rfl kd_L_isIn ⟨Nat.le_of_ble_eq_true rfl, Nat.le_of_ble_eq_true rfl⟩) ⟨kB_blind, kB_pre hK hG hGT hN (fun q h9 => Or.inl h9) hS (fun q h9 => hA q (Nat.le_trans hS.1 h9)) hPw _⟩ rfl rfl hl.1 rfl (lv_room (Nat.le_of_ble_eq_true rfl)) dL_isTold_183 ⟨by show (((0 + 152 * j) + 24 * 5) + 6 * b) + 3 ≤ 1000; omega, by show (((0 + 4477 * j) + 857 * 5) + 36 * b) + 18 ≤ 21000; omega⟩) hS (fun _ _ h9 => Or.inl h9) (fun _ h9 => Or.inl h9) (fun r_524 ws_525 U8 H_529 locs_530 ht hvm hu_528 hB hz1 hk1 hS1 => ?_)
          obtain ⟨hr_526, hc_527⟩ := hu_528
          replace hB : va_P D vwCl ws_525 U8.heap := hB
          rw [ht] at hB
          replace hPa := aP_keep hPa hdB hAB hk1
          clear hPw hS
          have hPw := hB
          have hS := hS1
          clear hB hS1 hz1 hk1 hvm ht U8
          have hv9 : er (k_ask M (nI b) (nI (j / 2)) (nI (j % 2))) (bi (r_isIn M (nI b) (nI (j / 2)) (nI (j % 2)))) = bi (t_tk T ((4 * j) + b)) := by exact hR.q_in hM (by omega) (by omega) hlz
          rw [hv9] at hr_526
          clear hv9
          subst hr_526
          refine lv_iload hx hb dL_isTold_186 (lv_at hl 0 rfl) ?_
          refine b_if_eq (tgt := 195) hx hb dL_isTold_188 (by decide)  (fun c_531 => ?_) (fun c_531 => ?_)
          · have ck8 : t_tk T (4 * j + b) = false := c_531
            rw [show bi (t_tk T ((4 * j) + b)) = nI 0 from by rw [c_531]; rfl]
            refine lv_iconst (v := nI 0) hx hb dL_isTold_195 (by decide) ?_
            refine n_icmp_ne (tgt := 244) hx hb dL_isTold_196 (by decide) (by decide) (by decide) (fun c9 => absurd c9 (by decide)) (fun _ => ?_)
            refine lv_aload_n hx hb dL_isTold_199 rfl (lv_at hl 1 rfl) ?_
            refine lv_iload hx hb dL_isTold_200 (lv_at hl 15 rfl) ?_
            refine lv_iload hx hb dL_isTold_202 (lv_at hl 14 rfl) ?_
            refine lv_iconst (v := nI 2) hx hb dL_isTold_204 (by decide) ?_
            refine n_idiv hx hb dL_isTold_205 (z := j / 2) (by omega) (by decide) (by decide) rfl ?_
            refine lv_iload hx hb dL_isTold_206 (lv_at hl 14 rfl) ?_
            refine lv_iconst (v := nI 2) hx hb dL_isTold_208 (by decide) ?_
            refine n_irem hx hb dL_isTold_209 (z := j % 2) (by omega) (by decide) (by decide) rfl ?_
            refine va_calli (vx_runSW (As := [.ref h, .int (nI b), .int (nI (j / 2)), .int (nI (j % 2))]) (rest := []) ⟨hx, hb, hml, hown, hts⟩ (cw_score l hst D cI cO cb eA mi st dO dT vF ws_525 hc_527 hM hsI (nI b) (nI (j / 2)) (nI (j % 2))) (vx_cwSW 4 hts gL_isTold_L_score rfl rfl rfl kd_L_score ⟨Nat.le_of_ble_eq_true rfl, Nat.le_of_ble_eq_true rfl⟩) ⟨kB_blind, kB_pre hK hG hGT hN (fun q h9 => Or.inl h9) hS (fun q h9 => hA q (Nat.le_trans hS.1 h9)) hPw _⟩ rfl rfl hl.1 rfl (lv_room (Nat.le_of_ble_eq_true rfl)) dL_isTold_210 ⟨by show ((((0 + 152 * j) + 24 * 5) + 6 * b) + 3) + 3 ≤ 1000; omega, by show ((((0 + 4477 * j) + 857 * 5) + 36 * b) + 18) + 18 ≤ 21000; omega⟩) hS (fun _ _ h9 => Or.inl h9) (fun _ h9 => Or.inl h9) (fun r_532 ws_533 U8 H_537 locs_538 ht hvm hu_536 hB hz1 hk1 hS1 => ?_)
            obtain ⟨hr_534, hc_535⟩ := hu_536
            replace hB : va_P D vwCl ws_533 U8.heap := hB
            rw [ht] at hB
            replace hPa := aP_keep hPa hdB hAB hk1
            clear hPw hS
            have hPw := hB
            have hS := hS1
            clear hB hS1 hz1 hk1 hvm ht U8
            have hv9 : er (k_ask M (nI b) (nI (j / 2)) (nI (j % 2))) (r_score M (nI b) (nI (j / 2)) (nI (j % 2))) = (-1) := by rw [hR.q_sc hM (by omega) (by omega) hlz, if_neg (by rw [ck8]; decide)]
            rw [hv9] at hr_534
            clear hv9
            subst hr_534
            refine lv_iload hx hb dL_isTold_213 (lv_at hl 0 rfl) ?_
            refine b_if_eq (tgt := 240) hx hb dL_isTold_215 (by decide) (fun _ => ?_) (fun c9 => absurd (c_531.symm.trans c9) (by decide))
            refine lv_iconst (v := (-1)) hx hb dL_isTold_240 (by decide) ?_
            refine lv_icmp_eq (tgt := 246) hx hb dL_isTold_241 (by decide)  (fun _ => ?_) (fun c9 => absurd c9 (by decide))
            refine n_iinc (k := 15) (lv' := [(15, .int (nI (b + 1))), (16, .int (bi (t_tk T ((4 * j) + b)))), (0, .ref h), (1, .int y), (2, .ref (ad 1)), (3, .ref (ad 2)), (4, .ref (ad 3)), (5, .ref (ad 4)), (6, .ref (ad 5)), (7, .ref (ad 6)), (8, .ref (ad 7)), (9, .ref (ad 8)), (10, .ref (ad 9)), (11, .ref (ad 10)), (12, .ref (ad 11)), (13, .int (nI j))]) hx hb dL_isTold_246 hl rfl (by decide) rfl (fun ls hl => ?_)
            refine lv_goto (tgt := 145) hx hb dL_isTold_249 (by decide) ?_
            refine W.widen (k := ((0 + 152 * j) + 24 * 5) + 6 * (b + 1)) (n := ((0 + 4477 * j) + 857 * 5) + 36 * (b + 1)) (by omega) (by omega) ?_
            refine ih_474 (by omega) ws_533 _ _ ⟨hPw, hc_535, hPa, hS⟩ ls ?_
            show lv_has ls 19 [(0, .ref h), (1, .int y), (2, .ref (ad 1)), (3, .ref (ad 2)), (4, .ref (ad 3)), (5, .ref (ad 4)), (6, .ref (ad 5)), (7, .ref (ad 6)), (8, .ref (ad 7)), (9, .ref (ad 8)), (10, .ref (ad 9)), (11, .ref (ad 10)), (12, .ref (ad 11)), (13, .int (nI j)), (15, .int (nI (b + 1)))]
            exact lv_sub hl [2, 3, 4, 5, 6, 7, 8, 9, 10, 11, 12, 13, 14, 15, 0] rfl
          · have ck9 : t_tk T (4 * j + b) = true := c_531
            have po9 : t_po T (4 * j + b) < 300000 := t_po_lt hT.1 ck9 (by rw [show (4 * j + b) / 8 = j / 2 by omega]; exact w9)
            rw [show bi (t_tk T ((4 * j) + b)) = nI 1 from by rw [c_531]; rfl]
            refine lv_iconst (v := nI 1) hx hb dL_isTold_191 (by decide) ?_
            refine lv_goto (tgt := 196) hx hb dL_isTold_192 (by decide) ?_
            refine n_icmp_ne (tgt := 244) hx hb dL_isTold_196 (by decide) (by decide) (by decide) (fun c9 => absurd c9 (by decide)) (fun _ => ?_)
            refine lv_aload_n hx hb dL_isTold_199 rfl (lv_at hl 1 rfl) ?_
            refine lv_iload hx hb dL_isTold_200 (lv_at hl 15 rfl) ?_
            refine lv_iload hx hb dL_isTold_202 (lv_at hl 14 rfl) ?_
            refine lv_iconst (v := nI 2) hx hb dL_isTold_204 (by decide) ?_
            refine n_idiv hx hb dL_isTold_205 (z := j / 2) (by omega) (by decide) (by decide) rfl ?_
            refine lv_iload hx hb dL_isTold_206 (lv_at hl 14 rfl) ?_
            refine lv_iconst (v := nI 2) hx hb dL_isTold_208 (by decide) ?_
            refine n_irem hx hb dL_isTold_209 (z := j % 2) (by omega) (by decide) (by decide) rfl ?_
            refine va_calli (vx_runSW (As := [.ref h, .int (nI b), .int (nI (j / 2)), .int (nI (j % 2))]) (rest := []) ⟨hx, hb, hml, hown, hts⟩ (cw_score l hst D cI cO cb eA mi st dO dT vF ws_525 hc_527 hM hsI (nI b) (nI (j / 2)) (nI (j % 2))) (vx_cwSW 4 hts gL_isTold_L_score rfl rfl rfl kd_L_score ⟨Nat.le_of_ble_eq_true rfl, Nat.le_of_ble_eq_true rfl⟩) ⟨kB_blind, kB_pre hK hG hGT hN (fun q h9 => Or.inl h9) hS (fun q h9 => hA q (Nat.le_trans hS.1 h9)) hPw _⟩ rfl rfl hl.1 rfl (lv_room (Nat.le_of_ble_eq_true rfl)) dL_isTold_210 ⟨by show ((((0 + 152 * j) + 24 * 5) + 6 * b) + 3) + 3 ≤ 1000; omega, by show ((((0 + 4477 * j) + 857 * 5) + 36 * b) + 18) + 18 ≤ 21000; omega⟩) hS (fun _ _ h9 => Or.inl h9) (fun _ h9 => Or.inl h9) (fun r_539 ws_540 U8 H_544 locs_545 ht hvm hu_543 hB hz1 hk1 hS1 => ?_)
            obtain ⟨hr_541, hc_542⟩ := hu_543
            replace hB : va_P D vwCl ws_540 U8.heap := hB
            rw [ht] at hB
            replace hPa := aP_keep hPa hdB hAB hk1
            clear hPw hS
            have hPw := hB
            have hS := hS1
            clear hB hS1 hz1 hk1 hvm ht U8
            have hv9 : er (k_ask M (nI b) (nI (j / 2)) (nI (j % 2))) (r_score M (nI b) (nI (j / 2)) (nI (j % 2))) = nI (t_po T ((4 * j) + b)) := by rw [hR.q_sc hM (by omega) (by omega) hlz, if_pos ck9]
            rw [hv9] at hr_541
            clear hv9
            subst hr_541
            refine lv_iload hx hb dL_isTold_213 (lv_at hl 0 rfl) ?_
            refine b_if_eq (tgt := 240) hx hb dL_isTold_215 (by decide) (fun c9 => absurd (c_531.symm.trans c9) (by decide)) (fun _ => ?_)
            refine lv_aload_n hx hb dL_isTold_218 rfl (lv_at hl 3 rfl) ?_
            refine lv_aload hx hb dL_isTold_219 (lv_at hl 5 rfl) ?_
            refine lv_aload hx hb dL_isTold_221 (lv_at hl 7 rfl) ?_
            refine lv_aload hx hb dL_isTold_223 (lv_at hl 8 rfl) ?_
            refine lv_aload hx hb dL_isTold_225 (lv_at hl 13 rfl) ?_
            refine lv_iconst (v := nI 4) hx hb dL_isTold_227 (by decide) ?_
            refine lv_iload hx hb dL_isTold_228 (lv_at hl 14 rfl) ?_
            refine n_imul hx hb dL_isTold_230 (z := 4 * j) rfl ?_
            refine lv_iload hx hb dL_isTold_231 (lv_at hl 15 rfl) ?_
            refine n_iadd hx hb dL_isTold_233 (z := (4 * j) + b) rfl ?_
            refine vp_callSi (W.runS (As := [.ref (ad 1), .ref (ad 3), .ref (ad 5), .ref (ad 6), .ref (ad 11), .int (nI ((4 * j) + b))]) (rest := [.int (nI (t_po T ((4 * j) + b)))]) ⟨hx, hb, hml, hown, hts⟩ (ch_points l D ad cI T hT ((4 * j) + b) (by omega) (by exact hR.tp _ (by omega) ck9) (by rw [show (4 * j + b) / 8 = j / 2 by omega]; exact w9)) (va_cwS 6 hts gL_isTold_L_points rfl rfl rfl kd_L_points ⟨Nat.le_of_ble_eq_true rfl, Nat.le_of_ble_eq_true rfl⟩) ⟨aB_blind, a_pre hKa hPa _⟩ rfl rfl hl.1 rfl (lv_room (Nat.le_of_ble_eq_true rfl)) dL_isTold_234 ⟨by show (((((0 + 152 * j) + 24 * 5) + 6 * b) + 3) + 3) + 0 ≤ 1000; omega, by show (((((0 + 4477 * j) + 857 * 5) + 36 * b) + 18) + 18) + 0 ≤ 21000; omega⟩) (fun r_546 hr_546 => ?_)
            subst hr_546
            refine lv_goto (tgt := 241) hx hb dL_isTold_237 (by decide) ?_
            refine n_icmp_eq (tgt := 246) hx hb dL_isTold_241 (by decide) (by have f1 := po9; omega) (by have f1 := po9; omega) (fun c_547 => ?_) (fun c_547 => absurd (by omega) c_547)
            refine n_iinc (k := 15) (lv' := [(15, .int (nI (b + 1))), (16, .int (bi (t_tk T ((4 * j) + b)))), (0, .ref h), (1, .int y), (2, .ref (ad 1)), (3, .ref (ad 2)), (4, .ref (ad 3)), (5, .ref (ad 4)), (6, .ref (ad 5)), (7, .ref (ad 6)), (8, .ref (ad 7)), (9, .ref (ad 8)), (10, .ref (ad 9)), (11, .ref (ad 10)), (12, .ref (ad 11)), (13, .int (nI j))]) hx hb dL_isTold_246 hl rfl (by decide) rfl (fun ls hl => ?_)
            refine lv_goto (tgt := 145) hx hb dL_isTold_249 (by decide) ?_
            refine W.widen (k := ((0 + 152 * j) + 24 * 5) + 6 * (b + 1)) (n := ((0 + 4477 * j) + 857 * 5) + 36 * (b + 1)) (by omega) (by omega) ?_
            refine ih_474 (by omega) ws_540 _ _ ⟨hPw, hc_542, hPa, hS⟩ ls ?_
            show lv_has ls 19 [(0, .ref h), (1, .int y), (2, .ref (ad 1)), (3, .ref (ad 2)), (4, .ref (ad 3)), (5, .ref (ad 4)), (6, .ref (ad 5)), (7, .ref (ad 6)), (8, .ref (ad 7)), (9, .ref (ad 8)), (10, .ref (ad 9)), (11, .ref (ad 10)), (12, .ref (ad 11)), (13, .int (nI j)), (15, .int (nI (b + 1)))]
            exact lv_sub hl [2, 3, 4, 5, 6, 7, 8, 9, 10, 11, 12, 13, 14, 15, 0] rfl
      · refine lv_aload_n hx hb dL_isTold_31 rfl (lv_at hl 2 rfl) ?_
        refine lv_aload hx hb dL_isTold_32 (lv_at hl 4 rfl) ?_
        refine lv_aload hx hb dL_isTold_34 (lv_at hl 5 rfl) ?_
        refine lv_aload hx hb dL_isTold_36 (lv_at hl 6 rfl) ?_
        refine lv_aload hx hb dL_isTold_38 (lv_at hl 7 rfl) ?_
        refine lv_aload hx hb dL_isTold_40 (lv_at hl 12 rfl) ?_
        refine lv_iload hx hb dL_isTold_42 (lv_at hl 13 rfl) ?_
        refine lv_iload hx hb dL_isTold_44 (lv_at hl 14 rfl) ?_
        refine vp_callSi (W.runS (As := [.ref (ad 1), .ref (ad 3), .ref (ad 4), .ref (ad 5), .ref (ad 6), .ref (ad 11), .int (nI j), .int (nI (t_sts T j pl))]) (rest := []) ⟨hx, hb, hml, hown, hts⟩ (ch_best l D ad cI T hT j (t_sts T j pl) (by have f1 : t_sts T j pl < 16 := t_sts_lt T j pl; omega) (by have f1 : t_sts T j pl < 16 := t_sts_lt T j pl; omega) (by exact w9) (by exact hR.tp)) (va_cwS 8 hts gL_isTold_L_best rfl rfl rfl kd_L_best ⟨Nat.le_of_ble_eq_true rfl, Nat.le_of_ble_eq_true rfl⟩) ⟨aB_blind, a_pre hKa hPa _⟩ rfl rfl hl.1 rfl (lv_room (Nat.le_of_ble_eq_true rfl)) dL_isTold_46 ⟨by show ((0 + 152 * j) + 24 * pl) + 0 ≤ 1000; omega, by show ((0 + 4477 * j) + 857 * pl) + 0 ≤ 21000; omega⟩) (fun r_548 hr_548 => ?_)
        subst hr_548
        rcases ho_549 : t_best T j (t_sts T j pl) with _ | o_549
        · have hn1 : optI (none : Option Nat) = (-1) := rfl
          rw [hn1]
          refine lv_istore (lv' := [(16, .int (-1)), (0, .ref h), (1, .int y), (2, .ref (ad 1)), (3, .ref (ad 2)), (4, .ref (ad 3)), (5, .ref (ad 4)), (6, .ref (ad 5)), (7, .ref (ad 6)), (8, .ref (ad 7)), (9, .ref (ad 8)), (10, .ref (ad 9)), (11, .ref (ad 10)), (12, .ref (ad 11)), (13, .int (nI j)), (14, .int (nI (t_sts T j pl))), (15, .int (nI pl))]) hx hb dL_isTold_49 hl (by decide) rfl (fun ls hl => ?_)
          refine lv_aload_n hx hb dL_isTold_51 rfl (lv_at hl 1 rfl) ?_
          refine lv_iload hx hb dL_isTold_52 (lv_at hl 14 rfl) ?_
          refine lv_iconst (v := nI 2) hx hb dL_isTold_54 (by decide) ?_
          refine n_idiv hx hb dL_isTold_55 (z := j / 2) (by omega) (by decide) (by decide) rfl ?_
          refine lv_iload hx hb dL_isTold_56 (lv_at hl 14 rfl) ?_
          refine lv_iconst (v := nI 2) hx hb dL_isTold_58 (by decide) ?_
          refine n_irem hx hb dL_isTold_59 (z := j % 2) (by omega) (by decide) (by decide) rfl ?_
          refine lv_iload hx hb dL_isTold_60 (lv_at hl 16 rfl) ?_
          refine va_calli (vx_runSW (As := [.ref h, .int (nI (j / 2)), .int (nI (j % 2)), .int (nI pl)]) (rest := []) ⟨hx, hb, hml, hown, hts⟩ (cw_ranked l hst D cI cO cb eA mi st dO dT vF ws_467 hc_471 hM hsI (nI (j / 2)) (nI (j % 2)) (nI pl)) (vx_cwSW 4 hts gL_isTold_L_ranked rfl rfl rfl kd_L_ranked ⟨Nat.le_of_ble_eq_true rfl, Nat.le_of_ble_eq_true rfl⟩) ⟨kB_blind, kB_pre hK hG hGT hN (fun q h9 => Or.inl h9) hS (fun q h9 => hA q (Nat.le_trans hS.1 h9)) hPw _⟩ rfl rfl hl.1 rfl (lv_room (Nat.le_of_ble_eq_true rfl)) dL_isTold_62 ⟨by show ((0 + 152 * j) + 24 * pl) + 3 ≤ 1000; omega, by show ((0 + 4477 * j) + 857 * pl) + 18 ≤ 21000; omega⟩) hS (fun _ _ h9 => Or.inl h9) (fun _ h9 => Or.inl h9) (fun r_550 ws_551 U8 H_555 locs_556 ht hvm hu_554 hB hz1 hk1 hS1 => ?_)
          obtain ⟨hr_552, hc_553⟩ := hu_554
          replace hB : va_P D vwCl ws_551 U8.heap := hB
          rw [ht] at hB
          replace hPa := aP_keep hPa hdB hAB hk1
          clear hPw hS
          have hPw := hB
          have hS := hS1
          clear hB hS1 hz1 hk1 hvm ht U8
          have hv9 : er (k_ranked M (nI (j / 2)) (nI (j % 2)) (nI pl)) (r_ranked M (nI (j / 2)) (nI (j % 2)) (nI pl)) = (-1) := by rw [hR.q_rk hM (by omega) hlz (by omega), hR.rk_n hM (by omega) lo9.2.1 (by omega) ho_549]; rfl
          rw [hv9] at hr_552
          clear hv9
          subst hr_552
          refine lv_iload hx hb dL_isTold_65 (lv_at hl 0 rfl) ?_
          refine lv_if_ge (tgt := 74) hx hb dL_isTold_67 (by decide)  (fun c9 => absurd c9 (by decide)) (fun _ => ?_)
          refine lv_iconst (v := (-1)) hx hb dL_isTold_70 (by decide) ?_
          refine lv_goto (tgt := 78) hx hb dL_isTold_71 (by decide) ?_
          refine lv_icmp_ne (tgt := 114) hx hb dL_isTold_78 (by decide)  (fun c9 => absurd c9 (by decide)) (fun _ => ?_)
          refine lv_iload hx hb dL_isTold_81 (lv_at hl 16 rfl) ?_
          refine n_if_ne (tgt := 116) hx hb dL_isTold_83 (by decide) (by omega) (fun c_557 => ?_) (fun c_557 => ?_)
          · refine lv_iload hx hb dL_isTold_116 (lv_at hl 15 rfl) ?_
            refine lv_iload hx hb dL_isTold_118 (lv_at hl 0 rfl) ?_
            refine lv_if_ge (tgt := 127) hx hb dL_isTold_120 (by decide)  (fun c9 => absurd c9 (by decide)) (fun _ => ?_)
            refine lv_iconst (v := nI 0) hx hb dL_isTold_123 (by decide) ?_
            refine lv_goto (tgt := 133) hx hb dL_isTold_124 (by decide) ?_
            refine lv_ior hx hb dL_isTold_133 ?_
            rw [show (nI (t_sts T j pl)) ||| (nI 0) = nI (t_sts T j pl) from (n_or0 _)]
            refine lv_istore (lv' := [(14, .int (nI (t_sts T j pl))), (16, .int (-1)), (0, .ref h), (1, .int y), (2, .ref (ad 1)), (3, .ref (ad 2)), (4, .ref (ad 3)), (5, .ref (ad 4)), (6, .ref (ad 5)), (7, .ref (ad 6)), (8, .ref (ad 7)), (9, .ref (ad 8)), (10, .ref (ad 9)), (11, .ref (ad 10)), (12, .ref (ad 11)), (13, .int (nI j)), (15, .int (nI pl))]) hx hb dL_isTold_134 hl (by decide) rfl (fun ls hl => ?_)
            refine n_iinc (k := 16) (lv' := [(15, .int (nI (pl + 1))), (14, .int (nI (t_sts T j pl))), (16, .int (-1)), (0, .ref h), (1, .int y), (2, .ref (ad 1)), (3, .ref (ad 2)), (4, .ref (ad 3)), (5, .ref (ad 4)), (6, .ref (ad 5)), (7, .ref (ad 6)), (8, .ref (ad 7)), (9, .ref (ad 8)), (10, .ref (ad 9)), (11, .ref (ad 10)), (12, .ref (ad 11)), (13, .int (nI j))]) hx hb dL_isTold_136 hl rfl (by decide) rfl (fun ls hl => ?_)
            refine lv_goto (tgt := 25) hx hb dL_isTold_139 (by decide) ?_
            have e_558 : t_sts T j (pl + 1) = t_sts T j pl := by (rw [t_sts, ho_549]; try rfl)
            refine W.widen (k := (0 + 152 * j) + 24 * (pl + 1)) (n := (0 + 4477 * j) + 857 * (pl + 1)) (by omega) (by omega) ?_
            refine ih_466 (by omega) ws_551 _ _ ⟨hPw, hc_553, hPa, hS⟩ ls ?_
            show lv_has ls 19 [(0, .ref h), (1, .int y), (2, .ref (ad 1)), (3, .ref (ad 2)), (4, .ref (ad 3)), (5, .ref (ad 4)), (6, .ref (ad 5)), (7, .ref (ad 6)), (8, .ref (ad 7)), (9, .ref (ad 8)), (10, .ref (ad 9)), (11, .ref (ad 10)), (12, .ref (ad 11)), (13, .int (nI j)), (14, .int (nI (t_sts T j (pl + 1)))), (15, .int (nI (pl + 1)))]
            rw [e_558]
            exact lv_sub hl [3, 4, 5, 6, 7, 8, 9, 10, 11, 12, 13, 14, 15, 16, 1, 0] rfl
          · refine lv_aload_n hx hb dL_isTold_86 rfl (lv_at hl 1 rfl) ?_
            refine lv_iload hx hb dL_isTold_87 (lv_at hl 14 rfl) ?_
            refine lv_iconst (v := nI 2) hx hb dL_isTold_89 (by decide) ?_
            refine n_idiv hx hb dL_isTold_90 (z := j / 2) (by omega) (by decide) (by decide) rfl ?_
            refine lv_iload hx hb dL_isTold_91 (lv_at hl 14 rfl) ?_
            refine lv_iconst (v := nI 2) hx hb dL_isTold_93 (by decide) ?_
            refine n_irem hx hb dL_isTold_94 (z := j % 2) (by omega) (by decide) (by decide) rfl ?_
            refine va_calli (vx_runSW (As := [.ref h, .int (nI (j / 2)), .int (nI (j % 2))]) (rest := []) ⟨hx, hb, hml, hown, hts⟩ (cw_winnerAnew l hst D cI cO cb eA mi st dO dT vF ws_551 hc_553 hM hsI (nI (j / 2)) (nI (j % 2))) (vx_cwSW 3 hts gL_isTold_L_winnerAnew rfl rfl rfl kd_L_winnerAnew ⟨Nat.le_of_ble_eq_true rfl, Nat.le_of_ble_eq_true rfl⟩) ⟨kB_blind, kB_pre hK hG hGT hN (fun q h9 => Or.inl h9) hS (fun q h9 => hA q (Nat.le_trans hS.1 h9)) hPw _⟩ rfl rfl hl.1 rfl (lv_room (Nat.le_of_ble_eq_true rfl)) dL_isTold_95 ⟨by show (((0 + 152 * j) + 24 * pl) + 3) + 21 ≤ 1000; omega, by show (((0 + 4477 * j) + 857 * pl) + 18) + 839 ≤ 21000; omega⟩) hS (fun _ _ h9 => Or.inl h9) (fun _ h9 => Or.inl h9) (fun r_559 ws_560 U8 H_564 locs_565 ht hvm hu_563 hB hz1 hk1 hS1 => ?_)
            obtain ⟨hr_561, hc_562⟩ := hu_563
            replace hB : va_P D vwCl ws_560 U8.heap := hB
            rw [ht] at hB
            replace hPa := aP_keep hPa hdB hAB hk1
            clear hPw hS
            have hPw := hB
            have hS := hS1
            clear hB hS1 hz1 hk1 hvm ht U8
            have hv9 : er (k_lot M (nI (j / 2)) (nI (j % 2))) (r_winnerAnew M (nI (j / 2)) (nI (j % 2))) = (-1) := by have e9 := hR.rk_n hM (p := pl) (by omega) lo9.2.1 (by omega) ho_549; rw [show pl = 0 by omega] at e9; rw [hR.q_an hM (by omega) hlz, e9]; rfl
            rw [hv9] at hr_561
            clear hv9
            subst hr_561
            refine lv_iload hx hb dL_isTold_98 (lv_at hl 0 rfl) ?_
            refine lv_if_ge (tgt := 107) hx hb dL_isTold_100 (by decide)  (fun c9 => absurd c9 (by decide)) (fun _ => ?_)
            refine lv_iconst (v := (-1)) hx hb dL_isTold_103 (by decide) ?_
            refine lv_goto (tgt := 111) hx hb dL_isTold_104 (by decide) ?_
            refine lv_icmp_eq (tgt := 116) hx hb dL_isTold_111 (by decide)  (fun _ => ?_) (fun c9 => absurd c9 (by decide))
            refine lv_iload hx hb dL_isTold_116 (lv_at hl 15 rfl) ?_
            refine lv_iload hx hb dL_isTold_118 (lv_at hl 0 rfl) ?_
            refine lv_if_ge (tgt := 127) hx hb dL_isTold_120 (by decide)  (fun c9 => absurd c9 (by decide)) (fun _ => ?_)
            refine lv_iconst (v := nI 0) hx hb dL_isTold_123 (by decide) ?_
            refine lv_goto (tgt := 133) hx hb dL_isTold_124 (by decide) ?_
            refine lv_ior hx hb dL_isTold_133 ?_
            rw [show (nI (t_sts T j pl)) ||| (nI 0) = nI (t_sts T j pl) from (n_or0 _)]
            refine lv_istore (lv' := [(14, .int (nI (t_sts T j pl))), (16, .int (-1)), (0, .ref h), (1, .int y), (2, .ref (ad 1)), (3, .ref (ad 2)), (4, .ref (ad 3)), (5, .ref (ad 4)), (6, .ref (ad 5)), (7, .ref (ad 6)), (8, .ref (ad 7)), (9, .ref (ad 8)), (10, .ref (ad 9)), (11, .ref (ad 10)), (12, .ref (ad 11)), (13, .int (nI j)), (15, .int (nI pl))]) hx hb dL_isTold_134 hl (by decide) rfl (fun ls hl => ?_)
            refine n_iinc (k := 16) (lv' := [(15, .int (nI (pl + 1))), (14, .int (nI (t_sts T j pl))), (16, .int (-1)), (0, .ref h), (1, .int y), (2, .ref (ad 1)), (3, .ref (ad 2)), (4, .ref (ad 3)), (5, .ref (ad 4)), (6, .ref (ad 5)), (7, .ref (ad 6)), (8, .ref (ad 7)), (9, .ref (ad 8)), (10, .ref (ad 9)), (11, .ref (ad 10)), (12, .ref (ad 11)), (13, .int (nI j))]) hx hb dL_isTold_136 hl rfl (by decide) rfl (fun ls hl => ?_)
            refine lv_goto (tgt := 25) hx hb dL_isTold_139 (by decide) ?_
            have e_566 : t_sts T j (pl + 1) = t_sts T j pl := by (rw [t_sts, ho_549]; try rfl)
            refine W.widen (k := (0 + 152 * j) + 24 * (pl + 1)) (n := (0 + 4477 * j) + 857 * (pl + 1)) (by omega) (by omega) ?_
            refine ih_466 (by omega) ws_560 _ _ ⟨hPw, hc_562, hPa, hS⟩ ls ?_
            show lv_has ls 19 [(0, .ref h), (1, .int y), (2, .ref (ad 1)), (3, .ref (ad 2)), (4, .ref (ad 3)), (5, .ref (ad 4)), (6, .ref (ad 5)), (7, .ref (ad 6)), (8, .ref (ad 7)), (9, .ref (ad 8)), (10, .ref (ad 9)), (11, .ref (ad 10)), (12, .ref (ad 11)), (13, .int (nI j)), (14, .int (nI (t_sts T j (pl + 1)))), (15, .int (nI (pl + 1)))]
            rw [e_566]
            exact lv_sub hl [3, 4, 5, 6, 7, 8, 9, 10, 11, 12, 13, 14, 15, 16, 1, 0] rfl
        · have hn1 : optI (some o_549) = nI o_549 := rfl
          rw [hn1]
          refine lv_istore (lv' := [(16, .int (nI o_549)), (0, .ref h), (1, .int y), (2, .ref (ad 1)), (3, .ref (ad 2)), (4, .ref (ad 3)), (5, .ref (ad 4)), (6, .ref (ad 5)), (7, .ref (ad 6)), (8, .ref (ad 7)), (9, .ref (ad 8)), (10, .ref (ad 9)), (11, .ref (ad 10)), (12, .ref (ad 11)), (13, .int (nI j)), (14, .int (nI (t_sts T j pl))), (15, .int (nI pl))]) hx hb dL_isTold_49 hl (by decide) rfl (fun ls hl => ?_)
          refine lv_aload_n hx hb dL_isTold_51 rfl (lv_at hl 1 rfl) ?_
          refine lv_iload hx hb dL_isTold_52 (lv_at hl 14 rfl) ?_
          refine lv_iconst (v := nI 2) hx hb dL_isTold_54 (by decide) ?_
          refine n_idiv hx hb dL_isTold_55 (z := j / 2) (by omega) (by decide) (by decide) rfl ?_
          refine lv_iload hx hb dL_isTold_56 (lv_at hl 14 rfl) ?_
          refine lv_iconst (v := nI 2) hx hb dL_isTold_58 (by decide) ?_
          refine n_irem hx hb dL_isTold_59 (z := j % 2) (by omega) (by decide) (by decide) rfl ?_
          refine lv_iload hx hb dL_isTold_60 (lv_at hl 16 rfl) ?_
          refine va_calli (vx_runSW (As := [.ref h, .int (nI (j / 2)), .int (nI (j % 2)), .int (nI pl)]) (rest := []) ⟨hx, hb, hml, hown, hts⟩ (cw_ranked l hst D cI cO cb eA mi st dO dT vF ws_467 hc_471 hM hsI (nI (j / 2)) (nI (j % 2)) (nI pl)) (vx_cwSW 4 hts gL_isTold_L_ranked rfl rfl rfl kd_L_ranked ⟨Nat.le_of_ble_eq_true rfl, Nat.le_of_ble_eq_true rfl⟩) ⟨kB_blind, kB_pre hK hG hGT hN (fun q h9 => Or.inl h9) hS (fun q h9 => hA q (Nat.le_trans hS.1 h9)) hPw _⟩ rfl rfl hl.1 rfl (lv_room (Nat.le_of_ble_eq_true rfl)) dL_isTold_62 ⟨by show ((0 + 152 * j) + 24 * pl) + 3 ≤ 1000; omega, by show ((0 + 4477 * j) + 857 * pl) + 18 ≤ 21000; omega⟩) hS (fun _ _ h9 => Or.inl h9) (fun _ h9 => Or.inl h9) (fun r_567 ws_568 U8 H_572 locs_573 ht hvm hu_571 hB hz1 hk1 hS1 => ?_)
          obtain ⟨hr_569, hc_570⟩ := hu_571
          replace hB : va_P D vwCl ws_568 U8.heap := hB
          rw [ht] at hB
          replace hPa := aP_keep hPa hdB hAB hk1
          clear hPw hS
          have hPw := hB
          have hS := hS1
          clear hB hS1 hz1 hk1 hvm ht U8
          have hv9 : er (k_ranked M (nI (j / 2)) (nI (j % 2)) (nI pl)) (r_ranked M (nI (j / 2)) (nI (j % 2)) (nI pl)) = nI (o_549 % 4) := by rw [hR.q_rk hM (by omega) hlz (by omega), hR.rk_s hM (by omega) lo9.2.1 (by omega) ho_549]; rfl
          rw [hv9] at hr_569
          clear hv9
          subst hr_569
          refine lv_iload hx hb dL_isTold_65 (lv_at hl 0 rfl) ?_
          refine n_if_geT (tgt := 74) hx hb dL_isTold_67 (by decide) (by have f1 := (t_bsf_some 4 o_549 ho_549).1; have f2 := (t_bsf_some 4 o_549 ho_549).2.1; omega) ?_
          refine lv_iload hx hb dL_isTold_74 (lv_at hl 0 rfl) ?_
          refine lv_iconst (v := nI 4) hx hb dL_isTold_76 (by decide) ?_
          refine n_irem hx hb dL_isTold_77 (z := o_549 % 4) (by have f1 := (t_bsf_some 4 o_549 ho_549).1; have f2 := (t_bsf_some 4 o_549 ho_549).2.1; omega) (by decide) (by decide) rfl ?_
          refine n_icmp_ne (tgt := 114) hx hb dL_isTold_78 (by decide) (by omega) (by have f1 := (t_bsf_some 4 o_549 ho_549).1; have f2 := (t_bsf_some 4 o_549 ho_549).2.1; omega) (fun c_574 => absurd (by omega) c_574) (fun c_574 => ?_)
          refine lv_iload hx hb dL_isTold_81 (lv_at hl 16 rfl) ?_
          refine n_if_ne (tgt := 116) hx hb dL_isTold_83 (by decide) (by omega) (fun c_575 => ?_) (fun c_575 => ?_)
          · refine lv_iload hx hb dL_isTold_116 (lv_at hl 15 rfl) ?_
            refine lv_iload hx hb dL_isTold_118 (lv_at hl 0 rfl) ?_
            refine n_if_geT (tgt := 127) hx hb dL_isTold_120 (by decide) (by have f1 := (t_bsf_some 4 o_549 ho_549).1; have f2 := (t_bsf_some 4 o_549 ho_549).2.1; omega) ?_
            refine lv_iconst (v := nI 1) hx hb dL_isTold_127 (by decide) ?_
            refine lv_iload hx hb dL_isTold_128 (lv_at hl 0 rfl) ?_
            refine lv_iconst (v := nI 4) hx hb dL_isTold_130 (by decide) ?_
            refine n_irem hx hb dL_isTold_131 (z := o_549 % 4) (by have f1 := (t_bsf_some 4 o_549 ho_549).1; have f2 := (t_bsf_some 4 o_549 ho_549).2.1; omega) (by decide) (by decide) rfl ?_
            refine lv_ishl hx hb dL_isTold_132 ?_
            rw [show (nI 1) <<< ((nI (o_549 % 4)) &&& 31) = nI (2 ^ (o_549 % 4)) from (n_shl1 (by omega))]
            refine lv_ior hx hb dL_isTold_133 ?_
            rw [show (nI (t_sts T j pl)) ||| (nI (2 ^ (o_549 % 4))) = nI (t_sts T j pl ||| (2 ^ (o_549 % 4))) from (n_or _ _)]
            refine lv_istore (lv' := [(14, .int (nI (t_sts T j pl ||| (2 ^ (o_549 % 4))))), (16, .int (nI o_549)), (0, .ref h), (1, .int y), (2, .ref (ad 1)), (3, .ref (ad 2)), (4, .ref (ad 3)), (5, .ref (ad 4)), (6, .ref (ad 5)), (7, .ref (ad 6)), (8, .ref (ad 7)), (9, .ref (ad 8)), (10, .ref (ad 9)), (11, .ref (ad 10)), (12, .ref (ad 11)), (13, .int (nI j)), (15, .int (nI pl))]) hx hb dL_isTold_134 hl (by decide) rfl (fun ls hl => ?_)
            refine n_iinc (k := 16) (lv' := [(15, .int (nI (pl + 1))), (14, .int (nI (t_sts T j pl ||| (2 ^ (o_549 % 4))))), (16, .int (nI o_549)), (0, .ref h), (1, .int y), (2, .ref (ad 1)), (3, .ref (ad 2)), (4, .ref (ad 3)), (5, .ref (ad 4)), (6, .ref (ad 5)), (7, .ref (ad 6)), (8, .ref (ad 7)), (9, .ref (ad 8)), (10, .ref (ad 9)), (11, .ref (ad 10)), (12, .ref (ad 11)), (13, .int (nI j))]) hx hb dL_isTold_136 hl rfl (by decide) rfl (fun ls hl => ?_)
            refine lv_goto (tgt := 25) hx hb dL_isTold_139 (by decide) ?_
            have e_576 : t_sts T j (pl + 1) = t_sts T j pl ||| (2 ^ (o_549 % 4)) := by (rw [t_sts, ho_549]; try rfl)
            refine W.widen (k := (0 + 152 * j) + 24 * (pl + 1)) (n := (0 + 4477 * j) + 857 * (pl + 1)) (by omega) (by omega) ?_
            refine ih_466 (by omega) ws_568 _ _ ⟨hPw, hc_570, hPa, hS⟩ ls ?_
            show lv_has ls 19 [(0, .ref h), (1, .int y), (2, .ref (ad 1)), (3, .ref (ad 2)), (4, .ref (ad 3)), (5, .ref (ad 4)), (6, .ref (ad 5)), (7, .ref (ad 6)), (8, .ref (ad 7)), (9, .ref (ad 8)), (10, .ref (ad 9)), (11, .ref (ad 10)), (12, .ref (ad 11)), (13, .int (nI j)), (14, .int (nI (t_sts T j (pl + 1)))), (15, .int (nI (pl + 1)))]
            rw [e_576]
            exact lv_sub hl [3, 4, 5, 6, 7, 8, 9, 10, 11, 12, 13, 14, 15, 16, 1, 0] rfl
          · refine lv_aload_n hx hb dL_isTold_86 rfl (lv_at hl 1 rfl) ?_
            refine lv_iload hx hb dL_isTold_87 (lv_at hl 14 rfl) ?_
            refine lv_iconst (v := nI 2) hx hb dL_isTold_89 (by decide) ?_
            refine n_idiv hx hb dL_isTold_90 (z := j / 2) (by omega) (by decide) (by decide) rfl ?_
            refine lv_iload hx hb dL_isTold_91 (lv_at hl 14 rfl) ?_
            refine lv_iconst (v := nI 2) hx hb dL_isTold_93 (by decide) ?_
            refine n_irem hx hb dL_isTold_94 (z := j % 2) (by omega) (by decide) (by decide) rfl ?_
            refine va_calli (vx_runSW (As := [.ref h, .int (nI (j / 2)), .int (nI (j % 2))]) (rest := []) ⟨hx, hb, hml, hown, hts⟩ (cw_winnerAnew l hst D cI cO cb eA mi st dO dT vF ws_568 hc_570 hM hsI (nI (j / 2)) (nI (j % 2))) (vx_cwSW 3 hts gL_isTold_L_winnerAnew rfl rfl rfl kd_L_winnerAnew ⟨Nat.le_of_ble_eq_true rfl, Nat.le_of_ble_eq_true rfl⟩) ⟨kB_blind, kB_pre hK hG hGT hN (fun q h9 => Or.inl h9) hS (fun q h9 => hA q (Nat.le_trans hS.1 h9)) hPw _⟩ rfl rfl hl.1 rfl (lv_room (Nat.le_of_ble_eq_true rfl)) dL_isTold_95 ⟨by show (((0 + 152 * j) + 24 * pl) + 3) + 21 ≤ 1000; omega, by show (((0 + 4477 * j) + 857 * pl) + 18) + 839 ≤ 21000; omega⟩) hS (fun _ _ h9 => Or.inl h9) (fun _ h9 => Or.inl h9) (fun r_577 ws_578 U8 H_582 locs_583 ht hvm hu_581 hB hz1 hk1 hS1 => ?_)
            obtain ⟨hr_579, hc_580⟩ := hu_581
            replace hB : va_P D vwCl ws_578 U8.heap := hB
            rw [ht] at hB
            replace hPa := aP_keep hPa hdB hAB hk1
            clear hPw hS
            have hPw := hB
            have hS := hS1
            clear hB hS1 hz1 hk1 hvm ht U8
            have hv9 : er (k_lot M (nI (j / 2)) (nI (j % 2))) (r_winnerAnew M (nI (j / 2)) (nI (j % 2))) = nI (o_549 % 4) := by have e9 := hR.rk_s hM (p := pl) (by omega) lo9.2.1 (by omega) ho_549; rw [show pl = 0 by omega] at e9; rw [hR.q_an hM (by omega) hlz, e9]; rfl
            rw [hv9] at hr_579
            clear hv9
            subst hr_579
            refine lv_iload hx hb dL_isTold_98 (lv_at hl 0 rfl) ?_
            refine n_if_geT (tgt := 107) hx hb dL_isTold_100 (by decide) (by have f1 := (t_bsf_some 4 o_549 ho_549).1; have f2 := (t_bsf_some 4 o_549 ho_549).2.1; omega) ?_
            refine lv_iload hx hb dL_isTold_107 (lv_at hl 0 rfl) ?_
            refine lv_iconst (v := nI 4) hx hb dL_isTold_109 (by decide) ?_
            refine n_irem hx hb dL_isTold_110 (z := o_549 % 4) (by have f1 := (t_bsf_some 4 o_549 ho_549).1; have f2 := (t_bsf_some 4 o_549 ho_549).2.1; omega) (by decide) (by decide) rfl ?_
            refine n_icmp_eq (tgt := 116) hx hb dL_isTold_111 (by decide) (by omega) (by have f1 := (t_bsf_some 4 o_549 ho_549).1; have f2 := (t_bsf_some 4 o_549 ho_549).2.1; omega) (fun c_584 => ?_) (fun c_584 => absurd (by omega) c_584)
            refine lv_iload hx hb dL_isTold_116 (lv_at hl 15 rfl) ?_
            refine lv_iload hx hb dL_isTold_118 (lv_at hl 0 rfl) ?_
            refine n_if_geT (tgt := 127) hx hb dL_isTold_120 (by decide) (by have f1 := (t_bsf_some 4 o_549 ho_549).1; have f2 := (t_bsf_some 4 o_549 ho_549).2.1; omega) ?_
            refine lv_iconst (v := nI 1) hx hb dL_isTold_127 (by decide) ?_
            refine lv_iload hx hb dL_isTold_128 (lv_at hl 0 rfl) ?_
            refine lv_iconst (v := nI 4) hx hb dL_isTold_130 (by decide) ?_
            refine n_irem hx hb dL_isTold_131 (z := o_549 % 4) (by have f1 := (t_bsf_some 4 o_549 ho_549).1; have f2 := (t_bsf_some 4 o_549 ho_549).2.1; omega) (by decide) (by decide) rfl ?_
            refine lv_ishl hx hb dL_isTold_132 ?_
            rw [show (nI 1) <<< ((nI (o_549 % 4)) &&& 31) = nI (2 ^ (o_549 % 4)) from (n_shl1 (by omega))]
            refine lv_ior hx hb dL_isTold_133 ?_
            rw [show (nI (t_sts T j pl)) ||| (nI (2 ^ (o_549 % 4))) = nI (t_sts T j pl ||| (2 ^ (o_549 % 4))) from (n_or _ _)]
            refine lv_istore (lv' := [(14, .int (nI (t_sts T j pl ||| (2 ^ (o_549 % 4))))), (16, .int (nI o_549)), (0, .ref h), (1, .int y), (2, .ref (ad 1)), (3, .ref (ad 2)), (4, .ref (ad 3)), (5, .ref (ad 4)), (6, .ref (ad 5)), (7, .ref (ad 6)), (8, .ref (ad 7)), (9, .ref (ad 8)), (10, .ref (ad 9)), (11, .ref (ad 10)), (12, .ref (ad 11)), (13, .int (nI j)), (15, .int (nI pl))]) hx hb dL_isTold_134 hl (by decide) rfl (fun ls hl => ?_)
            refine n_iinc (k := 16) (lv' := [(15, .int (nI (pl + 1))), (14, .int (nI (t_sts T j pl ||| (2 ^ (o_549 % 4))))), (16, .int (nI o_549)), (0, .ref h), (1, .int y), (2, .ref (ad 1)), (3, .ref (ad 2)), (4, .ref (ad 3)), (5, .ref (ad 4)), (6, .ref (ad 5)), (7, .ref (ad 6)), (8, .ref (ad 7)), (9, .ref (ad 8)), (10, .ref (ad 9)), (11, .ref (ad 10)), (12, .ref (ad 11)), (13, .int (nI j))]) hx hb dL_isTold_136 hl rfl (by decide) rfl (fun ls hl => ?_)
            refine lv_goto (tgt := 25) hx hb dL_isTold_139 (by decide) ?_
            have e_585 : t_sts T j (pl + 1) = t_sts T j pl ||| (2 ^ (o_549 % 4)) := by (rw [t_sts, ho_549]; try rfl)
            refine W.widen (k := (0 + 152 * j) + 24 * (pl + 1)) (n := (0 + 4477 * j) + 857 * (pl + 1)) (by omega) (by omega) ?_
            refine ih_466 (by omega) ws_578 _ _ ⟨hPw, hc_580, hPa, hS⟩ ls ?_
            show lv_has ls 19 [(0, .ref h), (1, .int y), (2, .ref (ad 1)), (3, .ref (ad 2)), (4, .ref (ad 3)), (5, .ref (ad 4)), (6, .ref (ad 5)), (7, .ref (ad 6)), (8, .ref (ad 7)), (9, .ref (ad 8)), (10, .ref (ad 9)), (11, .ref (ad 10)), (12, .ref (ad 11)), (13, .int (nI j)), (14, .int (nI (t_sts T j (pl + 1)))), (15, .int (nI (pl + 1)))]
            rw [e_585]
            exact lv_sub hl [3, 4, 5, 6, 7, 8, 9, 10, 11, 12, 13, 14, 15, 16, 1, 0] rfl
    · refine lv_goto (tgt := 317) hx hb dL_isTold_16 (by decide) ?_
      refine n_iinc (k := 13) (lv' := [(13, .int (nI (j + 1))), (0, .ref h), (1, .int y), (2, .ref (ad 1)), (3, .ref (ad 2)), (4, .ref (ad 3)), (5, .ref (ad 4)), (6, .ref (ad 5)), (7, .ref (ad 6)), (8, .ref (ad 7)), (9, .ref (ad 8)), (10, .ref (ad 9)), (11, .ref (ad 10)), (12, .ref (ad 11))]) hx hb dL_isTold_317 hl rfl (by decide) rfl (fun ls hl => ?_)
      refine lv_goto (tgt := 3) hx hb dL_isTold_320 (by decide) ?_
      refine W.widen (k := 0 + 152 * (j + 1)) (n := 0 + 4477 * (j + 1)) (by omega) (by omega) ?_
      refine ih_2 (by omega) ws_3 _ _ ⟨hPw, hc_7, hPa, hS⟩ ls ?_
      show lv_has ls 19 [(0, .ref h), (1, .int y), (2, .ref (ad 1)), (3, .ref (ad 2)), (4, .ref (ad 3)), (5, .ref (ad 4)), (6, .ref (ad 5)), (7, .ref (ad 6)), (8, .ref (ad 7)), (9, .ref (ad 8)), (10, .ref (ad 9)), (11, .ref (ad 10)), (12, .ref (ad 11)), (13, .int (nI (j + 1)))]
      exact lv_sub hl [1, 2, 3, 4, 5, 6, 7, 8, 9, 10, 11, 12, 13, 0] rfl
