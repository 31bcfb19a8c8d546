/-! the class: bid -/
set_option maxHeartbeats 4000000 in
set_option maxRecDepth 100000 in
theorem cm_bid (l : Launch) (hst : l.stackTraces = false) (D : va_G) (cI cO cb : ClassId) (eA mi : Nat) (st : Nat → Nat) {A : Nat → Prop} (ws : va_W) (hD : va_D A ws) {own kd : Nat → Nat} {F : Nat → Nat → Nat} {L : Nat → List Nat} (hC : CW cI cO eA st own kd F L ws) (hW : WF kd F L) (hs : sInj st)  (h : Nat) (hk_h : kd h = 9) (b : Int32) (t : Int32) (k : Int32) (pr : Int32) (qu : Int32) (hlenc : kLotK F L h t k = 0 → ((kTake F L (kLotV F L h t k) b.toNatClampNeg) (F 3 (kLotV F L h t k))).length < 60) : vx_Met l yX8_bid wsX8_bid ({ frames := 8, cells := 6, slots := 132, locals := 191 }) (va_Pc [.ref h, .int b, .int t, .int k, .int pr, .int qu] (cB D cI cO cb eA mi st A ws)) (va_Qi (fun (ri : Int32) (u : va_W × (Nat → Nat) × Nat) => ks (kIx b 8) (ks (kLotK F L h t k) (ks (kArg pr (nI 1) (nI 100000)) (ks (kArg qu (nI 0) (nI 100)) (if ¬ F 1 (F 0 (kLotV F L h t k)) ≤ F 5 h then 0 else 3)))) = 0 ∧ ri = nI (((kTake F L (kLotV F L h t k) b.toNatClampNeg) (F 3 (kLotV F L h t k))).length + 1) ∧ CW cI cO eA st u.2.1 (kdN kd u.2.2 3) (FN F u.2.2 [b.toNatClampNeg, pr.toNatClampNeg, qu.toNatClampNeg, qu.toNatClampNeg, 0, 0]) (upL (kTake F L (kLotV F L h t k) b.toNatClampNeg) (F 3 (kLotV F L h t k)) ((kTake F L (kLotV F L h t k) b.toNatClampNeg) (F 3 (kLotV F L h t k)) ++ [u.2.2])) u.1 ∧ WF (kdN kd u.2.2 3) (FN F u.2.2 [b.toNatClampNeg, pr.toNatClampNeg, qu.toNatClampNeg, qu.toNatClampNeg, 0, 0]) (upL (kTake F L (kLotV F L h t k) b.toNatClampNeg) (F 3 (kLotV F L h t k)) ((kTake F L (kLotV F L h t k) b.toNatClampNeg) (F 3 (kLotV F L h t k)) ++ [u.2.2])) ∧ kd u.2.2 = 0 ∧ va_D A u.1) (fun u U9 => va_P D vwCl u.1 U9.heap) A) (XK D ws A (ks (kIx b 8) (ks (kLotK F L h t k) (ks (kArg pr (nI 1) (nI 100000)) (ks (kArg qu (nI 0) (nI 100)) (if ¬ F 1 (F 0 (kLotV F L h t k)) ≤ F 5 h then 0 else 3)))))) 6 132 A := by
  refine vx_ofW (cc := cX8_bid) (maxL := 7) (ret := (some .int)) (by decide) rfl ?_
  intro p e s m args below meth c s₁ B hml htab hv
  obtain ⟨rfl, hP, hK, hG, hA⟩ := hv
  have hx := B.exec
  have hb := B.bytes
  have hr := B.returns
  have hts := atoms_spec (ws := wsX8_bid) B.pre
  have hown : s.vm.findClass RX8 = some m.cls := findClass_of_methodNamed B.named
  have hlocks := B.notSynchronized
  have hin_X1 : ∀ w ∈ wsX10, w ∈ wsX8_bid := fun w h => List.mem_cons_of_mem _ (List.mem_append_left _ (List.mem_append_left _ (List.mem_append_left _ (List.mem_append_left _ (List.mem_append_left _ (List.mem_append_left _ (List.mem_append_right _ h)))))))
  have hin_X5 : ∀ w ∈ wsX50, w ∈ wsX8_bid := fun w h => List.mem_cons_of_mem _ (List.mem_append_left _ (List.mem_append_left _ (List.mem_append_left _ (List.mem_append_left _ (List.mem_append_left _ (List.mem_append_left _ (List.mem_append_left _ (List.mem_append_right _ h))))))))
  have l_88 := (hts (.fieldLink RX8 88 "TenderHall$Lot" "tender" "LTenderHall$Tender;") (List.mem_of_getElem? (i := 6) rfl))
  have l_95 := (hts (.fieldLink RX8 95 "TenderHall$Lot" "bids" "Ljava/util/ArrayList;") (List.mem_of_getElem? (i := 7) rfl))
  have hS : va_S A s.heap s.heap [] := va_S.rf
  have hD0 := hD
  have hl := lv_entry ([.ref h, .int b, .int t, .int k, .int pr, .int qu]) (n := 7) (Nat.le_of_ble_eq_true rfl)
  rw [lg_entry_eq]
  generalize (lg_sl ([.ref h, .int b, .int t, .int k, .int pr, .int qu]) ++ List.replicate (7 - (lg_sl ([.ref h, .int b, .int t, .int k, .int pr, .int qu])).length) Slot.unset).toArray = ls at hl ⊢
  have hl : lv_has ls 7 [(0, .ref h), (1, .int b), (2, .int t), (3, .int k), (4, .int pr), (5, .int qu)] := hl
  refine lv_iload_n hx hb dX8_bid_0 rfl (lv_at hl 1 rfl) ?_
  refine vx_callv (vx_runS (As := [.int b]) (rest := []) ⟨hx, hb, hml, hown, hts⟩ (cx_checkBidder l hst D cI cO cb eA mi st ws hD hC hW hs b) (va_cwS 1 hts gX8_bid_X8_checkBidder rfl rfl rfl kd_X8_checkBidder ⟨Nat.le_of_ble_eq_true rfl, Nat.le_of_ble_eq_true rfl⟩) ⟨cB_blind, cB_pre hK hG hA hS hP _⟩ rfl rfl hl.1 rfl (lv_room (Nat.le_of_ble_eq_true rfl)) dX8_bid_1 ⟨Nat.le_of_ble_eq_true rfl, Nat.le_of_ble_eq_true rfl⟩) hS (fun _ _ h => h) (fun _ h => h) (fun _ _ h => h) (fun E9 ce9 q9 u U8 H1 locs1 ht hvm hu hB hz1 hk1 hS1 hc1 hc2 hc3 => ?_) (fun u U8 H1 locs1 ht hvm hu hB hz1 hk1 hS1 => ?_)
  · obtain ⟨hB1, hB2, hB3⟩ := hB
    rw [ht] at hB3
    have hkx : ks (kIx b 8) (ks (kLotK F L h t k) (ks (kArg pr (nI 1) (nI 100000)) (ks (kArg qu (nI 0) (nI 100)) (if ¬ F 1 (F 0 (kLotV F L h t k)) ≤ F 5 h then 0 else 3)))) = (kIx b 8) := by exact ks_l hB2
    exact vx_out (fun z9 h9 => (htab z9 h9).elim) hlocks hc1 hc2 hc3 (fun t9 g1 g2 => ⟨(), trivial, ⟨by rw [hkx]; exact hB1, by rw [hkx]; exact hB2, by rw [g1]; exact hB3⟩, hS1.F g1⟩) hS1.2.2 (Nat.le_of_ble_eq_true rfl) (Nat.le_of_ble_eq_true rfl)
  · have hk0_1 : (kIx b 8) = 0 := hu
    have hB2 := hB
    replace hB2 : va_P D vwCl ws U8.heap := hB2
    rw [ht] at hB2
    clear hS
    have hS := hS1
    replace hP := hB2
    generalize H1 = H at hP hS ⊢
    obtain ⟨j, hj, rfl⟩ := kIx_0 (by decide) hk0_1
    have hcl_j : (nI j).toNatClampNeg = j := nI_clamp (by omega)
    rw [hcl_j]
    rw [hcl_j] at hlenc
    refine lv_aload_n hx hb dX8_bid_4 rfl (lv_at hl 0 rfl) ?_
    refine lv_iload_n hx hb dX8_bid_5 rfl (lv_at hl 2 rfl) ?_
    refine lv_iload_n hx hb dX8_bid_6 rfl (lv_at hl 3 rfl) ?_
    have hm_2 : (h, .inr (9, [.ref (F 0 h), .ref (F 1 h), .ref (F 2 h), .ref (F 3 h), .ref (F 4 h), .int (nI (F 5 h))])) ∈ ws := hC.at hk_h (by decide) (by decide)
    refine vx_callr (vx_runV (As := [.int t, .int k]) (rest := []) ⟨hx, hb, hml, hown, hts⟩ (cx_lotAt l hst D cI cO cb eA mi st ws hD hC hW hs h hk_h t k) (cwV 2 hts gX8_bid_X8_lotAt rfl rfl rfl kd_X8_lotAt ⟨Nat.le_of_ble_eq_true rfl, Nat.le_of_ble_eq_true rfl⟩) ⟨cB_blind, c_recv hK hP rfl hm_2, cB_pre hK hG hA hS hP _⟩ rfl rfl hl.1 rfl (lv_room (Nat.le_of_ble_eq_true rfl)) dX8_bid_7 ⟨Nat.le_of_ble_eq_true rfl, Nat.le_of_ble_eq_true rfl⟩) hS (fun _ _ h => h) (fun _ h => h) (fun _ _ h => h) (fun E9 ce9 q9 u U8 H1 locs1 ht hvm hu hB hz1 hk1 hS1 hc1 hc2 hc3 => ?_) (fun u ra U8 H1 locs1 ht hvm hu hB hz1 hk1 hS1 => ?_)
    · obtain ⟨hB1, hB2, hB3⟩ := hB
      rw [ht] at hB3
      have hkx : ks (kIx (nI j) 8) (ks (kLotK F L h t k) (ks (kArg pr (nI 1) (nI 100000)) (ks (kArg qu (nI 0) (nI 100)) (if ¬ F 1 (F 0 (kLotV F L h t k)) ≤ F 5 h then 0 else 3)))) = (kLotK F L h t k) := by exact (ks_r hk0_1).trans (ks_l hB2)
      exact vx_out (fun z9 h9 => (htab z9 h9).elim) hlocks hc1 hc2 hc3 (fun t9 g1 g2 => ⟨(), trivial, ⟨by rw [hkx]; exact hB1, by rw [hkx]; exact hB2, by rw [g1]; exact hB3⟩, hS1.F g1⟩) hS1.2.2 (Nat.le_of_ble_eq_true rfl) (Nat.le_of_ble_eq_true rfl)
    · have hk0_3 : (kLotK F L h t k) = 0 := hu
      obtain ⟨hra, hB2⟩ := hB
      subst hra
      replace hB2 : va_P D vwCl ws U8.heap := hB2
      rw [ht] at hB2
      clear hS
      have hS := hS1
      replace hP := hB2
      generalize H1 = H at hP hS ⊢
      have hlen := hlenc hk0_3
      have hk_4 : kd (kLotV F L h t k) = 7 := kLot_kd hW hk_h hk0_3
      refine lv_astore (lv' := [(6, .ref (kLotV F L h t k)), (0, .ref h), (1, .int (nI j)), (2, .int t), (3, .int k), (4, .int pr), (5, .int qu)]) hx hb dX8_bid_10 hl (by decide) rfl (fun ls hl => ?_)
      refine lv_iload hx hb dX8_bid_12 (lv_at hl 5 rfl) ?_
      refine lv_iconst (v := nI 1) hx hb dX8_bid_14 (by decide) ?_
      refine lv_ldc (v := nI 100000) hx hb hown (hts (.constant RX8 87 (100000)) (List.mem_of_getElem? (i := 5) rfl)) dX8_bid_15 ?_
      refine vp_callSi (W.runS (As := [.int pr, .int (nI 1), .int (nI 100000)]) (rest := []) ⟨hx, hb, hml, hown, hts⟩ (ck_isOutside l pr (nI 1) (nI 100000)) (va_cwS 3 hts gX8_bid_X8_isOutside rfl rfl rfl kd_X8_isOutside ⟨Nat.le_of_ble_eq_true rfl, Nat.le_of_ble_eq_true rfl⟩) ⟨fun _ _ _ _ q => q, fun U hU hW => ⟨rfl, trivial⟩⟩ rfl rfl hl.1 rfl (lv_room (Nat.le_of_ble_eq_true rfl)) dX8_bid_17 ⟨Nat.le_of_ble_eq_true rfl, Nat.le_of_ble_eq_true rfl⟩) (fun r_5 hr_5 => ?_)
      subst hr_5
      refine b_if_ne (tgt := 34) hx hb dX8_bid_20 (by decide)  (fun c_6 => ?_) (fun c_6 => ?_)
      · have dd_c_6 := of_decide_eq_true c_6
        have hkx : ks (kIx (nI j) 8) (ks (kLotK F L h t k) (ks (kArg pr (nI 1) (nI 100000)) (ks (kArg qu (nI 0) (nI 100)) (if ¬ F 1 (F 0 (kLotV F L h t k)) ≤ F 5 h then 0 else 3)))) = 2 := by first | exact (ks_r hk0_1).trans ((ks_r hk0_3).trans ((ks_l (by rw [kArg, if_pos dd_c_6]; decide)).trans (if_pos dd_c_6))) | exact (ks_r hk0_1).trans ((ks_r hk0_3).trans ((ks_r (if_neg dd_c_6)).trans ((ks_l (by rw [kArg, if_pos rfl]; decide)).trans (if_pos rfl))))
        exact vx_throw0 (A := A) (own := RX8) (cls := "java/lang/IllegalArgumentException") (names := ["java/lang/RuntimeException", "java/lang/Exception"]) (ik := 37) (ic := 39) hx hb hst hown (by decide +kernel) (by decide +kernel) (hts (.classLink RX8 37 "java/lang/IllegalArgumentException") (List.mem_of_getElem? (i := 1) rfl)) (hts (.initialized "java/lang/IllegalArgumentException") (List.mem_of_getElem? (i := 2) rfl)) (vx_hat (L := vx_at0 RX8 39 "java/lang/IllegalArgumentException" ["java/lang/RuntimeException", "java/lang/Exception"]) (fun w9 h9 => hts w9 (List.mem_cons_of_mem _ (List.mem_append_left _ (List.mem_append_left _ (List.mem_append_right _ h9))))) gB2 (gB_of (by decide +kernel) hG.2.2.2.2.2.2.1)) (by decide +kernel) hG.1 hG.2.1 hS (hl.1.trans hml.symm) dX8_bid_34 dX8_bid_37 dX8_bid_38 dX8_bid_41 (fun z9 h9 => (htab z9 h9).elim) (by decide) (Nat.le_of_ble_eq_true rfl) (Nat.le_of_ble_eq_true rfl) (Nat.le_of_ble_eq_true rfl) hlocks (fun t9 _ g2 g3 => ⟨(), trivial, ⟨by rw [hkx]; rfl, by rw [hkx]; decide, (x_keep hS hP g2 g3).1⟩, (x_keep hS hP g2 g3).2⟩) hS.2.2 (Nat.le_of_ble_eq_true rfl) (Nat.le_of_ble_eq_true rfl)
      · have dd_c_6 := of_decide_eq_false c_6
        obtain ⟨x, hlo_x, hhi_x, rfl⟩ := out_nat (by decide) (by decide) dd_c_6
        have hcl_x : (nI x).toNatClampNeg = x := nI_clamp (by omega)
        rw [hcl_x]
        refine lv_iload hx hb dX8_bid_23 (lv_at hl 6 rfl) ?_
        refine lv_iconst (v := nI 0) hx hb dX8_bid_25 (by decide) ?_
        refine lv_bipush (v := nI 100) hx hb dX8_bid_26 (by decide) ?_
        refine vp_callSi (W.runS (As := [.int qu, .int (nI 0), .int (nI 100)]) (rest := []) ⟨hx, hb, hml, hown, hts⟩ (ck_isOutside l qu (nI 0) (nI 100)) (va_cwS 3 hts gX8_bid_X8_isOutside rfl rfl rfl kd_X8_isOutside ⟨Nat.le_of_ble_eq_true rfl, Nat.le_of_ble_eq_true rfl⟩) ⟨fun _ _ _ _ q => q, fun U hU hW => ⟨rfl, trivial⟩⟩ rfl rfl hl.1 rfl (lv_room (Nat.le_of_ble_eq_true rfl)) dX8_bid_28 ⟨Nat.le_of_ble_eq_true rfl, Nat.le_of_ble_eq_true rfl⟩) (fun r_7 hr_7 => ?_)
        subst hr_7
        refine b_if_eq (tgt := 42) hx hb dX8_bid_31 (by decide)  (fun c_8 => ?_) (fun c_8 => ?_)
        · have dd_c_8 := of_decide_eq_false c_8
          obtain ⟨y, hlo_y, hhi_y, rfl⟩ := out_nat (by decide) (by decide) dd_c_8
          have hcl_y : (nI y).toNatClampNeg = y := nI_clamp (by omega)
          rw [hcl_y]
          refine lv_aload_n hx hb dX8_bid_42 rfl (lv_at hl 1 rfl) ?_
          refine lv_aload hx hb dX8_bid_43 (lv_at hl 0 rfl) ?_
          have hm_9 : (kLotV F L h t k, .inr (7, [.ref (F 0 (kLotV F L h t k)), .int (nI (F 1 (kLotV F L h t k))), .int (nI (F 2 (kLotV F L h t k))), .ref (F 3 (kLotV F L h t k)), .ref (F 4 (kLotV F L h t k))])) ∈ ws := hC.at hk_4 (by decide) (by decide)
          refine c_get (C := RX5) (T := TX5) (N := 5) hx hb hts hin_X5 hown hK hP hm_9 rfl 0 (by decide) l_88 (fun _ h9 => h9) rfl dX8_bid_45 ?_
          have hk_10 : kd (F 0 (kLotV F L h t k)) = 8 := hW.ref (f := 0) hk_4 rfl (by decide)
          refine vp_callSi (W.runV (As := [.ref (F 0 (kLotV F L h t k))]) (rest := []) ⟨hx, hb, hml, hown, hts⟩ (ck_isOpened l D cI cO cb eA mi st ws hD hC hW hs h hk_h (F 0 (kLotV F L h t k)) hk_10) (cwV 1 hts gX8_bid_X8_isOpened rfl rfl rfl kd_X8_isOpened ⟨Nat.le_of_ble_eq_true rfl, Nat.le_of_ble_eq_true rfl⟩) ⟨cB_blind, c_recv hK hP rfl hm_2, cB_pre hK hG hA hS hP _⟩ rfl rfl hl.1 rfl (lv_room (Nat.le_of_ble_eq_true rfl)) dX8_bid_48 ⟨Nat.le_of_ble_eq_true rfl, Nat.le_of_ble_eq_true rfl⟩) (fun r_11 hr_11 => ?_)
          subst hr_11
          refine b_if_eq (tgt := 62) hx hb dX8_bid_51 (by decide)  (fun c_12 => ?_) (fun c_12 => ?_)
          · have dd_c_12 := of_decide_eq_false c_12
            refine lv_aload hx hb dX8_bid_62 (lv_at hl 0 rfl) ?_
            refine lv_iload_n hx hb dX8_bid_64 rfl (lv_at hl 2 rfl) ?_
            refine va_callv (va_runV (As := [.int (nI j)]) (rest := []) ⟨hx, hb, hml, hown, hts⟩ (cv_takeBack l D cI cO cb eA mi st ws hD hC hW hs (kLotV F L h t k) hk_4 j (by omega)) (cwV 1 hts gX8_bid_X5_takeBack rfl rfl rfl kd_X5_takeBack ⟨Nat.le_of_ble_eq_true rfl, Nat.le_of_ble_eq_true rfl⟩) ⟨cB_blind, c_recv hK hP rfl hm_9, cB_pre hK hG hA hS hP _⟩ rfl rfl hl.1 rfl (lv_room (Nat.le_of_ble_eq_true rfl)) dX8_bid_65 ⟨Nat.le_of_ble_eq_true rfl, Nat.le_of_ble_eq_true rfl⟩) hS (fun _ _ h => h) (fun _ h => h) (fun uw_13 U8 H1 locs1 ht hvm hu hB hz1 hk1 hS1 => ?_)
            obtain ⟨hC, hW, hD⟩ := hu
            rw [ht] at hB
            clear hS
            have hS := hS1
            replace hP := hB
            generalize H1 = H at hP hS ⊢
            refine lv_aload hx hb dX8_bid_68 (lv_at hl 0 rfl) ?_
            have hm_14 : (kLotV F L h t k, .inr (7, [.ref (F 0 (kLotV F L h t k)), .int (nI (F 1 (kLotV F L h t k))), .int (nI (F 2 (kLotV F L h t k))), .ref (F 3 (kLotV F L h t k)), .ref (F 4 (kLotV F L h t k))])) ∈ uw_13 := hC.at hk_4 (by decide) (by decide)
            refine c_get (C := RX5) (T := TX5) (N := 5) hx hb hts hin_X5 hown hK hP hm_14 rfl 3 (by decide) l_95 (fun _ h9 => h9) rfl dX8_bid_70 ?_
            have hk_15 : kd (F 3 (kLotV F L h t k)) = 23 := hW.ref (f := 3) hk_4 rfl (by decide)
            have hl_16 : ((kTake F L (kLotV F L h t k) j) (F 3 (kLotV F L h t k))).length ≤ 60 := hW.len hk_15 (by decide)
            have hC0 := hC
            refine va_new (ci := 3) (fs := [.int (nI 0), .int (nI 0), .int (nI 0), .int (nI 0), .null, .null]) hx hb hts hin_X1 tyX1 tyX1_ok hown (hts (.classLink RX8 98 RX1) (List.mem_of_getElem? (i := 8) rfl)) (hts (.instantiable RX1 6) (List.mem_of_getElem? (i := 9) rfl)) (hts (.initialized RX1) (List.mem_of_getElem? (i := 10) rfl)) hK hP hD hS hA rfl (fun j9 h9 => by rcases j9 with _ | _ | _ | _ | _ | _ | j9 <;> first | rfl | omega) (Nat.le_of_ble_eq_true rfl) (Nat.le_of_ble_eq_true rfl) dX8_bid_73 (fun q H hP hD hS => ?_)
            have hq0 := hC0.fresh hD
            have hC := hC0.app (ws2 := [(q, .inr (3, [.int (nI 0), .int (nI 0), .int (nI 0), .int (nI 0), .null, .null]))])
            have hq1 : (q, .inr (3, [.int (nI 0), .int (nI 0), .int (nI 0), .int (nI 0), .null, .null])) ∈ (uw_13 ++ [(q, .inr (3, [.int (nI 0), .int (nI 0), .int (nI 0), .int (nI 0), .null, .null]))]) := List.mem_append_right _ (List.mem_singleton.mpr rfl)
            refine lv_dup hx hb dX8_bid_76 rfl ?_
            refine lv_iload_n hx hb dX8_bid_77 rfl (lv_at hl 2 rfl) ?_
            refine lv_iload hx hb dX8_bid_78 (lv_at hl 5 rfl) ?_
            refine lv_iload hx hb dX8_bid_80 (lv_at hl 6 rfl) ?_
            refine va_callv (va_runI (As := [.int (nI j), .int (nI x), .int (nI y)]) (rest := [.ref q, .ref (F 3 (kLotV F L h t k))]) ⟨hx, hb, hml, hown, hts⟩ (ci_X1 l D cI cO cb eA mi st (uw_13 ++ [(q, .inr (3, [.int (nI 0), .int (nI 0), .int (nI 0), .int (nI 0), .null, .null]))]) hD q hq1 j x y) (cwI 3 hts ggX8_bid_X1_init rfl rfl rfl (hts (.initialized RX1) (List.mem_of_getElem? (i := 10) rfl)) (hts (.methodLink RX8 100 yX1_init) (List.mem_of_getElem? (i := 85) rfl)) (hts (.instanceMethod yX1_init) (List.mem_of_getElem? (i := 86) rfl)) rfl kd_X1_init ⟨Nat.le_of_ble_eq_true rfl, Nat.le_of_ble_eq_true rfl⟩) ⟨cB_blind, cB_pre hK hG hA hS hP _⟩ rfl rfl hl.1 rfl (lv_room (Nat.le_of_ble_eq_true rfl)) dX8_bid_82 ⟨Nat.le_of_ble_eq_true rfl, Nat.le_of_ble_eq_true rfl⟩) hS (fun _ _ h => h) (fun _ h => h) (fun u U8 H1 locs1 ht hvm hu hB hz1 hk1 hS1 => ?_)
            obtain ⟨hD1, hB⟩ := hB
            rw [ht] at hB
            clear hS
            have hS := hS1
            replace hP := hB
            replace hD := hD1
            generalize H1 = H at hP hS ⊢
            rw [wup_app hD] at hP hD
            have hC := hC0.new (k := 3) (vals := [j, x, y, y, 0, 0]) hD (by decide) (by simp [ent, FN])
            have hr9 : ∀ f9, rg 3 f9 = 0 ∨ ([j, x, y, y, 0, 0] : List Nat).getD f9 0 < rg 3 f9 := by
              intro f9
              rcases f9 with _ | _ | _ | _ | _ | _ | f9
              · exact Or.inr (show j < 8 by omega)
              · exact Or.inr (show x < 100001 by omega)
              · exact Or.inr (show y < 101 by omega)
              · exact Or.inr (show y < 101 by omega)
              · exact Or.inr (show 0 < 4 by omega)
              · exact Or.inr (show 0 < 4 by omega)
              · exact Or.inl rfl
            have hr8 : ∀ f9, rk 3 f9 = 0 ∨ kd (([j, x, y, y, 0, 0] : List Nat).getD f9 0) = rk 3 f9 := by
              intro f9
              rcases f9 with _ | _ | _ | _ | _ | _ | f9
              · exact Or.inl rfl
              · exact Or.inl rfl
              · exact Or.inl rfl
              · exact Or.inl rfl
              · exact Or.inl rfl
              · exact Or.inl rfl
              · exact Or.inl rfl
            have hW := hW.new (k := 3) hq0 (by decide) hr9 hr8
            obtain ⟨fs_hm_17, hm_17⟩ := hC.obj (kdN_old hq0 hk_15 (by decide)) (by decide)
            refine va_calli (va_runV (As := [.ref q]) (rest := []) ⟨hx, hb, hml, hown, hts⟩ (cl_add l D cI cO cb eA mi st (uw_13 ++ [(q, .inr (3, [.int (nI j), .int (nI x), .int (nI y), .int (nI y), .ref (st 0), .ref (st 0)]))]) hD (F 3 (kLotV F L h t k)) ((kTake F L (kLotV F L h t k) j) (F 3 (kLotV F L h t k))) q (hC.lst (kdN_old hq0 hk_15 (by decide)) (by decide)) (hC.els hW (kdN_old hq0 hk_15 (by decide)) (by decide)) (hC.elt (by rw [kdN_eq]; decide) (by rw [kdN_eq]; decide)) (by omega)) (cwV 1 hts gX8_bid_Jx4a65c_add_9ea2d rfl rfl rfl kd_Jx4a65c_add_9ea2d ⟨Nat.le_of_ble_eq_true rfl, Nat.le_of_ble_eq_true rfl⟩) ⟨cB_blind, c_recv hK hP rfl hm_17, cB_pre hK hG hA hS hP _⟩ rfl rfl hl.1 rfl (lv_room (Nat.le_of_ble_eq_true rfl)) dX8_bid_85 ⟨Nat.le_of_ble_eq_true rfl, Nat.le_of_ble_eq_true rfl⟩) hS (fun _ _ h => h) (fun _ h => h) (fun ri u U8 H1 locs1 ht hvm hu hB hz1 hk1 hS1 => ?_)
            obtain ⟨hri, hu1, hu2, hD⟩ := hu
            subst hri
            rw [ht] at hB
            clear hS
            have hS := hS1
            replace hP := hB
            generalize H1 = H at hP hS ⊢
            have hC := hC.setL hu2 hu1
            have hW := hW.setL (kdN_old hq0 hk_15 (by decide)) (show ((kTake F L (kLotV F L h t k) j) (F 3 (kLotV F L h t k)) ++ [q]).length ≤ 60 by rw [List.length_append]; show _ + 1 ≤ 60; omega) (els_add (fun x9 h9 => by rw [(hW.2.2 _ (by rw [(kdN_old hq0 hk_15 (by decide))]; decide)).2.2.2 x9 h9]; exact (kdN_old hq0 hk_15 (by decide))) (by rw [kdN_eq]))
            refine lv_pop hx hb dX8_bid_88 rfl ?_
            refine lv_aload hx hb dX8_bid_89 (lv_at hl 0 rfl) ?_
            have hm_18 : (kLotV F L h t k, .inr (7, [.ref ((FN F q [j, x, y, y, 0, 0]) 0 (kLotV F L h t k)), .int (nI ((FN F q [j, x, y, y, 0, 0]) 1 (kLotV F L h t k))), .int (nI ((FN F q [j, x, y, y, 0, 0]) 2 (kLotV F L h t k))), .ref ((FN F q [j, x, y, y, 0, 0]) 3 (kLotV F L h t k)), .ref ((FN F q [j, x, y, y, 0, 0]) 4 (kLotV F L h t k))])) ∈ u.1 := hC.at (kdN_old hq0 hk_4 (by decide)) (by decide) (by decide)
            refine c_get (C := RX5) (T := TX5) (N := 5) hx hb hts hin_X5 hown hK hP hm_18 rfl 3 (by decide) l_95 (fun _ h9 => h9) rfl dX8_bid_91 ?_
            have hk_19 : (kdN kd q 3) ((FN F q [j, x, y, y, 0, 0]) 3 (kLotV F L h t k)) = 23 := hW.ref (f := 3) (kdN_old hq0 hk_4 (by decide)) rfl (by decide)
            have hl_20 : ((upL (kTake F L (kLotV F L h t k) j) (F 3 (kLotV F L h t k)) ((kTake F L (kLotV F L h t k) j) (F 3 (kLotV F L h t k)) ++ [q])) ((FN F q [j, x, y, y, 0, 0]) 3 (kLotV F L h t k))).length ≤ 60 := hW.len hk_19 (by decide)
            obtain ⟨fs_hm_21, hm_21⟩ := hC.obj hk_19 (by decide)
            refine vp_callSi (W.runV (As := []) (rest := []) ⟨hx, hb, hml, hown, hts⟩ ((cl_size l D cI cO cb eA mi st u.1 hD ((FN F q [j, x, y, y, 0, 0]) 3 (kLotV F L h t k)) ((upL (kTake F L (kLotV F L h t k) j) (F 3 (kLotV F L h t k)) ((kTake F L (kLotV F L h t k) j) (F 3 (kLotV F L h t k)) ++ [q])) ((FN F q [j, x, y, y, 0, 0]) 3 (kLotV F L h t k))) (hC.lst hk_19 (by decide)))) (cwV 0 hts gX8_bid_Jx4a65c_size_8abf5 rfl rfl rfl kd_Jx4a65c_size_8abf5 ⟨Nat.le_of_ble_eq_true rfl, Nat.le_of_ble_eq_true rfl⟩) ⟨cB_blind, c_recv hK hP rfl hm_21, cB_pre hK hG hA hS hP _⟩ rfl rfl hl.1 rfl (lv_room (Nat.le_of_ble_eq_true rfl)) dX8_bid_94 ⟨Nat.le_of_ble_eq_true rfl, Nat.le_of_ble_eq_true rfl⟩) (fun r_22 hr_22 => ?_)
            subst hr_22
            refine W.widen (k := 6) (n := 132) (by omega) (by omega) ?_
            refine vx_ret ?_
            have hk9 : ks (kIx (nI j) 8) (ks (kLotK F L h t k) (ks (kArg (nI x) (nI 1) (nI 100000)) (ks (kArg (nI y) (nI 0) (nI 100)) (if ¬ F 1 (F 0 (kLotV F L h t k)) ≤ F 5 h then 0 else 3)))) = 0 := by exact (ks_r hk0_1).trans ((ks_r hk0_3).trans ((ks_r (if_neg dd_c_6)).trans ((ks_r (if_neg dd_c_8)).trans (if_pos (by omega)))))
            exact W.iret (v := nI (((upL (kTake F L (kLotV F L h t k) j) (F 3 (kLotV F L h t k)) ((kTake F L (kLotV F L h t k) j) (F 3 (kLotV F L h t k)) ++ [q])) ((FN F q [j, x, y, y, 0, 0]) 3 (kLotV F L h t k))).length)) hx hb hr (fun U9 ht hW9 => ⟨⟨_, (u.1, u.2, q), rfl, ⟨hk9, (show nI (((upL (kTake F L (kLotV F L h t k) j) (F 3 (kLotV F L h t k)) ((kTake F L (kLotV F L h t k) j) (F 3 (kLotV F L h t k)) ++ [q])) ((FN F q [j, x, y, y, 0, 0]) 3 (kLotV F L h t k))).length) = nI (((kTake F L (kLotV F L h t k) j) (F 3 (kLotV F L h t k))).length + 1) from by exact congrArg nI (by rw [FN_ne (fun e9 => absurd (show kd (kLotV F L h t k) = 7 by assumption) (by rw [e9, hq0]; decide)), upL_eq, List.length_append]; rfl)), hC, hW, hq0, hD⟩, by show va_P D vwCl _ U9.heap; rw [ht]; exact hP⟩, hS.F ht⟩) hS.2.2 dX8_bid_97
          · have dd_c_12 := of_decide_eq_true c_12
            have hkx : ks (kIx (nI j) 8) (ks (kLotK F L h t k) (ks (kArg (nI x) (nI 1) (nI 100000)) (ks (kArg (nI y) (nI 0) (nI 100)) (if ¬ F 1 (F 0 (kLotV F L h t k)) ≤ F 5 h then 0 else 3)))) = 3 := by exact (ks_r hk0_1).trans ((ks_r hk0_3).trans ((ks_r (if_neg dd_c_6)).trans ((ks_r (if_neg dd_c_8)).trans (if_neg (by omega)))))
            exact vx_throw0 (A := A) (own := RX8) (cls := "java/lang/IllegalStateException") (names := ["java/lang/RuntimeException", "java/lang/Exception"]) (ik := 44) (ic := 46) hx hb hst hown (by decide +kernel) (by decide +kernel) (hts (.classLink RX8 44 "java/lang/IllegalStateException") (List.mem_of_getElem? (i := 3) rfl)) (hts (.initialized "java/lang/IllegalStateException") (List.mem_of_getElem? (i := 4) rfl)) (vx_hat (L := vx_at0 RX8 46 "java/lang/IllegalStateException" ["java/lang/RuntimeException", "java/lang/Exception"]) (fun w9 h9 => hts w9 (List.mem_cons_of_mem _ (List.mem_append_left _ (List.mem_append_right _ h9)))) gB3 (gB_of (by decide +kernel) hG.2.2.2.2.2.2.1)) (by decide +kernel) hG.1 hG.2.1 hS (hl.1.trans hml.symm) dX8_bid_54 dX8_bid_57 dX8_bid_58 dX8_bid_61 (fun z9 h9 => (htab z9 h9).elim) (by decide) (Nat.le_of_ble_eq_true rfl) (Nat.le_of_ble_eq_true rfl) (Nat.le_of_ble_eq_true rfl) hlocks (fun t9 _ g2 g3 => ⟨(), trivial, ⟨by rw [hkx]; rfl, by rw [hkx]; decide, (x_keep hS hP g2 g3).1⟩, (x_keep hS hP g2 g3).2⟩) hS.2.2 (Nat.le_of_ble_eq_true rfl) (Nat.le_of_ble_eq_true rfl)
        · have dd_c_8 := of_decide_eq_true c_8
          have hkx : ks (kIx (nI j) 8) (ks (kLotK F L h t k) (ks (kArg (nI x) (nI 1) (nI 100000)) (ks (kArg qu (nI 0) (nI 100)) (if ¬ F 1 (F 0 (kLotV F L h t k)) ≤ F 5 h then 0 else 3)))) = 2 := by first | exact (ks_r hk0_1).trans ((ks_r hk0_3).trans ((ks_l (by rw [kArg, if_pos dd_c_6]; decide)).trans (if_pos dd_c_6))) | exact (ks_r hk0_1).trans ((ks_r hk0_3).trans ((ks_r (if_neg dd_c_6)).trans ((ks_l (by rw [kArg, if_pos dd_c_8]; decide)).trans (if_pos dd_c_8))))
          exact vx_throw0 (A := A) (own := RX8) (cls := "java/lang/IllegalArgumentException") (names := ["java/lang/RuntimeException", "java/lang/Exception"]) (ik := 37) (ic := 39) hx hb hst hown (by decide +kernel) (by decide +kernel) (hts (.classLink RX8 37 "java/lang/IllegalArgumentException") (List.mem_of_getElem? (i := 1) rfl)) (hts (.initialized "java/lang/IllegalArgumentException") (List.mem_of_getElem? (i := 2) rfl)) (vx_hat (L := vx_at0 RX8 39 "java/lang/IllegalArgumentException" ["java/lang/RuntimeException", "java/lang/Exception"]) (fun w9 h9 => hts w9 (List.mem_cons_of_mem _ (List.mem_append_left _ (List.mem_append_left _ (List.mem_append_right _ h9))))) gB2 (gB_of (by decide +kernel) hG.2.2.2.2.2.2.1)) (by decide +kernel) hG.1 hG.2.1 hS (hl.1.trans hml.symm) dX8_bid_34 dX8_bid_37 dX8_bid_38 dX8_bid_41 (fun z9 h9 => (htab z9 h9).elim) (by decide) (Nat.le_of_ble_eq_true rfl) (Nat.le_of_ble_eq_true rfl) (Nat.le_of_ble_eq_true rfl) hlocks (fun t9 _ g2 g3 => ⟨(), trivial, ⟨by rw [hkx]; rfl, by rw [hkx]; decide, (x_keep hS hP g2 g3).1⟩, (x_keep hS hP g2 g3).2⟩) hS.2.2 (Nat.le_of_ble_eq_true rfl) (Nat.le_of_ble_eq_true rfl)
