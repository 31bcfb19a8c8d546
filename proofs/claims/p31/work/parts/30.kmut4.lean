/-! the class: withdraw -/
def kHas (F : Nat → Nat → Nat) (L : Nat → List Nat) (a b : Nat) : Bool := (kBid F L a b).isSome
def kPr (F : Nat → Nat → Nat) (L : Nat → List Nat) (a b : Nat) : Nat := match kBid F L a b with
  | none => 0
  | some o => F 1 o
abbrev kWdC (F : Nat → Nat → Nat) (L : Nat → List Nat) (h a b : Nat) : Prop := kHas F L a b = true ∧ ¬ F 1 (F 0 a) ≤ F 5 h
set_option maxHeartbeats 4000000 in
set_option maxRecDepth 100000 in
theorem cm_withdraw (l : Launch) (hst : l.stackTraces = false) (D : va_G) (cI cO cb : ClassId) (eA mi : Nat) (st : Nat → Nat) {A : Nat → Prop} (ws : va_W) (hD : va_D A ws) {own kd : Nat → Nat} {F : Nat → Nat → Nat} {L : Nat → List Nat} (hC : CW cI cO eA st own kd F L ws) (hW : WF kd F L) (hs : sInj st)  (h : Nat) (hk_h : kd h = 9) (b : Int32) (t : Int32) (k : Int32) : vx_Met l yX8_withdraw wsX8_withdraw ({ frames := 8, cells := 4, slots := 24, locals := 128 }) (va_Pc [.ref h, .int b, .int t, .int k] (cB D cI cO cb eA mi st A ws)) (va_Qi (fun (ri : Int32) (u : va_W) => ks (kIx b 8) (ks (kLotK F L h t k) (if kWdC F L h (kLotV F L h t k) b.toNatClampNeg then 0 else 3)) = 0 ∧ ri = nI (kPr F L (kLotV F L h t k) b.toNatClampNeg) ∧ CW cI cO eA st own kd (F) (kTake F L (kLotV F L h t k) b.toNatClampNeg) u ∧ WF kd (F) (kTake F L (kLotV F L h t k) b.toNatClampNeg) ∧ va_D A u) (fun u U9 => va_P D vwCl u U9.heap) A) (XK D ws A (ks (kIx b 8) (ks (kLotK F L h t k) (if kWdC F L h (kLotV F L h t k) b.toNatClampNeg then 0 else 3)))) 4 24 A := by
  refine vx_ofW (cc := cX8_withdraw) (maxL := 6) (ret := (some .int)) (by decide) rfl ?_
  intro p e s m args below meth c s₁ B hml htab hv
  obtain ⟨rfl, hP, hK, hG, hA⟩ := hv
  have hx := B.exec
  have hb := B.bytes
  have hr := B.returns
  have hts := atoms_spec (ws := wsX8_withdraw) B.pre
  have hown : s.vm.findClass RX8 = some m.cls := findClass_of_methodNamed B.named
  have hlocks := B.notSynchronized
  have hin_X1 : ∀ w ∈ wsX10, w ∈ wsX8_withdraw := fun w h => List.mem_cons_of_mem _ (List.mem_append_left _ (List.mem_append_left _ (List.mem_append_left _ (List.mem_append_left _ (List.mem_append_left _ (List.mem_append_right _ h))))))
  have hin_X5 : ∀ w ∈ wsX50, w ∈ wsX8_withdraw := fun w h => List.mem_cons_of_mem _ (List.mem_append_left _ (List.mem_append_left _ (List.mem_append_left _ (List.mem_append_left _ (List.mem_append_left _ (List.mem_append_left _ (List.mem_append_right _ h)))))))
  have l_88 := (hts (.fieldLink RX8 88 "TenderHall$Lot" "tender" "LTenderHall$Tender;") (List.mem_of_getElem? (i := 3) rfl))
  have l_107 := (hts (.fieldLink RX8 107 "TenderHall$Bid" "price" "I") (List.mem_of_getElem? (i := 4) rfl))
  have hS : va_S A s.heap s.heap [] := va_S.rf
  have hD0 := hD
  have hl := lv_entry ([.ref h, .int b, .int t, .int k]) (n := 6) (Nat.le_of_ble_eq_true rfl)
  rw [lg_entry_eq]
  generalize (lg_sl ([.ref h, .int b, .int t, .int k]) ++ List.replicate (6 - (lg_sl ([.ref h, .int b, .int t, .int k])).length) Slot.unset).toArray = ls at hl ⊢
  have hl : lv_has ls 6 [(0, .ref h), (1, .int b), (2, .int t), (3, .int k)] := hl
  refine lv_iload_n hx hb dX8_withdraw_0 rfl (lv_at hl 1 rfl) ?_
  refine vx_callv (vx_runS (As := [.int b]) (rest := []) ⟨hx, hb, hml, hown, hts⟩ (cx_checkBidder l hst D cI cO cb eA mi st ws hD hC hW hs b) (va_cwS 1 hts gX8_withdraw_X8_checkBidder rfl rfl rfl kd_X8_checkBidder ⟨Nat.le_of_ble_eq_true rfl, Nat.le_of_ble_eq_true rfl⟩) ⟨cB_blind, cB_pre hK hG hA hS hP _⟩ rfl rfl hl.1 rfl (lv_room (Nat.le_of_ble_eq_true rfl)) dX8_withdraw_1 ⟨Nat.le_of_ble_eq_true rfl, Nat.le_of_ble_eq_true rfl⟩) hS (fun _ _ h => h) (fun _ h => h) (fun _ _ h => h) (fun E9 ce9 q9 u U8 H1 locs1 ht hvm hu hB hz1 hk1 hS1 hc1 hc2 hc3 => ?_) (fun u U8 H1 locs1 ht hvm hu hB hz1 hk1 hS1 => ?_)
  · obtain ⟨hB1, hB2, hB3⟩ := hB
    rw [ht] at hB3
    have hkx : ks (kIx b 8) (ks (kLotK F L h t k) (if kWdC F L h (kLotV F L h t k) b.toNatClampNeg then 0 else 3)) = (kIx b 8) := by exact ks_l hB2
    exact vx_out (fun z9 h9 => (htab z9 h9).elim) hlocks hc1 hc2 hc3 (fun t9 g1 g2 => ⟨(), trivial, ⟨by rw [hkx]; exact hB1, by rw [hkx]; exact hB2, by rw [g1]; exact hB3⟩, hS1.F g1⟩) hS1.2.2 (Nat.le_of_ble_eq_true rfl) (Nat.le_of_ble_eq_true rfl)
  · have hk0_1 : (kIx b 8) = 0 := hu
    have hB2 := hB
    replace hB2 : va_P D vwCl ws U8.heap := hB2
    rw [ht] at hB2
    clear hS
    have hS := hS1
    replace hP := hB2
    generalize H1 = H at hP hS ⊢
    obtain ⟨j, hj, rfl⟩ := kIx_0 (by decide) hk0_1
    have hcl_j : (nI j).toNatClampNeg = j := nI_clamp (by omega)
    rw [hcl_j]
    refine lv_aload_n hx hb dX8_withdraw_4 rfl (lv_at hl 0 rfl) ?_
    refine lv_iload_n hx hb dX8_withdraw_5 rfl (lv_at hl 2 rfl) ?_
    refine lv_iload_n hx hb dX8_withdraw_6 rfl (lv_at hl 3 rfl) ?_
    have hm_2 : (h, .inr (9, [.ref (F 0 h), .ref (F 1 h), .ref (F 2 h), .ref (F 3 h), .ref (F 4 h), .int (nI (F 5 h))])) ∈ ws := hC.at hk_h (by decide) (by decide)
    refine vx_callr (vx_runV (As := [.int t, .int k]) (rest := []) ⟨hx, hb, hml, hown, hts⟩ (cx_lotAt l hst D cI cO cb eA mi st ws hD hC hW hs h hk_h t k) (cwV 2 hts gX8_withdraw_X8_lotAt rfl rfl rfl kd_X8_lotAt ⟨Nat.le_of_ble_eq_true rfl, Nat.le_of_ble_eq_true rfl⟩) ⟨cB_blind, c_recv hK hP rfl hm_2, cB_pre hK hG hA hS hP _⟩ rfl rfl hl.1 rfl (lv_room (Nat.le_of_ble_eq_true rfl)) dX8_withdraw_7 ⟨Nat.le_of_ble_eq_true rfl, Nat.le_of_ble_eq_true rfl⟩) hS (fun _ _ h => h) (fun _ h => h) (fun _ _ h => h) (fun E9 ce9 q9 u U8 H1 locs1 ht hvm hu hB hz1 hk1 hS1 hc1 hc2 hc3 => ?_) (fun u ra U8 H1 locs1 ht hvm hu hB hz1 hk1 hS1 => ?_)
    · obtain ⟨hB1, hB2, hB3⟩ := hB
      rw [ht] at hB3
      have hkx : ks (kIx (nI j) 8) (ks (kLotK F L h t k) (if kWdC F L h (kLotV F L h t k) j then 0 else 3)) = (kLotK F L h t k) := by exact (ks_r hk0_1).trans (ks_l hB2)
      exact vx_out (fun z9 h9 => (htab z9 h9).elim) hlocks hc1 hc2 hc3 (fun t9 g1 g2 => ⟨(), trivial, ⟨by rw [hkx]; exact hB1, by rw [hkx]; exact hB2, by rw [g1]; exact hB3⟩, hS1.F g1⟩) hS1.2.2 (Nat.le_of_ble_eq_true rfl) (Nat.le_of_ble_eq_true rfl)
    · have hk0_3 : (kLotK F L h t k) = 0 := hu
      obtain ⟨hra, hB2⟩ := hB
      subst hra
      replace hB2 : va_P D vwCl ws U8.heap := hB2
      rw [ht] at hB2
      clear hS
      have hS := hS1
      replace hP := hB2
      generalize H1 = H at hP hS ⊢
      have hk_4 : kd (kLotV F L h t k) = 7 := kLot_kd hW hk_h hk0_3
      refine lv_astore (lv' := [(4, .ref (kLotV F L h t k)), (0, .ref h), (1, .int (nI j)), (2, .int t), (3, .int k)]) hx hb dX8_withdraw_10 hl (by decide) rfl (fun ls hl => ?_)
      refine lv_aload hx hb dX8_withdraw_12 (lv_at hl 0 rfl) ?_
      refine lv_iload_n hx hb dX8_withdraw_14 rfl (lv_at hl 2 rfl) ?_
      have hm_5 : (kLotV F L h t k, .inr (7, [.ref (F 0 (kLotV F L h t k)), .int (nI (F 1 (kLotV F L h t k))), .int (nI (F 2 (kLotV F L h t k))), .ref (F 3 (kLotV F L h t k)), .ref (F 4 (kLotV F L h t k))])) ∈ ws := hC.at hk_4 (by decide) (by decide)
      refine va_csq (W.runV (As := [.int (nI j)]) (rest := []) ⟨hx, hb, hml, hown, hts⟩ (ck_bidOf l D cI cO cb eA mi st ws hD hC hW hs (kLotV F L h t k) hk_4 j (by omega)) (cwV 1 hts gX8_withdraw_X5_bidOf rfl rfl rfl kd_X5_bidOf ⟨Nat.le_of_ble_eq_true rfl, Nat.le_of_ble_eq_true rfl⟩) ⟨cB_blind, c_recv hK hP rfl hm_5, cB_pre hK hG hA hS hP _⟩ rfl rfl hl.1 rfl (lv_room (Nat.le_of_ble_eq_true rfl)) dX8_withdraw_15 ⟨Nat.le_of_ble_eq_true rfl, Nat.le_of_ble_eq_true rfl⟩) (fun r_6 hr_6 => ?_)
      subst hr_6
      rcases ho_7 : kBid F L (kLotV F L h t k) j with _ | o_7
      · show W _ _ _ _ _ _ _ _ _ _ _ _ _ _ _ (F0 _ _ _ (.null :: _))
        refine lv_astoreN (lv' := [(5, .null), (4, .ref (kLotV F L h t k)), (0, .ref h), (1, .int (nI j)), (2, .int t), (3, .int k)]) hx hb dX8_withdraw_18 hl (by decide) rfl (fun ls hl => ?_)
        refine lv_aloadN hx hb dX8_withdraw_20 (lv_at hl 0 rfl) ?_
        refine lv_ifnullN (tgt := 37) hx hb dX8_withdraw_22 (by decide) ?_
        have hkx : ks (kIx (nI j) 8) (ks (kLotK F L h t k) (if kWdC F L h (kLotV F L h t k) j then 0 else 3)) = 3 := by exact (ks_r hk0_1).trans ((ks_r hk0_3).trans (if_neg (by rintro ⟨q1, q2⟩; first | omega | (unfold kHas at q1; rw [ho_7] at q1; cases q1))))
        exact vx_throw0 (A := A) (own := RX8) (cls := "java/lang/IllegalStateException") (names := ["java/lang/RuntimeException", "java/lang/Exception"]) (ik := 44) (ic := 46) hx hb hst hown (by decide +kernel) (by decide +kernel) (hts (.classLink RX8 44 "java/lang/IllegalStateException") (List.mem_of_getElem? (i := 1) rfl)) (hts (.initialized "java/lang/IllegalStateException") (List.mem_of_getElem? (i := 2) rfl)) (vx_hat (L := vx_at0 RX8 46 "java/lang/IllegalStateException" ["java/lang/RuntimeException", "java/lang/Exception"]) (fun w9 h9 => hts w9 (List.mem_cons_of_mem _ (List.mem_append_left _ (List.mem_append_right _ h9)))) gB3 (gB_of (by decide +kernel) hG.2.2.2.2.2.2.1)) (by decide +kernel) hG.1 hG.2.1 hS (hl.1.trans hml.symm) dX8_withdraw_37 dX8_withdraw_40 dX8_withdraw_41 dX8_withdraw_44 (fun z9 h9 => (htab z9 h9).elim) (by decide) (Nat.le_of_ble_eq_true rfl) (Nat.le_of_ble_eq_true rfl) (Nat.le_of_ble_eq_true rfl) hlocks (fun t9 _ g2 g3 => ⟨(), trivial, ⟨by rw [hkx]; rfl, by rw [hkx]; decide, (x_keep hS hP g2 g3).1⟩, (x_keep hS hP g2 g3).2⟩) hS.2.2 (Nat.le_of_ble_eq_true rfl) (Nat.le_of_ble_eq_true rfl)
      · show W _ _ _ _ _ _ _ _ _ _ _ _ _ _ _ (F0 _ _ _ (.ref o_7 :: _))
        have hk_8 : kd o_7 = 3 := kBid_kd hW hk_4 ho_7
        refine lv_astore (lv' := [(5, .ref o_7), (4, .ref (kLotV F L h t k)), (0, .ref h), (1, .int (nI j)), (2, .int t), (3, .int k)]) hx hb dX8_withdraw_18 hl (by decide) rfl (fun ls hl => ?_)
        refine lv_aload hx hb dX8_withdraw_20 (lv_at hl 0 rfl) ?_
        refine lv_ifnull hx hb dX8_withdraw_22 ?_
        refine lv_aload_n hx hb dX8_withdraw_25 rfl (lv_at hl 2 rfl) ?_
        refine lv_aload hx hb dX8_withdraw_26 (lv_at hl 1 rfl) ?_
        refine c_get (C := RX5) (T := TX5) (N := 5) hx hb hts hin_X5 hown hK hP hm_5 rfl 0 (by decide) l_88 (fun _ h9 => h9) rfl dX8_withdraw_28 ?_
        have hk_9 : kd (F 0 (kLotV F L h t k)) = 8 := hW.ref (f := 0) hk_4 rfl (by decide)
        refine vp_callSi (W.runV (As := [.ref (F 0 (kLotV F L h t k))]) (rest := []) ⟨hx, hb, hml, hown, hts⟩ (ck_isOpened l D cI cO cb eA mi st ws hD hC hW hs h hk_h (F 0 (kLotV F L h t k)) hk_9) (cwV 1 hts gX8_withdraw_X8_isOpened rfl rfl rfl kd_X8_isOpened ⟨Nat.le_of_ble_eq_true rfl, Nat.le_of_ble_eq_true rfl⟩) ⟨cB_blind, c_recv hK hP rfl hm_2, cB_pre hK hG hA hS hP _⟩ rfl rfl hl.1 rfl (lv_room (Nat.le_of_ble_eq_true rfl)) dX8_withdraw_31 ⟨Nat.le_of_ble_eq_true rfl, Nat.le_of_ble_eq_true rfl⟩) (fun r_10 hr_10 => ?_)
        subst hr_10
        refine b_if_eq (tgt := 45) hx hb dX8_withdraw_34 (by decide)  (fun c_11 => ?_) (fun c_11 => ?_)
        · have dd_c_11 := of_decide_eq_false c_11
          refine lv_aload hx hb dX8_withdraw_45 (lv_at hl 1 rfl) ?_
          refine lv_iload_n hx hb dX8_withdraw_47 rfl (lv_at hl 3 rfl) ?_
          refine va_callv (va_runV (As := [.int (nI j)]) (rest := []) ⟨hx, hb, hml, hown, hts⟩ (cv_takeBack l D cI cO cb eA mi st ws hD hC hW hs (kLotV F L h t k) hk_4 j (by omega)) (cwV 1 hts gX8_withdraw_X5_takeBack rfl rfl rfl kd_X5_takeBack ⟨Nat.le_of_ble_eq_true rfl, Nat.le_of_ble_eq_true rfl⟩) ⟨cB_blind, c_recv hK hP rfl hm_5, cB_pre hK hG hA hS hP _⟩ rfl rfl hl.1 rfl (lv_room (Nat.le_of_ble_eq_true rfl)) dX8_withdraw_48 ⟨Nat.le_of_ble_eq_true rfl, Nat.le_of_ble_eq_true rfl⟩) hS (fun _ _ h => h) (fun _ h => h) (fun uw_12 U8 H1 locs1 ht hvm hu hB hz1 hk1 hS1 => ?_)
          obtain ⟨hC, hW, hD⟩ := hu
          rw [ht] at hB
          clear hS
          have hS := hS1
          replace hP := hB
          generalize H1 = H at hP hS ⊢
          refine lv_aload hx hb dX8_withdraw_51 (lv_at hl 0 rfl) ?_
          have hm_13 : (o_7, .inr (3, [.int (nI (F 0 o_7)), .int (nI (F 1 o_7)), .int (nI (F 2 o_7)), .int (nI (F 3 o_7)), .ref (st (F 4 o_7)), .ref (st (F 5 o_7))])) ∈ uw_12 := hC.at hk_8 (by decide) (by decide)
          refine c_get (C := RX1) (T := TX1) (N := 6) hx hb hts hin_X1 hown hK hP hm_13 rfl 1 (by decide) l_107 (fun _ h9 => h9) rfl dX8_withdraw_53 ?_
          have hn_14 : F 1 o_7 < 100001 := hW.num (f := 1) hk_8 rfl (by decide)
          refine W.widen (k := 4) (n := 24) (by omega) (by omega) ?_
          refine vx_ret ?_
          have hk9 : ks (kIx (nI j) 8) (ks (kLotK F L h t k) (if kWdC F L h (kLotV F L h t k) j then 0 else 3)) = 0 := by exact (ks_r hk0_1).trans ((ks_r hk0_3).trans (if_pos ⟨by unfold kHas; rw [ho_7]; rfl, by omega⟩))
          exact W.iret (v := nI (F 1 o_7)) hx hb hr (fun U9 ht hW9 => ⟨⟨_, (uw_12), rfl, ⟨hk9, (show nI (F 1 o_7) = nI (kPr F L (kLotV F L h t k) j) from by unfold kPr; rw [ho_7]), hC, hW, hD⟩, by show va_P D vwCl _ U9.heap; rw [ht]; exact hP⟩, hS.F ht⟩) hS.2.2 dX8_withdraw_56
        · have dd_c_11 := of_decide_eq_true c_11
          have hkx : ks (kIx (nI j) 8) (ks (kLotK F L h t k) (if kWdC F L h (kLotV F L h t k) j then 0 else 3)) = 3 := by exact (ks_r hk0_1).trans ((ks_r hk0_3).trans (if_neg (by rintro ⟨q1, q2⟩; first | omega | (unfold kHas at q1; rw [ho_7] at q1; cases q1))))
          exact vx_throw0 (A := A) (own := RX8) (cls := "java/lang/IllegalStateException") (names := ["java/lang/RuntimeException", "java/lang/Exception"]) (ik := 44) (ic := 46) hx hb hst hown (by decide +kernel) (by decide +kernel) (hts (.classLink RX8 44 "java/lang/IllegalStateException") (List.mem_of_getElem? (i := 1) rfl)) (hts (.initialized "java/lang/IllegalStateException") (List.mem_of_getElem? (i := 2) rfl)) (vx_hat (L := vx_at0 RX8 46 "java/lang/IllegalStateException" ["java/lang/RuntimeException", "java/lang/Exception"]) (fun w9 h9 => hts w9 (List.mem_cons_of_mem _ (List.mem_append_left _ (List.mem_append_right _ h9)))) gB3 (gB_of (by decide +kernel) hG.2.2.2.2.2.2.1)) (by decide +kernel) hG.1 hG.2.1 hS (hl.1.trans hml.symm) dX8_withdraw_37 dX8_withdraw_40 dX8_withdraw_41 dX8_withdraw_44 (fun z9 h9 => (htab z9 h9).elim) (by decide) (Nat.le_of_ble_eq_true rfl) (Nat.le_of_ble_eq_true rfl) (Nat.le_of_ble_eq_true rfl) hlocks (fun t9 _ g2 g3 => ⟨(), trivial, ⟨by rw [hkx]; rfl, by rw [hkx]; decide, (x_keep hS hP g2 g3).1⟩, (x_keep hS hP g2 g3).2⟩) hS.2.2 (Nat.le_of_ble_eq_true rfl) (Nat.le_of_ble_eq_true rfl)
