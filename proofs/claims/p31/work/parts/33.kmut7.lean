/-! the class: award -/
def kNoSt (F : Nat → Nat → Nat) (L : Nat → List Nat) (h a : Nat) : Bool := (kStand F L h a).isNone
def kHasP (F : Nat → Nat → Nat) (L : Nat → List Nat) (a : Nat) : Bool := (kPlace F L a (nI 0)).isSome
abbrev kAwC (F : Nat → Nat → Nat) (L : Nat → List Nat) (h a : Nat) : Prop := F 1 (F 0 a) ≤ F 5 h ∧ kNoSt F L h a = true ∧ kHasP F L a = true ∧ (L (F 2 h)).length < 60
set_option maxHeartbeats 4000000 in
set_option maxRecDepth 100000 in
theorem cm_award (l : Launch) (hst : l.stackTraces = false) (D : va_G) (cI cO cb : ClassId) (eA mi : Nat) (st : Nat → Nat) {A : Nat → Prop} (ws : va_W) (hD : va_D A ws) {own kd : Nat → Nat} {F : Nat → Nat → Nat} {L : Nat → List Nat} (hC : CW cI cO eA st own kd F L ws) (hW : WF kd F L) (hs : sInj st)  (h : Nat) (hk_h : kd h = 9) (t : Int32) (k : Int32) : vx_Met l yX8_award wsX8_award ({ frames := 8, cells := 4, slots := 115, locals := 214 }) (va_Pc [.ref h, .int t, .int k] (cB D cI cO cb eA mi st A ws)) (va_Qi (fun (ri : Int32) (u : va_W × (Nat → Nat) × Nat) => ks (kLotK F L h t k) (if kAwC F L h (kLotV F L h t k) then 0 else 3) = 0 ∧ pBest cI cO eA st own kd F L A h (kLotV F L h t k) ri u) (fun u U9 => va_P D vwCl u.1 U9.heap) A) (XK D ws A (ks (kLotK F L h t k) (if kAwC F L h (kLotV F L h t k) then 0 else 3))) 4 115 A := by
  refine vx_ofW (cc := cX8_award) (maxL := 4) (ret := (some .int)) (by decide) rfl ?_
  intro p e s m args below meth c s₁ B hml htab hv
  obtain ⟨rfl, hP, hK, hG, hA⟩ := hv
  have hx := B.exec
  have hb := B.bytes
  have hr := B.returns
  have hts := atoms_spec (ws := wsX8_award) B.pre
  have hown : s.vm.findClass RX8 = some m.cls := findClass_of_methodNamed B.named
  have hlocks := B.notSynchronized
  have hin_X5 : ∀ w ∈ wsX50, w ∈ wsX8_award := fun w h => List.mem_cons_of_mem _ (List.mem_append_left _ (List.mem_append_left _ (List.mem_append_left _ (List.mem_append_left _ (List.mem_append_left _ (List.mem_append_left _ (List.mem_append_left _ (List.mem_append_right _ h))))))))
  have hin_X8 : ∀ w ∈ wsX80, w ∈ wsX8_award := fun w h => List.mem_cons_of_mem _ (List.mem_append_left _ (List.mem_append_left _ (List.mem_append_left _ (List.mem_append_left _ (List.mem_append_left _ (List.mem_append_left _ (List.mem_append_right _ h)))))))
  have l_88 := (hts (.fieldLink RX8 88 "TenderHall$Lot" "tender" "LTenderHall$Tender;") (List.mem_of_getElem? (i := 3) rfl))
  have l_20 := (hts (.fieldLink RX8 20 "TenderHall" "awards" "Ljava/util/ArrayList;") (List.mem_of_getElem? (i := 4) rfl))
  have hS : va_S A s.heap s.heap [] := va_S.rf
  have hD0 := hD
  have hl := lv_entry ([.ref h, .int t, .int k]) (n := 4) (Nat.le_of_ble_eq_true rfl)
  rw [lg_entry_eq]
  generalize (lg_sl ([.ref h, .int t, .int k]) ++ List.replicate (4 - (lg_sl ([.ref h, .int t, .int k])).length) Slot.unset).toArray = ls at hl ⊢
  have hl : lv_has ls 4 [(0, .ref h), (1, .int t), (2, .int k)] := hl
  refine lv_aload_n hx hb dX8_award_0 rfl (lv_at hl 0 rfl) ?_
  refine lv_iload_n hx hb dX8_award_1 rfl (lv_at hl 1 rfl) ?_
  refine lv_iload_n hx hb dX8_award_2 rfl (lv_at hl 2 rfl) ?_
  have hm_1 : (h, .inr (9, [.ref (F 0 h), .ref (F 1 h), .ref (F 2 h), .ref (F 3 h), .ref (F 4 h), .int (nI (F 5 h))])) ∈ ws := hC.at hk_h (by decide) (by decide)
  refine vx_callr (vx_runV (As := [.int t, .int k]) (rest := []) ⟨hx, hb, hml, hown, hts⟩ (cx_lotAt l hst D cI cO cb eA mi st ws hD hC hW hs h hk_h t k) (cwV 2 hts gX8_award_X8_lotAt rfl rfl rfl kd_X8_lotAt ⟨Nat.le_of_ble_eq_true rfl, Nat.le_of_ble_eq_true rfl⟩) ⟨cB_blind, c_recv hK hP rfl hm_1, cB_pre hK hG hA hS hP _⟩ rfl rfl hl.1 rfl (lv_room (Nat.le_of_ble_eq_true rfl)) dX8_award_3 ⟨Nat.le_of_ble_eq_true rfl, Nat.le_of_ble_eq_true rfl⟩) hS (fun _ _ h => h) (fun _ h => h) (fun _ _ h => h) (fun E9 ce9 q9 u U8 H1 locs1 ht hvm hu hB hz1 hk1 hS1 hc1 hc2 hc3 => ?_) (fun u ra U8 H1 locs1 ht hvm hu hB hz1 hk1 hS1 => ?_)
  · obtain ⟨hB1, hB2, hB3⟩ := hB
    rw [ht] at hB3
    have hkx : ks (kLotK F L h t k) (if kAwC F L h (kLotV F L h t k) then 0 else 3) = (kLotK F L h t k) := by exact ks_l hB2
    exact vx_out (fun z9 h9 => (htab z9 h9).elim) hlocks hc1 hc2 hc3 (fun t9 g1 g2 => ⟨(), trivial, ⟨by rw [hkx]; exact hB1, by rw [hkx]; exact hB2, by rw [g1]; exact hB3⟩, hS1.F g1⟩) hS1.2.2 (Nat.le_of_ble_eq_true rfl) (Nat.le_of_ble_eq_true rfl)
  · have hk0_2 : (kLotK F L h t k) = 0 := hu
    obtain ⟨hra, hB2⟩ := hB
    subst hra
    replace hB2 : va_P D vwCl ws U8.heap := hB2
    rw [ht] at hB2
    clear hS
    have hS := hS1
    replace hP := hB2
    generalize H1 = H at hP hS ⊢
    have hk_3 : kd (kLotV F L h t k) = 7 := kLot_kd hW hk_h hk0_2
    refine lv_astore_n (lv' := [(3, .ref (kLotV F L h t k)), (0, .ref h), (1, .int t), (2, .int k)]) hx hb dX8_award_6 rfl hl (by decide) rfl (fun ls hl => ?_)
    refine lv_aload_n hx hb dX8_award_7 rfl (lv_at hl 1 rfl) ?_
    refine lv_aload_n hx hb dX8_award_8 rfl (lv_at hl 0 rfl) ?_
    have hm_4 : (kLotV F L h t k, .inr (7, [.ref (F 0 (kLotV F L h t k)), .int (nI (F 1 (kLotV F L h t k))), .int (nI (F 2 (kLotV F L h t k))), .ref (F 3 (kLotV F L h t k)), .ref (F 4 (kLotV F L h t k))])) ∈ ws := hC.at hk_3 (by decide) (by decide)
    refine c_get (C := RX5) (T := TX5) (N := 5) hx hb hts hin_X5 hown hK hP hm_4 rfl 0 (by decide) l_88 (fun _ h9 => h9) rfl dX8_award_9 ?_
    have hk_5 : kd (F 0 (kLotV F L h t k)) = 8 := hW.ref (f := 0) hk_3 rfl (by decide)
    refine vp_callSi (W.runV (As := [.ref (F 0 (kLotV F L h t k))]) (rest := []) ⟨hx, hb, hml, hown, hts⟩ (ck_isOpened l D cI cO cb eA mi st ws hD hC hW hs h hk_h (F 0 (kLotV F L h t k)) hk_5) (cwV 1 hts gX8_award_X8_isOpened rfl rfl rfl kd_X8_isOpened ⟨Nat.le_of_ble_eq_true rfl, Nat.le_of_ble_eq_true rfl⟩) ⟨cB_blind, c_recv hK hP rfl hm_1, cB_pre hK hG hA hS hP _⟩ rfl rfl hl.1 rfl (lv_room (Nat.le_of_ble_eq_true rfl)) dX8_award_12 ⟨Nat.le_of_ble_eq_true rfl, Nat.le_of_ble_eq_true rfl⟩) (fun r_6 hr_6 => ?_)
    subst hr_6
    refine b_if_eq (tgt := 46) hx hb dX8_award_15 (by decide)  (fun c_7 => ?_) (fun c_7 => ?_)
    · have dd_c_7 := of_decide_eq_false c_7
      have hkx : ks (kLotK F L h t k) (if kAwC F L h (kLotV F L h t k) then 0 else 3) = 3 := by exact (ks_r hk0_2).trans (if_neg (by rintro ⟨q1, q2, q3, q4⟩; first | omega | (unfold kNoSt at q2; rw [rfl] at q2; exact absurd q2 Bool.false_ne_true) | (unfold kHasP at q3; rw [rfl] at q3; exact absurd q3 Bool.false_ne_true)))
      exact vx_throw0 (A := A) (own := RX8) (cls := "java/lang/IllegalStateException") (names := ["java/lang/RuntimeException", "java/lang/Exception"]) (ik := 44) (ic := 46) hx hb hst hown (by decide +kernel) (by decide +kernel) (hts (.classLink RX8 44 "java/lang/IllegalStateException") (List.mem_of_getElem? (i := 1) rfl)) (hts (.initialized "java/lang/IllegalStateException") (List.mem_of_getElem? (i := 2) rfl)) (vx_hat (L := vx_at0 RX8 46 "java/lang/IllegalStateException" ["java/lang/RuntimeException", "java/lang/Exception"]) (fun w9 h9 => hts w9 (List.mem_cons_of_mem _ (List.mem_append_left _ (List.mem_append_right _ h9)))) gB3 (gB_of (by decide +kernel) hG.2.2.2.2.2.2.1)) (by decide +kernel) hG.1 hG.2.1 hS (hl.1.trans hml.symm) dX8_award_46 dX8_award_49 dX8_award_50 dX8_award_53 (fun z9 h9 => (htab z9 h9).elim) (by decide) (Nat.le_of_ble_eq_true rfl) (Nat.le_of_ble_eq_true rfl) (Nat.le_of_ble_eq_true rfl) hlocks (fun t9 _ g2 g3 => ⟨(), trivial, ⟨by rw [hkx]; rfl, by rw [hkx]; decide, (x_keep hS hP g2 g3).1⟩, (x_keep hS hP g2 g3).2⟩) hS.2.2 (Nat.le_of_ble_eq_true rfl) (Nat.le_of_ble_eq_true rfl)
    · have dd_c_7 := of_decide_eq_true c_7
      refine lv_aload_n hx hb dX8_award_18 rfl (lv_at hl 1 rfl) ?_
      refine lv_aload_n hx hb dX8_award_19 rfl (lv_at hl 0 rfl) ?_
      refine va_csq (W.runV (As := [.ref (kLotV F L h t k)]) (rest := []) ⟨hx, hb, hml, hown, hts⟩ (ck_standingAward l D cI cO cb eA mi st ws hD hC hW hs h hk_h (kLotV F L h t k) hk_3) (cwV 1 hts gX8_award_X8_standingAward rfl rfl rfl kd_X8_standingAward ⟨Nat.le_of_ble_eq_true rfl, Nat.le_of_ble_eq_true rfl⟩) ⟨cB_blind, c_recv hK hP rfl hm_1, cB_pre hK hG hA hS hP _⟩ rfl rfl hl.1 rfl (lv_room (Nat.le_of_ble_eq_true rfl)) dX8_award_20 ⟨Nat.le_of_ble_eq_true rfl, Nat.le_of_ble_eq_true rfl⟩) (fun r_8 hr_8 => ?_)
      subst hr_8
      rcases ho_9 : kStand F L h (kLotV F L h t k) with _ | o_9
      · show W _ _ _ _ _ _ _ _ _ _ _ _ _ _ _ (F0 _ _ _ (.null :: _))
        refine lv_ifnonnullN hx hb dX8_award_23 ?_
        refine lv_aload_n hx hb dX8_award_26 rfl (lv_at hl 0 rfl) ?_
        refine lv_iconst (v := nI 0) hx hb dX8_award_27 (by decide) ?_
        refine va_csq (W.runV (As := [.int (nI 0)]) (rest := []) ⟨hx, hb, hml, hown, hts⟩ (ck_bidAtPlace l D cI cO cb eA mi st ws hD hC hW hs (kLotV F L h t k) hk_3 (nI 0)) (cwV 1 hts gX8_award_X5_bidAtPlace rfl rfl rfl kd_X5_bidAtPlace ⟨Nat.le_of_ble_eq_true rfl, Nat.le_of_ble_eq_true rfl⟩) ⟨cB_blind, c_recv hK hP rfl hm_4, cB_pre hK hG hA hS hP _⟩ rfl rfl hl.1 rfl (lv_room (Nat.le_of_ble_eq_true rfl)) dX8_award_28 ⟨Nat.le_of_ble_eq_true rfl, Nat.le_of_ble_eq_true rfl⟩) (fun r_10 hr_10 => ?_)
        subst hr_10
        rcases ho_11 : kPlace F L (kLotV F L h t k) (nI 0) with _ | o_11
        · show W _ _ _ _ _ _ _ _ _ _ _ _ _ _ _ (F0 _ _ _ (.null :: _))
          refine lv_ifnullN (tgt := 46) hx hb dX8_award_31 (by decide) ?_
          have hkx : ks (kLotK F L h t k) (if kAwC F L h (kLotV F L h t k) then 0 else 3) = 3 := by exact (ks_r hk0_2).trans (if_neg (by rintro ⟨q1, q2, q3, q4⟩; first | omega | (unfold kNoSt at q2; rw [ho_9] at q2; exact absurd q2 Bool.false_ne_true) | (unfold kHasP at q3; rw [ho_11] at q3; exact absurd q3 Bool.false_ne_true)))
          exact vx_throw0 (A := A) (own := RX8) (cls := "java/lang/IllegalStateException") (names := ["java/lang/RuntimeException", "java/lang/Exception"]) (ik := 44) (ic := 46) hx hb hst hown (by decide +kernel) (by decide +kernel) (hts (.classLink RX8 44 "java/lang/IllegalStateException") (List.mem_of_getElem? (i := 1) rfl)) (hts (.initialized "java/lang/IllegalStateException") (List.mem_of_getElem? (i := 2) rfl)) (vx_hat (L := vx_at0 RX8 46 "java/lang/IllegalStateException" ["java/lang/RuntimeException", "java/lang/Exception"]) (fun w9 h9 => hts w9 (List.mem_cons_of_mem _ (List.mem_append_left _ (List.mem_append_right _ h9)))) gB3 (gB_of (by decide +kernel) hG.2.2.2.2.2.2.1)) (by decide +kernel) hG.1 hG.2.1 hS (hl.1.trans hml.symm) dX8_award_46 dX8_award_49 dX8_award_50 dX8_award_53 (fun z9 h9 => (htab z9 h9).elim) (by decide) (Nat.le_of_ble_eq_true rfl) (Nat.le_of_ble_eq_true rfl) (Nat.le_of_ble_eq_true rfl) hlocks (fun t9 _ g2 g3 => ⟨(), trivial, ⟨by rw [hkx]; rfl, by rw [hkx]; decide, (x_keep hS hP g2 g3).1⟩, (x_keep hS hP g2 g3).2⟩) hS.2.2 (Nat.le_of_ble_eq_true rfl) (Nat.le_of_ble_eq_true rfl)
        · show W _ _ _ _ _ _ _ _ _ _ _ _ _ _ _ (F0 _ _ _ (.ref o_11 :: _))
          have hk_12 : kd o_11 = 3 := kPlace_kd hW hk_3 ho_11
          refine lv_ifnull hx hb dX8_award_31 ?_
          refine lv_aload_n hx hb dX8_award_34 rfl (lv_at hl 1 rfl) ?_
          refine c_get (C := RX8) (T := TX8) (N := 6) hx hb hts hin_X8 hown hK hP hm_1 rfl 2 (by decide) l_20 (fun _ h9 => h9) rfl dX8_award_35 ?_
          have hk_13 : kd (F 2 h) = 22 := hW.ref (f := 2) hk_h rfl (by decide)
          have hl_14 : (L (F 2 h)).length ≤ 60 := hW.len hk_13 (by decide)
          obtain ⟨fs_hm_15, hm_15⟩ := hC.obj hk_13 (by decide)
          refine vp_callSi (W.runV (As := []) (rest := []) ⟨hx, hb, hml, hown, hts⟩ ((cl_size l D cI cO cb eA mi st ws hD (F 2 h) (L (F 2 h)) (hC.lst hk_13 (by decide)))) (cwV 0 hts gX8_award_Jx4a65c_size_8abf5 rfl rfl rfl kd_Jx4a65c_size_8abf5 ⟨Nat.le_of_ble_eq_true rfl, Nat.le_of_ble_eq_true rfl⟩) ⟨cB_blind, c_recv hK hP rfl hm_15, cB_pre hK hG hA hS hP _⟩ rfl rfl hl.1 rfl (lv_room (Nat.le_of_ble_eq_true rfl)) dX8_award_38 ⟨Nat.le_of_ble_eq_true rfl, Nat.le_of_ble_eq_true rfl⟩) (fun r_16 hr_16 => ?_)
          subst hr_16
          refine lv_bipush (v := nI 60) hx hb dX8_award_41 (by decide) ?_
          refine n_icmp_lt (tgt := 54) hx hb dX8_award_43 (by decide) (by omega) (by decide) (fun c_17 => ?_) (fun c_17 => ?_)
          · refine lv_aload_n hx hb dX8_award_54 rfl (lv_at hl 1 rfl) ?_
            refine lv_aload_n hx hb dX8_award_55 rfl (lv_at hl 0 rfl) ?_
            refine va_calli (va_runV (As := [.ref (kLotV F L h t k)]) (rest := []) ⟨hx, hb, hml, hown, hts⟩ (cv_awardToBest l D cI cO cb eA mi st ws hD hC hW hs h hk_h (kLotV F L h t k) hk_3 (by omega)) (cwV 1 hts gX8_award_X8_awardToBest rfl rfl rfl kd_X8_awardToBest ⟨Nat.le_of_ble_eq_true rfl, Nat.le_of_ble_eq_true rfl⟩) ⟨cB_blind, c_recv hK hP rfl hm_1, cB_pre hK hG hA hS hP _⟩ rfl rfl hl.1 rfl (lv_room (Nat.le_of_ble_eq_true rfl)) dX8_award_56 ⟨Nat.le_of_ble_eq_true rfl, Nat.le_of_ble_eq_true rfl⟩) hS (fun _ _ h => h) (fun _ h => h) (fun ri u U8 H1 locs1 ht hvm hu hB hz1 hk1 hS1 => ?_)
            rw [ht] at hB
            clear hS
            have hS := hS1
            replace hP := hB
            generalize H1 = H at hP hS ⊢
            refine W.widen (k := 4) (n := 115) (by omega) (by omega) ?_
            refine vx_ret ?_
            have hk9 : ks (kLotK F L h t k) (if kAwC F L h (kLotV F L h t k) then 0 else 3) = 0 := by exact (ks_r hk0_2).trans (if_pos ⟨by assumption, by unfold kNoSt; rw [ho_9]; rfl, by unfold kHasP; rw [ho_11]; rfl, by omega⟩)
            exact W.iret (v := ri) hx hb hr (fun U9 ht hW9 => ⟨⟨_, u, rfl, ⟨hk9, hu⟩, by show va_P D vwCl _ U9.heap; rw [ht]; exact hP⟩, hS.F ht⟩) hS.2.2 dX8_award_59
          · have hkx : ks (kLotK F L h t k) (if kAwC F L h (kLotV F L h t k) then 0 else 3) = 3 := by exact (ks_r hk0_2).trans (if_neg (by rintro ⟨q1, q2, q3, q4⟩; first | omega | (unfold kNoSt at q2; rw [ho_9] at q2; exact absurd q2 Bool.false_ne_true) | (unfold kHasP at q3; rw [ho_11] at q3; exact absurd q3 Bool.false_ne_true)))
            exact vx_throw0 (A := A) (own := RX8) (cls := "java/lang/IllegalStateException") (names := ["java/lang/RuntimeException", "java/lang/Exception"]) (ik := 44) (ic := 46) hx hb hst hown (by decide +kernel) (by decide +kernel) (hts (.classLink RX8 44 "java/lang/IllegalStateException") (List.mem_of_getElem? (i := 1) rfl)) (hts (.initialized "java/lang/IllegalStateException") (List.mem_of_getElem? (i := 2) rfl)) (vx_hat (L := vx_at0 RX8 46 "java/lang/IllegalStateException" ["java/lang/RuntimeException", "java/lang/Exception"]) (fun w9 h9 => hts w9 (List.mem_cons_of_mem _ (List.mem_append_left _ (List.mem_append_right _ h9)))) gB3 (gB_of (by decide +kernel) hG.2.2.2.2.2.2.1)) (by decide +kernel) hG.1 hG.2.1 hS (hl.1.trans hml.symm) dX8_award_46 dX8_award_49 dX8_award_50 dX8_award_53 (fun z9 h9 => (htab z9 h9).elim) (by decide) (Nat.le_of_ble_eq_true rfl) (Nat.le_of_ble_eq_true rfl) (Nat.le_of_ble_eq_true rfl) hlocks (fun t9 _ g2 g3 => ⟨(), trivial, ⟨by rw [hkx]; rfl, by rw [hkx]; decide, (x_keep hS hP g2 g3).1⟩, (x_keep hS hP g2 g3).2⟩) hS.2.2 (Nat.le_of_ble_eq_true rfl) (Nat.le_of_ble_eq_true rfl)
      · show W _ _ _ _ _ _ _ _ _ _ _ _ _ _ _ (F0 _ _ _ (.ref o_9 :: _))
        have hk_18 : kd o_9 = 2 := kStand_kd hW hk_h ho_9
        refine lv_ifnonnull (tgt := 46) hx hb dX8_award_23 (by decide) ?_
        have hkx : ks (kLotK F L h t k) (if kAwC F L h (kLotV F L h t k) then 0 else 3) = 3 := by exact (ks_r hk0_2).trans (if_neg (by rintro ⟨q1, q2, q3, q4⟩; first | omega | (unfold kNoSt at q2; rw [ho_9] at q2; exact absurd q2 Bool.false_ne_true) | (unfold kHasP at q3; rw [ho_9] at q3; exact absurd q3 Bool.false_ne_true)))
        exact vx_throw0 (A := A) (own := RX8) (cls := "java/lang/IllegalStateException") (names := ["java/lang/RuntimeException", "java/lang/Exception"]) (ik := 44) (ic := 46) hx hb hst hown (by decide +kernel) (by decide +kernel) (hts (.classLink RX8 44 "java/lang/IllegalStateException") (List.mem_of_getElem? (i := 1) rfl)) (hts (.initialized "java/lang/IllegalStateException") (List.mem_of_getElem? (i := 2) rfl)) (vx_hat (L := vx_at0 RX8 46 "java/lang/IllegalStateException" ["java/lang/RuntimeException", "java/lang/Exception"]) (fun w9 h9 => hts w9 (List.mem_cons_of_mem _ (List.mem_append_left _ (List.mem_append_right _ h9)))) gB3 (gB_of (by decide +kernel) hG.2.2.2.2.2.2.1)) (by decide +kernel) hG.1 hG.2.1 hS (hl.1.trans hml.symm) dX8_award_46 dX8_award_49 dX8_award_50 dX8_award_53 (fun z9 h9 => (htab z9 h9).elim) (by decide) (Nat.le_of_ble_eq_true rfl) (Nat.le_of_ble_eq_true rfl) (Nat.le_of_ble_eq_true rfl) hlocks (fun t9 _ g2 g3 => ⟨(), trivial, ⟨by rw [hkx]; rfl, by rw [hkx]; decide, (x_keep hS hP g2 g3).1⟩, (x_keep hS hP g2 g3).2⟩) hS.2.2 (Nat.le_of_ble_eq_true rfl) (Nat.le_of_ble_eq_true rfl)
