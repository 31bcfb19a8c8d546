/-! the class: ranked, held -/
def kRk (F : Nat → Nat → Nat) (L : Nat → List Nat) (a : Nat) (z : Int32) : Int32 := match kPlace F L a z with
  | none => -1
  | some o => nI (F 0 o)
theorem ge0_of {z : Int32} (h : z ≥ 0) : (if 0 ≤ z then 0 else 2) = 0 := if_pos h
set_option maxHeartbeats 4000000 in
set_option maxRecDepth 100000 in
theorem ck_bidderOfN (l : Launch) (D : va_G) (cI cO cb : ClassId) (eA mi : Nat) (st : Nat → Nat) {A : Nat → Prop} (ws : va_W) (hD : va_D A ws) {own kd : Nat → Nat} {F : Nat → Nat → Nat} {L : Nat → List Nat} (hC : CW cI cO eA st own kd F L ws) (hW : WF kd F L) (hs : sInj st)  : Met l yX8_bidderOf wsX8_bidderOf ({ frames := 0, cells := 0, slots := 0, locals := 0 }) (va_Pc [.null] (cB D cI cO cb eA mi st A ws)) (vp_Si (fun ri => ri = (-1))) 0 0 (fun _ => False) := by
  refine Met.ofW (cc := cX8_bidderOf) (maxL := 1) (ret := (some .int)) (by decide) rfl ?_
  intro p e s m args below meth c s₁ B hml hv
  obtain ⟨rfl, hP, hK, hG, hA⟩ := hv
  have hx := B.exec
  have hb := B.bytes
  have hr := B.returns
  have hts := atoms_spec (ws := wsX8_bidderOf) B.pre
  have hown : s.vm.findClass RX8 = some m.cls := findClass_of_methodNamed B.named
  have hlocks := B.notSynchronized
  have hS : va_S A s.heap s.heap [] := va_S.rf
  have hD0 := hD
  have hl := lv_entry ([.null]) (n := 1) (Nat.le_of_ble_eq_true rfl)
  rw [lg_entry_eq]
  generalize (lg_sl ([.null]) ++ List.replicate (1 - (lg_sl ([.null])).length) Slot.unset).toArray = ls at hl ⊢
  have hl : lv_has ls 1 [(0, .null)] := hl
  refine lv_aload_nN hx hb dX8_bidderOf_0 rfl (lv_at hl 0 rfl) ?_
  refine lv_ifnonnullN hx hb dX8_bidderOf_1 ?_
  refine lv_iconst (v := (-1)) hx hb dX8_bidderOf_4 (by decide) ?_
  refine lv_goto (tgt := 12) hx hb dX8_bidderOf_5 (by decide) ?_
  exact W.iret (v := (-1)) hx hb hr (fun U9 ht hW9 => ⟨_, rfl, rfl, ht⟩) (fun _ h => by cases h) dX8_bidderOf_12
set_option maxHeartbeats 4000000 in
set_option maxRecDepth 100000 in
theorem ck_bidderOf (l : Launch) (D : va_G) (cI cO cb : ClassId) (eA mi : Nat) (st : Nat → Nat) {A : Nat → Prop} (ws : va_W) (hD : va_D A ws) {own kd : Nat → Nat} {F : Nat → Nat → Nat} {L : Nat → List Nat} (hC : CW cI cO eA st own kd F L ws) (hW : WF kd F L) (hs : sInj st)  (r : Nat) (hk_r : kd r = 3) : Met l yX8_bidderOf wsX8_bidderOf ({ frames := 0, cells := 0, slots := 0, locals := 0 }) (va_Pc [.ref r] (cB D cI cO cb eA mi st A ws)) (vp_Si (fun ri => ri = nI (F 0 r))) 0 0 (fun _ => False) := by
  refine Met.ofW (cc := cX8_bidderOf) (maxL := 1) (ret := (some .int)) (by decide) rfl ?_
  intro p e s m args below meth c s₁ B hml hv
  obtain ⟨rfl, hP, hK, hG, hA⟩ := hv
  have hx := B.exec
  have hb := B.bytes
  have hr := B.returns
  have hts := atoms_spec (ws := wsX8_bidderOf) B.pre
  have hown : s.vm.findClass RX8 = some m.cls := findClass_of_methodNamed B.named
  have hlocks := B.notSynchronized
  have hin_X1 : ∀ w ∈ wsX10, w ∈ wsX8_bidderOf := fun w h => List.mem_cons_of_mem _ (List.mem_append_right _ h)
  have l_156 := (hts (.fieldLink RX8 156 "TenderHall$Bid" "bidder" "I") (List.mem_of_getElem? (i := 1) rfl))
  have hS : va_S A s.heap s.heap [] := va_S.rf
  have hD0 := hD
  have hl := lv_entry ([.ref r]) (n := 1) (Nat.le_of_ble_eq_true rfl)
  rw [lg_entry_eq]
  generalize (lg_sl ([.ref r]) ++ List.replicate (1 - (lg_sl ([.ref r])).length) Slot.unset).toArray = ls at hl ⊢
  have hl : lv_has ls 1 [(0, .ref r)] := hl
  refine lv_aload_n hx hb dX8_bidderOf_0 rfl (lv_at hl 0 rfl) ?_
  refine lv_ifnonnull (tgt := 8) hx hb dX8_bidderOf_1 (by decide) ?_
  refine lv_aload_n hx hb dX8_bidderOf_8 rfl (lv_at hl 0 rfl) ?_
  have hm_1 : (r, .inr (3, [.int (nI (F 0 r)), .int (nI (F 1 r)), .int (nI (F 2 r)), .int (nI (F 3 r)), .ref (st (F 4 r)), .ref (st (F 5 r))])) ∈ ws := hC.at hk_r (by decide) (by decide)
  refine c_get (C := RX1) (T := TX1) (N := 6) hx hb hts hin_X1 hown hK hP hm_1 rfl 0 (by decide) l_156 (fun _ h9 => h9) rfl dX8_bidderOf_9 ?_
  have hn_2 : F 0 r < 8 := hW.num hk_r rfl (by decide)
  exact W.iret (v := nI (F 0 r)) hx hb hr (fun U9 ht hW9 => ⟨_, rfl, rfl, ht⟩) (fun _ h => by cases h) dX8_bidderOf_12
set_option maxHeartbeats 4000000 in
set_option maxRecDepth 100000 in
theorem cx_ranked (l : Launch) (hst : l.stackTraces = false) (D : va_G) (cI cO cb : ClassId) (eA mi : Nat) (st : Nat → Nat) {A : Nat → Prop} (ws : va_W) (hD : va_D A ws) {own kd : Nat → Nat} {F : Nat → Nat → Nat} {L : Nat → List Nat} (hC : CW cI cO eA st own kd F L ws) (hW : WF kd F L) (hs : sInj st)  (h : Nat) (hk_h : kd h = 9) (t : Int32) (k : Int32) (z : Int32) : vx_Met l yX8_ranked wsX8_ranked ({ frames := 8, cells := 3, slots := 18, locals := 138 }) (va_Pc [.ref h, .int t, .int k, .int z] (cB D cI cO cb eA mi st A ws)) (va_Qi (fun (ri : Int32) (_ : Unit) => ks (kLotK F L h t k) (if 0 ≤ z then 0 else 2) = 0 ∧ ri = kRk F L (kLotV F L h t k) z) (fun _ U9 => va_P D vwCl ws U9.heap) A) (XK D ws A (ks (kLotK F L h t k) (if 0 ≤ z then 0 else 2))) 3 18 A := by
  refine vx_ofW (cc := cX8_ranked) (maxL := 5) (ret := (some .int)) (by decide) rfl ?_
  intro p e s m args below meth c s₁ B hml htab hv
  obtain ⟨rfl, hP, hK, hG, hA⟩ := hv
  have hx := B.exec
  have hb := B.bytes
  have hr := B.returns
  have hts := atoms_spec (ws := wsX8_ranked) B.pre
  have hown : s.vm.findClass RX8 = some m.cls := findClass_of_methodNamed B.named
  have hlocks := B.notSynchronized
  have hS : va_S A s.heap s.heap [] := va_S.rf
  have hD0 := hD
  have hl := lv_entry ([.ref h, .int t, .int k, .int z]) (n := 5) (Nat.le_of_ble_eq_true rfl)
  rw [lg_entry_eq]
  generalize (lg_sl ([.ref h, .int t, .int k, .int z]) ++ List.replicate (5 - (lg_sl ([.ref h, .int t, .int k, .int z])).length) Slot.unset).toArray = ls at hl ⊢
  have hl : lv_has ls 5 [(0, .ref h), (1, .int t), (2, .int k), (3, .int z)] := hl
  refine lv_aload_n hx hb dX8_ranked_0 rfl (lv_at hl 0 rfl) ?_
  refine lv_iload_n hx hb dX8_ranked_1 rfl (lv_at hl 1 rfl) ?_
  refine lv_iload_n hx hb dX8_ranked_2 rfl (lv_at hl 2 rfl) ?_
  have hm_1 : (h, .inr (9, [.ref (F 0 h), .ref (F 1 h), .ref (F 2 h), .ref (F 3 h), .ref (F 4 h), .int (nI (F 5 h))])) ∈ ws := hC.at hk_h (by decide) (by decide)
  refine vx_callr (vx_runV (As := [.int t, .int k]) (rest := []) ⟨hx, hb, hml, hown, hts⟩ (cx_lotAt l hst D cI cO cb eA mi st ws hD hC hW hs h hk_h t k) (cwV 2 hts gX8_ranked_X8_lotAt rfl rfl rfl kd_X8_lotAt ⟨Nat.le_of_ble_eq_true rfl, Nat.le_of_ble_eq_true rfl⟩) ⟨cB_blind, c_recv hK hP rfl hm_1, cB_pre hK hG hA hS hP _⟩ rfl rfl hl.1 rfl (lv_room (Nat.le_of_ble_eq_true rfl)) dX8_ranked_3 ⟨Nat.le_of_ble_eq_true rfl, Nat.le_of_ble_eq_true rfl⟩) hS (fun _ _ h => h) (fun _ h => h) (fun _ _ h => h) (fun E9 ce9 q9 u U8 H1 locs1 ht hvm hu hB hz1 hk1 hS1 hc1 hc2 hc3 => ?_) (fun u ra U8 H1 locs1 ht hvm hu hB hz1 hk1 hS1 => ?_)
  · obtain ⟨hB1, hB2, hB3⟩ := hB
    rw [ht] at hB3
    have hkx : ks (kLotK F L h t k) (if 0 ≤ z then 0 else 2) = (kLotK F L h t k) := by exact ks_l hB2
    exact vx_out (fun z9 h9 => (htab z9 h9).elim) hlocks hc1 hc2 hc3 (fun t9 g1 g2 => ⟨(), trivial, ⟨by rw [hkx]; exact hB1, by rw [hkx]; exact hB2, by rw [g1]; exact hB3⟩, hS1.F g1⟩) hS1.2.2 (Nat.le_of_ble_eq_true rfl) (Nat.le_of_ble_eq_true rfl)
  · have hk0_2 : (kLotK F L h t k) = 0 := hu
    obtain ⟨hra, hB2⟩ := hB
    subst hra
    replace hB2 : va_P D vwCl ws U8.heap := hB2
    rw [ht] at hB2
    clear hS
    have hS := hS1
    replace hP := hB2
    generalize H1 = H at hP hS ⊢
    have hk_3 : kd (kLotV F L h t k) = 7 := kLot_kd hW hk_h hk0_2
    refine lv_astore (lv' := [(4, .ref (kLotV F L h t k)), (0, .ref h), (1, .int t), (2, .int k), (3, .int z)]) hx hb dX8_ranked_6 hl (by decide) rfl (fun ls hl => ?_)
    refine lv_iload_n hx hb dX8_ranked_8 rfl (lv_at hl 4 rfl) ?_
    refine lv_if_ge (tgt := 20) hx hb dX8_ranked_9 (by decide)  (fun c_4 => ?_) (fun c_4 => ?_)
    · refine lv_aload hx hb dX8_ranked_20 (lv_at hl 0 rfl) ?_
      refine lv_iload_n hx hb dX8_ranked_22 rfl (lv_at hl 4 rfl) ?_
      have hm_5 : (kLotV F L h t k, .inr (7, [.ref (F 0 (kLotV F L h t k)), .int (nI (F 1 (kLotV F L h t k))), .int (nI (F 2 (kLotV F L h t k))), .ref (F 3 (kLotV F L h t k)), .ref (F 4 (kLotV F L h t k))])) ∈ ws := hC.at hk_3 (by decide) (by decide)
      refine va_csq (W.runV (As := [.int z]) (rest := []) ⟨hx, hb, hml, hown, hts⟩ (ck_bidAtPlace l D cI cO cb eA mi st ws hD hC hW hs (kLotV F L h t k) hk_3 z) (cwV 1 hts gX8_ranked_X5_bidAtPlace rfl rfl rfl kd_X5_bidAtPlace ⟨Nat.le_of_ble_eq_true rfl, Nat.le_of_ble_eq_true rfl⟩) ⟨cB_blind, c_recv hK hP rfl hm_5, cB_pre hK hG hA hS hP _⟩ rfl rfl hl.1 rfl (lv_room (Nat.le_of_ble_eq_true rfl)) dX8_ranked_23 ⟨Nat.le_of_ble_eq_true rfl, Nat.le_of_ble_eq_true rfl⟩) (fun r_6 hr_6 => ?_)
      subst hr_6
      rcases ho_7 : kPlace F L (kLotV F L h t k) z with _ | o_7
      · show W _ _ _ _ _ _ _ _ _ _ _ _ _ _ _ (F0 _ _ _ (.null :: _))
        refine vp_callSi (W.runS (As := [.null]) (rest := []) ⟨hx, hb, hml, hown, hts⟩ (ck_bidderOfN l D cI cO cb eA mi st ws hD hC hW hs) (va_cwS 1 hts gX8_ranked_X8_bidderOf rfl rfl rfl kd_X8_bidderOf ⟨Nat.le_of_ble_eq_true rfl, Nat.le_of_ble_eq_true rfl⟩) ⟨cB_blind, cB_pre hK hG hA hS hP _⟩ rfl rfl hl.1 rfl (lv_room (Nat.le_of_ble_eq_true rfl)) dX8_ranked_26 ⟨Nat.le_of_ble_eq_true rfl, Nat.le_of_ble_eq_true rfl⟩) (fun r_8 hr_8 => ?_)
        subst hr_8
        refine W.widen (k := 3) (n := 18) (by omega) (by omega) ?_
        refine vx_ret ?_
        have hk9 : ks (kLotK F L h t k) (if 0 ≤ z then 0 else 2) = 0 := by exact (ks_r hk0_2).trans (if_pos c_4)
        exact W.iret (v := (-1)) hx hb hr (fun U9 ht hW9 => ⟨⟨_, (), rfl, ⟨hk9, (show (-1) = kRk F L (kLotV F L h t k) z from by unfold kRk; rw [ho_7])⟩, by show va_P D vwCl ws U9.heap; rw [ht]; exact hP⟩, hS.F ht⟩) hS.2.2 dX8_ranked_29
      · show W _ _ _ _ _ _ _ _ _ _ _ _ _ _ _ (F0 _ _ _ (.ref o_7 :: _))
        have hk_9 : kd o_7 = 3 := kPlace_kd hW hk_3 ho_7
        refine vp_callSi (W.runS (As := [.ref o_7]) (rest := []) ⟨hx, hb, hml, hown, hts⟩ (ck_bidderOf l D cI cO cb eA mi st ws hD hC hW hs o_7 hk_9) (va_cwS 1 hts gX8_ranked_X8_bidderOf rfl rfl rfl kd_X8_bidderOf ⟨Nat.le_of_ble_eq_true rfl, Nat.le_of_ble_eq_true rfl⟩) ⟨cB_blind, cB_pre hK hG hA hS hP _⟩ rfl rfl hl.1 rfl (lv_room (Nat.le_of_ble_eq_true rfl)) dX8_ranked_26 ⟨Nat.le_of_ble_eq_true rfl, Nat.le_of_ble_eq_true rfl⟩) (fun r_10 hr_10 => ?_)
        subst hr_10
        refine W.widen (k := 3) (n := 18) (by omega) (by omega) ?_
        refine vx_ret ?_
        have hk9 : ks (kLotK F L h t k) (if 0 ≤ z then 0 else 2) = 0 := by exact (ks_r hk0_2).trans (if_pos c_4)
        exact W.iret (v := nI (F 0 o_7)) hx hb hr (fun U9 ht hW9 => ⟨⟨_, (), rfl, ⟨hk9, (show nI (F 0 o_7) = kRk F L (kLotV F L h t k) z from by unfold kRk; rw [ho_7])⟩, by show va_P D vwCl ws U9.heap; rw [ht]; exact hP⟩, hS.F ht⟩) hS.2.2 dX8_ranked_29
    · have hkx : ks (kLotK F L h t k) (if 0 ≤ z then 0 else 2) = 2 := by exact (ks_r hk0_2).trans (if_neg c_4)
      exact vx_throw0 (A := A) (own := RX8) (cls := "java/lang/IllegalArgumentException") (names := ["java/lang/RuntimeException", "java/lang/Exception"]) (ik := 37) (ic := 39) hx hb hst hown (by decide +kernel) (by decide +kernel) (hts (.classLink RX8 37 "java/lang/IllegalArgumentException") (List.mem_of_getElem? (i := 1) rfl)) (hts (.initialized "java/lang/IllegalArgumentException") (List.mem_of_getElem? (i := 2) rfl)) (vx_hat (L := vx_at0 RX8 39 "java/lang/IllegalArgumentException" ["java/lang/RuntimeException", "java/lang/Exception"]) (fun w9 h9 => hts w9 (List.mem_cons_of_mem _ (List.mem_append_left _ (List.mem_append_right _ h9)))) gB2 (gB_of (by decide +kernel) hG.2.2.2.2.2.2.1)) (by decide +kernel) hG.1 hG.2.1 hS (hl.1.trans hml.symm) dX8_ranked_12 dX8_ranked_15 dX8_ranked_16 dX8_ranked_19 (fun z9 h9 => (htab z9 h9).elim) (by decide) (Nat.le_of_ble_eq_true rfl) (Nat.le_of_ble_eq_true rfl) (Nat.le_of_ble_eq_true rfl) hlocks (fun t9 _ g2 g3 => ⟨(), trivial, ⟨by rw [hkx]; rfl, by rw [hkx]; decide, (x_keep hS hP g2 g3).1⟩, (x_keep hS hP g2 g3).2⟩) hS.2.2 (Nat.le_of_ble_eq_true rfl) (Nat.le_of_ble_eq_true rfl)
set_option maxHeartbeats 4000000 in
set_option maxRecDepth 100000 in
theorem cx_held (l : Launch) (hst : l.stackTraces = false) (D : va_G) (cI cO cb : ClassId) (eA mi : Nat) (st : Nat → Nat) {A : Nat → Prop} (ws : va_W) (hD : va_D A ws) {own kd : Nat → Nat} {F : Nat → Nat → Nat} {L : Nat → List Nat} (hC : CW cI cO eA st own kd F L ws) (hW : WF kd F L) (hs : sInj st)  (h : Nat) (hk_h : kd h = 9) (b : Int32) : vx_Met l yX8_held wsX8_held ({ frames := 7, cells := 1, slots := 6, locals := 111 }) (va_Pc [.ref h, .int b] (cB D cI cO cb eA mi st A ws)) (va_Qi (fun (ri : Int32) (_ : Unit) => kIx b 8 = 0 ∧ ri = nI (sm (kHeld F L h b.toNatClampNeg) (L (F 1 h)).length)) (fun _ U9 => va_P D vwCl ws U9.heap) A) (XK D ws A (kIx b 8)) 1 6 A := by
  refine vx_ofW (cc := cX8_held) (maxL := 7) (ret := (some .int)) (by decide) rfl ?_
  intro p e s m args below meth c s₁ B hml htab hv
  obtain ⟨rfl, hP, hK, hG, hA⟩ := hv
  have hx := B.exec
  have hb := B.bytes
  have hr := B.returns
  have hts := atoms_spec (ws := wsX8_held) B.pre
  have hown : s.vm.findClass RX8 = some m.cls := findClass_of_methodNamed B.named
  have hlocks := B.notSynchronized
  have hin_X5 : ∀ w ∈ wsX50, w ∈ wsX8_held := fun w h => List.mem_cons_of_mem _ (List.mem_append_left _ (List.mem_append_left _ (List.mem_append_left _ (List.mem_append_left _ (List.mem_append_right _ h)))))
  have hin_X7 : ∀ w ∈ wsX70, w ∈ wsX8_held := fun w h => List.mem_cons_of_mem _ (List.mem_append_left _ (List.mem_append_left _ (List.mem_append_left _ (List.mem_append_left _ (List.mem_append_left _ (List.mem_append_right _ h))))))
  have hin_X8 : ∀ w ∈ wsX80, w ∈ wsX8_held := fun w h => List.mem_cons_of_mem _ (List.mem_append_left _ (List.mem_append_left _ (List.mem_append_left _ (List.mem_append_left _ (List.mem_append_left _ (List.mem_append_left _ (List.mem_append_right _ h)))))))
  have l_16 := (hts (.fieldLink RX8 16 "TenderHall" "tenders" "Ljava/util/ArrayList;") (List.mem_of_getElem? (i := 1) rfl))
  have l_60 := (hts (.fieldLink RX8 60 "TenderHall$Tender" "lots" "Ljava/util/ArrayList;") (List.mem_of_getElem? (i := 3) rfl))
  have l_245 := (hts (.fieldLink RX8 245 "TenderHall$Lot" "deposit" "I") (List.mem_of_getElem? (i := 5) rfl))
  have hS : va_S A s.heap s.heap [] := va_S.rf
  have hD0 := hD
  have hl := lv_entry ([.ref h, .int b]) (n := 7) (Nat.le_of_ble_eq_true rfl)
  rw [lg_entry_eq]
  generalize (lg_sl ([.ref h, .int b]) ++ List.replicate (7 - (lg_sl ([.ref h, .int b])).length) Slot.unset).toArray = ls at hl ⊢
  have hl : lv_has ls 7 [(0, .ref h), (1, .int b)] := hl
  refine lv_iload_n hx hb dX8_held_0 rfl (lv_at hl 1 rfl) ?_
  refine vx_callv (vx_runS (As := [.int b]) (rest := []) ⟨hx, hb, hml, hown, hts⟩ (cx_checkBidder l hst D cI cO cb eA mi st ws hD hC hW hs b) (va_cwS 1 hts gX8_held_X8_checkBidder rfl rfl rfl kd_X8_checkBidder ⟨Nat.le_of_ble_eq_true rfl, Nat.le_of_ble_eq_true rfl⟩) ⟨cB_blind, cB_pre hK hG hA hS hP _⟩ rfl rfl hl.1 rfl (lv_room (Nat.le_of_ble_eq_true rfl)) dX8_held_1 ⟨Nat.le_of_ble_eq_true rfl, Nat.le_of_ble_eq_true rfl⟩) hS (fun _ _ h => h) (fun _ h => h) (fun _ _ h => h) (fun E9 ce9 q9 u U8 H1 locs1 ht hvm hu hB hz1 hk1 hS1 hc1 hc2 hc3 => ?_) (fun u U8 H1 locs1 ht hvm hu hB hz1 hk1 hS1 => ?_)
  · obtain ⟨hB1, hB2, hB3⟩ := hB
    rw [ht] at hB3
    have hkx : kIx b 8 = (kIx b 8) := by rfl
    exact vx_out (fun z9 h9 => (htab z9 h9).elim) hlocks hc1 hc2 hc3 (fun t9 g1 g2 => ⟨(), trivial, ⟨by rw [hkx]; exact hB1, by rw [hkx]; exact hB2, by rw [g1]; exact hB3⟩, hS1.F g1⟩) hS1.2.2 (Nat.le_of_ble_eq_true rfl) (Nat.le_of_ble_eq_true rfl)
  · have hk0_1 : (kIx b 8) = 0 := hu
    have hB2 := hB
    replace hB2 : va_P D vwCl ws U8.heap := hB2
    rw [ht] at hB2
    clear hS
    have hS := hS1
    replace hP := hB2
    generalize H1 = H at hP hS ⊢
    obtain ⟨j, hj, rfl⟩ := kIx_0 (by decide) hk0_1
    have hk3 : kd (F 1 h) = 28 := hW.ref hk_h rfl (by decide)
    have hl3 : (L (F 1 h)).length ≤ 60 := hW.len hk3 (by decide)
    refine lv_iconst (v := nI 0) hx hb dX8_held_4 (by decide) ?_
    refine lv_istore_n (lv' := [(2, .int (nI 0)), (0, .ref h), (1, .int (nI j))]) hx hb dX8_held_5 rfl hl (by decide) rfl (fun ls hl => ?_)
    refine lv_iconst (v := nI 0) hx hb dX8_held_6 (by decide) ?_
    refine lv_istore_n (lv' := [(3, .int (nI 0)), (2, .int (nI 0)), (0, .ref h), (1, .int (nI j))]) hx hb dX8_held_7 rfl hl (by decide) rfl (fun ls hl => ?_)
    refine w_loopJ (n := (L (F 1 h)).length) (nL := 7) (fun i => True) (fun i => [(0, .ref h), (1, .int (nI j)), (3, .int (nI i)), (2, .int (nI (sm (kHeld F L h j) i)))]) (fun i hb_3 hJ_4 ih_2 ls hl => ?_) 0 (Nat.zero_le _) trivial ls (lv_sub hl [2, 3, 0, 1] rfl)
    refine lv_iload_n hx hb dX8_held_8 rfl (lv_at hl 2 rfl) ?_
    refine lv_aload_n hx hb dX8_held_9 rfl (lv_at hl 0 rfl) ?_
    have hm_5 : (h, .inr (9, [.ref (F 0 h), .ref (F 1 h), .ref (F 2 h), .ref (F 3 h), .ref (F 4 h), .int (nI (F 5 h))])) ∈ ws := hC.at hk_h (by decide) (by decide)
    refine c_get (C := RX8) (T := TX8) (N := 6) hx hb hts hin_X8 hown hK hP hm_5 rfl 1 (by decide) l_16 (fun _ h9 => h9) rfl dX8_held_10 ?_
    have hk_6 : kd (F 1 h) = 28 := hW.ref hk_h rfl (by decide)
    have hl_7 : (L (F 1 h)).length ≤ 60 := hW.len hk_6 (by decide)
    obtain ⟨fs_hm_8, hm_8⟩ := hC.obj hk_6 (by decide)
    refine vp_callSi (W.runV (As := []) (rest := [.int (nI i)]) ⟨hx, hb, hml, hown, hts⟩ ((cl_size l D cI cO cb eA mi st ws hD (F 1 h) (L (F 1 h)) (hC.lst hk_6 (by decide)))) (cwV 0 hts gX8_held_Jx4a65c_size_8abf5 rfl rfl rfl kd_Jx4a65c_size_8abf5 ⟨Nat.le_of_ble_eq_true rfl, Nat.le_of_ble_eq_true rfl⟩) ⟨cB_blind, c_recv hK hP rfl hm_8, cB_pre hK hG hA hS hP _⟩ rfl rfl hl.1 rfl (lv_room (Nat.le_of_ble_eq_true rfl)) dX8_held_13 ⟨Nat.le_of_ble_eq_true rfl, Nat.le_of_ble_eq_true rfl⟩) (fun r_9 hr_9 => ?_)
    subst hr_9
    refine n_icmp_ge (tgt := 90) hx hb dX8_held_16 (by decide) (by omega) (by omega) (fun c_10 => ?_) (fun c_10 => ?_)
    · refine lv_iload_n hx hb dX8_held_90 rfl (lv_at hl 3 rfl) ?_
      refine W.widen (k := 1) (n := 6) (by omega) (by omega) ?_
      refine vx_ret ?_
      have hk9 : kIx (nI j) 8 = 0 := by exact hk0_1
      exact W.iret (v := nI (sm (kHeld F L h j) i)) hx hb hr (fun U9 ht hW9 => ⟨⟨_, (), rfl, ⟨hk9, (show nI (sm (kHeld F L h j) i) = nI (sm (kHeld F L h (nI j).toNatClampNeg) (L (F 1 h)).length) from by rw [nI_clamp (by omega), show (L (F 1 h)).length = i by omega])⟩, by show va_P D vwCl ws U9.heap; rw [ht]; exact hP⟩, hS.F ht⟩) hS.2.2 dX8_held_91
    · refine lv_aload_n hx hb dX8_held_19 rfl (lv_at hl 0 rfl) ?_
      refine c_get (C := RX8) (T := TX8) (N := 6) hx hb hts hin_X8 hown hK hP hm_5 rfl 1 (by decide) l_16 (fun _ h9 => h9) rfl dX8_held_20 ?_
      refine lv_iload_n hx hb dX8_held_23 rfl (lv_at hl 2 rfl) ?_
      obtain ⟨fs_hm_11, hm_11⟩ := hC.obj hk_6 (by decide)
      refine va_csr (W.runV (As := [.int (nI i)]) (rest := []) ⟨hx, hb, hml, hown, hts⟩ ((cl_get l D cI cO cb eA mi st ws hD (F 1 h) (L (F 1 h)) (hC.lst hk_6 (by decide)) i (gt (L (F 1 h)) i) (gt_some (by omega)))) (cwV 1 hts gX8_held_Jx4a65c_get_915e3 rfl rfl rfl kd_Jx4a65c_get_915e3 ⟨Nat.le_of_ble_eq_true rfl, Nat.le_of_ble_eq_true rfl⟩) ⟨cB_blind, c_recv hK hP rfl hm_11, cB_pre hK hG hA hS hP _⟩ rfl rfl hl.1 rfl (lv_room (Nat.le_of_ble_eq_true rfl)) dX8_held_24 ⟨Nat.le_of_ble_eq_true rfl, Nat.le_of_ble_eq_true rfl⟩) (fun r_12 hr_12 => ?_)
      subst hr_12
      have hk_13 : kd (gt (L (F 1 h)) i) = 8 := hW.el hk_6 (by omega)
      have hm_14 : (gt (L (F 1 h)) i, .inr (8, [.int (nI (F 0 (gt (L (F 1 h)) i))), .int (nI (F 1 (gt (L (F 1 h)) i))), .int (nI (F 2 (gt (L (F 1 h)) i))), .int (nI (F 3 (gt (L (F 1 h)) i))), .int (nI (F 4 (gt (L (F 1 h)) i))), .ref (F 5 (gt (L (F 1 h)) i))])) ∈ ws := hC.at hk_13 (by decide) (by decide)
      refine va_castE hx hb hown (hts (.classLink RX8 47 "TenderHall$Tender") (List.mem_of_getElem? (i := 2) rfl)) (c_recv hK hP (ci := 8) rfl hm_14) dX8_held_27 ?_
      refine c_get (C := RX7) (T := TX7) (N := 6) hx hb hts hin_X7 hown hK hP hm_14 rfl 5 (by decide) l_60 (fun _ h9 => h9) rfl dX8_held_30 ?_
      have hk_15 : kd (F 5 (gt (L (F 1 h)) i)) = 27 := hW.ref hk_13 rfl (by decide)
      have hl_16 : (L (F 5 (gt (L (F 1 h)) i))).length ≤ 60 := hW.len hk_15 (by decide)
      refine lv_astore (lv' := [(4, .ref (F 5 (gt (L (F 1 h)) i))), (0, .ref h), (1, .int (nI j)), (3, .int (nI i)), (2, .int (nI (sm (kHeld F L h j) i)))]) hx hb dX8_held_33 hl (by decide) rfl (fun ls hl => ?_)
      refine lv_iconst (v := nI 0) hx hb dX8_held_35 (by decide) ?_
      refine lv_istore (lv' := [(5, .int (nI 0)), (4, .ref (F 5 (gt (L (F 1 h)) i))), (0, .ref h), (1, .int (nI j)), (3, .int (nI i)), (2, .int (nI (sm (kHeld F L h j) i)))]) hx hb dX8_held_36 hl (by decide) rfl (fun ls hl => ?_)
      have eI_17 : sm (kHeld F L h j) i + sm (kHeld1 F L h j (F 5 (gt (L (F 1 h)) i))) 0 = sm (kHeld F L h j) i := by rfl
      refine w_loopJ (n := (L (F 5 (gt (L (F 1 h)) i))).length) (nL := 7) (fun k => True) (fun k => [(0, .ref h), (1, .int (nI j)), (3, .int (nI i)), (4, .ref (F 5 (gt (L (F 1 h)) i))), (5, .int (nI k)), (2, .int (nI (sm (kHeld F L h j) i + sm (kHeld1 F L h j (F 5 (gt (L (F 1 h)) i))) k)))]) (fun k hb_19 hJ_20 ih_18 ls hl => ?_) 0 (Nat.zero_le _) trivial ls (lv_sub hl [2, 3, 4, 1, 0, 5] (by show lv_pick _ _ = [(0, .ref h), (1, .int (nI j)), (3, .int (nI i)), (4, .ref (F 5 (gt (L (F 1 h)) i))), (5, .int (nI 0)), (2, .int (nI (sm (kHeld F L h j) i + sm (kHeld1 F L h j (F 5 (gt (L (F 1 h)) i))) 0)))]; rw [eI_17]; rfl))
      refine lv_iload hx hb dX8_held_38 (lv_at hl 4 rfl) ?_
      refine lv_aload hx hb dX8_held_40 (lv_at hl 3 rfl) ?_
      obtain ⟨fs_hm_21, hm_21⟩ := hC.obj hk_15 (by decide)
      refine vp_callSi (W.runV (As := []) (rest := [.int (nI k)]) ⟨hx, hb, hml, hown, hts⟩ ((cl_size l D cI cO cb eA mi st ws hD (F 5 (gt (L (F 1 h)) i)) (L (F 5 (gt (L (F 1 h)) i))) (hC.lst hk_15 (by decide)))) (cwV 0 hts gX8_held_Jx4a65c_size_8abf5 rfl rfl rfl kd_Jx4a65c_size_8abf5 ⟨Nat.le_of_ble_eq_true rfl, Nat.le_of_ble_eq_true rfl⟩) ⟨cB_blind, c_recv hK hP rfl hm_21, cB_pre hK hG hA hS hP _⟩ rfl rfl hl.1 rfl (lv_room (Nat.le_of_ble_eq_true rfl)) dX8_held_42 ⟨Nat.le_of_ble_eq_true rfl, Nat.le_of_ble_eq_true rfl⟩) (fun r_22 hr_22 => ?_)
      subst hr_22
      refine n_icmp_ge (tgt := 84) hx hb dX8_held_45 (by decide) (by omega) (by omega) (fun c_23 => ?_) (fun c_23 => ?_)
      · refine n_iinc (k := 2) (lv' := [(3, .int (nI (i + 1))), (0, .ref h), (1, .int (nI j)), (4, .ref (F 5 (gt (L (F 1 h)) i))), (5, .int (nI k)), (2, .int (nI (sm (kHeld F L h j) i + sm (kHeld1 F L h j (F 5 (gt (L (F 1 h)) i))) k)))]) hx hb dX8_held_84 hl rfl (by decide) rfl (fun ls hl => ?_)
        refine lv_goto (tgt := 8) hx hb dX8_held_87 (by decide) ?_
        have e_24 : sm (kHeld F L h j) (i + 1) = sm (kHeld F L h j) i + sm (kHeld1 F L h j (F 5 (gt (L (F 1 h)) i))) k := by rw [sm]; show _ + sm _ _ = _; rw [show (L (F 5 (gt (L (F 1 h)) i))).length = k by omega]
        refine ih_2 (by omega) trivial ls ?_
        show lv_has ls 7 [(0, .ref h), (1, .int (nI j)), (3, .int (nI (i + 1))), (2, .int (nI (sm (kHeld F L h j) (i + 1))))]
        rw [e_24]
        exact lv_sub hl [1, 2, 0, 5] rfl
      · refine lv_aload hx hb dX8_held_48 (lv_at hl 3 rfl) ?_
        refine lv_iload hx hb dX8_held_50 (lv_at hl 4 rfl) ?_
        obtain ⟨fs_hm_25, hm_25⟩ := hC.obj hk_15 (by decide)
        refine va_csr (W.runV (As := [.int (nI k)]) (rest := []) ⟨hx, hb, hml, hown, hts⟩ ((cl_get l D cI cO cb eA mi st ws hD (F 5 (gt (L (F 1 h)) i)) (L (F 5 (gt (L (F 1 h)) i))) (hC.lst hk_15 (by decide)) k (gt (L (F 5 (gt (L (F 1 h)) i))) k) (gt_some (by omega)))) (cwV 1 hts gX8_held_Jx4a65c_get_915e3 rfl rfl rfl kd_Jx4a65c_get_915e3 ⟨Nat.le_of_ble_eq_true rfl, Nat.le_of_ble_eq_true rfl⟩) ⟨cB_blind, c_recv hK hP rfl hm_25, cB_pre hK hG hA hS hP _⟩ rfl rfl hl.1 rfl (lv_room (Nat.le_of_ble_eq_true rfl)) dX8_held_52 ⟨Nat.le_of_ble_eq_true rfl, Nat.le_of_ble_eq_true rfl⟩) (fun r_26 hr_26 => ?_)
        subst hr_26
        have hk_27 : kd (gt (L (F 5 (gt (L (F 1 h)) i))) k) = 7 := hW.el hk_15 (by omega)
        have hm_28 : (gt (L (F 5 (gt (L (F 1 h)) i))) k, .inr (7, [.ref (F 0 (gt (L (F 5 (gt (L (F 1 h)) i))) k)), .int (nI (F 1 (gt (L (F 5 (gt (L (F 1 h)) i))) k))), .int (nI (F 2 (gt (L (F 5 (gt (L (F 1 h)) i))) k))), .ref (F 3 (gt (L (F 5 (gt (L (F 1 h)) i))) k)), .ref (F 4 (gt (L (F 5 (gt (L (F 1 h)) i))) k))])) ∈ ws := hC.at hk_27 (by decide) (by decide)
        refine va_castE hx hb hown (hts (.classLink RX8 67 "TenderHall$Lot") (List.mem_of_getElem? (i := 4) rfl)) (c_recv hK hP (ci := 7) rfl hm_28) dX8_held_55 ?_
        refine lv_astore (lv' := [(6, .ref (gt (L (F 5 (gt (L (F 1 h)) i))) k)), (0, .ref h), (1, .int (nI j)), (3, .int (nI i)), (4, .ref (F 5 (gt (L (F 1 h)) i))), (5, .int (nI k)), (2, .int (nI (sm (kHeld F L h j) i + sm (kHeld1 F L h j (F 5 (gt (L (F 1 h)) i))) k)))]) hx hb dX8_held_58 hl (by decide) rfl (fun ls hl => ?_)
        refine lv_aload_n hx hb dX8_held_60 rfl (lv_at hl 1 rfl) ?_
        refine lv_aload hx hb dX8_held_61 (lv_at hl 0 rfl) ?_
        refine lv_iload_n hx hb dX8_held_63 rfl (lv_at hl 2 rfl) ?_
        refine vp_callSi (W.runV (As := [.ref (gt (L (F 5 (gt (L (F 1 h)) i))) k), .int (nI j)]) (rest := []) ⟨hx, hb, hml, hown, hts⟩ (ck_holdsDeposit l D cI cO cb eA mi st ws hD hC hW hs h hk_h (gt (L (F 5 (gt (L (F 1 h)) i))) k) hk_27 j (by omega)) (cwV 2 hts gX8_held_X8_holdsDeposit rfl rfl rfl kd_X8_holdsDeposit ⟨Nat.le_of_ble_eq_true rfl, Nat.le_of_ble_eq_true rfl⟩) ⟨cB_blind, c_recv hK hP rfl hm_5, cB_pre hK hG hA hS hP _⟩ rfl rfl hl.1 rfl (lv_room (Nat.le_of_ble_eq_true rfl)) dX8_held_64 ⟨Nat.le_of_ble_eq_true rfl, Nat.le_of_ble_eq_true rfl⟩) (fun r_29 hr_29 => ?_)
        subst hr_29
        refine b_if_eq (tgt := 78) hx hb dX8_held_67 (by decide)  (fun c_30 => ?_) (fun c_30 => ?_)
        · refine n_iinc (k := 5) (lv' := [(5, .int (nI (k + 1))), (6, .ref (gt (L (F 5 (gt (L (F 1 h)) i))) k)), (0, .ref h), (1, .int (nI j)), (3, .int (nI i)), (4, .ref (F 5 (gt (L (F 1 h)) i))), (2, .int (nI (sm (kHeld F L h j) i + sm (kHeld1 F L h j (F 5 (gt (L (F 1 h)) i))) k)))]) hx hb dX8_held_78 hl rfl (by decide) rfl (fun ls hl => ?_)
          refine lv_goto (tgt := 38) hx hb dX8_held_81 (by decide) ?_
          have e_31 : sm (kHeld F L h j) i + sm (kHeld1 F L h j (F 5 (gt (L (F 1 h)) i))) (k + 1) = sm (kHeld F L h j) i + sm (kHeld1 F L h j (F 5 (gt (L (F 1 h)) i))) k := by first | (rw [sm]; show _ + (_ + (if _ then _ else _)) = _; rw [if_pos (by assumption)]; omega) | (rw [sm]; show _ + (_ + (if _ then _ else _)) = _; rw [if_neg (by simp only [Bool.not_eq_true]; assumption)]; omega)
          refine ih_18 (by omega) trivial ls ?_
          show lv_has ls 7 [(0, .ref h), (1, .int (nI j)), (3, .int (nI i)), (4, .ref (F 5 (gt (L (F 1 h)) i))), (5, .int (nI (k + 1))), (2, .int (nI (sm (kHeld F L h j) i + sm (kHeld1 F L h j (F 5 (gt (L (F 1 h)) i))) (k + 1))))]
          rw [e_31]
          exact lv_sub hl [2, 3, 4, 5, 0, 6] rfl
        · refine lv_iload_n hx hb dX8_held_70 rfl (lv_at hl 6 rfl) ?_
          refine lv_aload hx hb dX8_held_71 (lv_at hl 0 rfl) ?_
          refine c_get (C := RX5) (T := TX5) (N := 5) hx hb hts hin_X5 hown hK hP hm_28 rfl 2 (by decide) l_245 (fun _ h9 => h9) rfl dX8_held_73 ?_
          have hn_32 : F 2 (gt (L (F 5 (gt (L (F 1 h)) i))) k) < 10001 := hW.num hk_27 rfl (by decide)
          refine n_iadd hx hb dX8_held_76 (z := (sm (kHeld F L h j) i + sm (kHeld1 F L h j (F 5 (gt (L (F 1 h)) i))) k) + (F 2 (gt (L (F 5 (gt (L (F 1 h)) i))) k))) rfl ?_
          refine lv_istore_n (lv' := [(2, .int (nI ((sm (kHeld F L h j) i + sm (kHeld1 F L h j (F 5 (gt (L (F 1 h)) i))) k) + (F 2 (gt (L (F 5 (gt (L (F 1 h)) i))) k))))), (6, .ref (gt (L (F 5 (gt (L (F 1 h)) i))) k)), (0, .ref h), (1, .int (nI j)), (3, .int (nI i)), (4, .ref (F 5 (gt (L (F 1 h)) i))), (5, .int (nI k))]) hx hb dX8_held_77 rfl hl (by decide) rfl (fun ls hl => ?_)
          refine n_iinc (k := 6) (lv' := [(5, .int (nI (k + 1))), (2, .int (nI ((sm (kHeld F L h j) i + sm (kHeld1 F L h j (F 5 (gt (L (F 1 h)) i))) k) + (F 2 (gt (L (F 5 (gt (L (F 1 h)) i))) k))))), (6, .ref (gt (L (F 5 (gt (L (F 1 h)) i))) k)), (0, .ref h), (1, .int (nI j)), (3, .int (nI i)), (4, .ref (F 5 (gt (L (F 1 h)) i)))]) hx hb dX8_held_78 hl rfl (by decide) rfl (fun ls hl => ?_)
          refine lv_goto (tgt := 38) hx hb dX8_held_81 (by decide) ?_
          have e_33 : sm (kHeld F L h j) i + sm (kHeld1 F L h j (F 5 (gt (L (F 1 h)) i))) (k + 1) = (sm (kHeld F L h j) i + sm (kHeld1 F L h j (F 5 (gt (L (F 1 h)) i))) k) + (F 2 (gt (L (F 5 (gt (L (F 1 h)) i))) k)) := by first | (rw [sm]; show _ + (_ + (if _ then _ else _)) = _; rw [if_pos (by assumption)]; omega) | (rw [sm]; show _ + (_ + (if _ then _ else _)) = _; rw [if_neg (by simp only [Bool.not_eq_true]; assumption)]; omega)
          refine ih_18 (by omega) trivial ls ?_
          show lv_has ls 7 [(0, .ref h), (1, .int (nI j)), (3, .int (nI i)), (4, .ref (F 5 (gt (L (F 1 h)) i))), (5, .int (nI (k + 1))), (2, .int (nI (sm (kHeld F L h j) i + sm (kHeld1 F L h j (F 5 (gt (L (F 1 h)) i))) (k + 1))))]
          rw [e_33]
          exact lv_sub hl [3, 4, 5, 6, 0, 1] rfl
