/-! the class: helpers that change it -/
def kFollow (F : Nat → Nat → Nat) (L : Nat → List Nat) (a w : Nat) : Nat → Nat → Nat := match kBid F L a (F 1 w) with
  | none => F
  | some o => if F 0 w = 1 then up2 F 3 o (F 2 w) else if F 0 w = 2 then up2 F 5 o 1 else up2 F 5 o 3
def kTake (F : Nat → Nat → Nat) (L : Nat → List Nat) (a b : Nat) : Nat → List Nat := match fr (fun j => F 0 (gt (L (F 3 a)) j) = b) (L (F 3 a)).length with
  | none => L
  | some i => upL L (F 3 a) ((L (F 3 a)).eraseIdx i)
set_option maxHeartbeats 4000000 in
set_option maxRecDepth 100000 in
theorem cv_follow (l : Launch) (D : va_G) (cI cO cb : ClassId) (eA mi : Nat) (st : Nat → Nat) {A : Nat → Prop} (ws : va_W) (hD : va_D A ws) {own kd : Nat → Nat} {F : Nat → Nat → Nat} {L : Nat → List Nat} (hC : CW cI cO eA st own kd F L ws) (hW : WF kd F L) (hs : sInj st)  (a : Nat) (hk_a : kd a = 7) (w : Nat) (hk_w : kd w = 4) : Met l yX5_follow wsX5_follow ({ frames := 4, cells := 0, slots := 0, locals := 87 }) (va_Pc [.ref a, .ref w] (cB D cI cO cb eA mi st A ws)) (va_Qv (fun u : va_W => CW cI cO eA st own kd (kFollow F L a w) L u ∧ WF kd (kFollow F L a w) L ∧ va_D A u) (fun u U9 => va_P D vwCl u U9.heap) A) 0 0 A := by
  refine Met.ofW (cc := cX5_follow) (maxL := 3) (ret := none) (by decide) rfl ?_
  intro p e s m args below meth c s₁ B hml hv
  obtain ⟨rfl, hP, hK, hG, hA⟩ := hv
  have hx := B.exec
  have hb := B.bytes
  have hr := B.returns
  have hts := atoms_spec (ws := wsX5_follow) B.pre
  have hown : s.vm.findClass RX5 = some m.cls := findClass_of_methodNamed B.named
  have hlocks := B.notSynchronized
  have hin_X1 : ∀ w ∈ wsX10, w ∈ wsX5_follow := fun w h => List.mem_cons_of_mem _ (List.mem_append_left _ (List.mem_append_left _ (List.mem_append_right _ h)))
  have hin_X2 : ∀ w ∈ wsX20, w ∈ wsX5_follow := fun w h => List.mem_cons_of_mem _ (List.mem_append_left _ (List.mem_append_left _ (List.mem_append_left _ (List.mem_append_right _ h))))
  have l_76 := (hts (.fieldLink RX5 76 "TenderHall$Change" "bidder" "I") (List.mem_of_getElem? (i := 1) rfl))
  have l_83 := (hts (.fieldLink RX5 83 "TenderHall$Change" "ground" "I") (List.mem_of_getElem? (i := 2) rfl))
  have l_87 := (hts (.fieldLink RX5 87 "TenderHall$Status" "OUT_FOR_GOOD" "LTenderHall$Status;") (List.mem_of_getElem? (i := 7) rfl))
  have l_51 := (hts (.fieldLink RX5 51 "TenderHall$Bid" "status" "LTenderHall$Status;") (List.mem_of_getElem? (i := 6) rfl))
  have l_55 := (hts (.fieldLink RX5 55 "TenderHall$Status" "IN" "LTenderHall$Status;") (List.mem_of_getElem? (i := 5) rfl))
  have l_86 := (hts (.fieldLink RX5 86 "TenderHall$Change" "quality" "I") (List.mem_of_getElem? (i := 3) rfl))
  have l_65 := (hts (.fieldLink RX5 65 "TenderHall$Bid" "quality" "I") (List.mem_of_getElem? (i := 4) rfl))
  have hS : va_S A s.heap s.heap [] := va_S.rf
  have hD0 := hD
  have hl := lv_entry ([.ref a, .ref w]) (n := 3) (Nat.le_of_ble_eq_true rfl)
  rw [lg_entry_eq]
  generalize (lg_sl ([.ref a, .ref w]) ++ List.replicate (3 - (lg_sl ([.ref a, .ref w])).length) Slot.unset).toArray = ls at hl ⊢
  have hl : lv_has ls 3 [(0, .ref a), (1, .ref w)] := hl
  refine lv_aload_n hx hb dX5_follow_0 rfl (lv_at hl 0 rfl) ?_
  refine lv_aload_n hx hb dX5_follow_1 rfl (lv_at hl 1 rfl) ?_
  have hm_1 : (w, .inr (4, [.int (nI (F 0 w)), .int (nI (F 1 w)), .int (nI (F 2 w))])) ∈ ws := hC.at hk_w (by decide) (by decide)
  refine c_get (C := RX2) (T := TX2) (N := 3) hx hb hts hin_X2 hown hK hP hm_1 rfl 1 (by decide) l_76 (fun _ h9 => h9) rfl dX5_follow_2 ?_
  have hn_2 : F 1 w < 8 := hW.num (f := 1) hk_w rfl (by decide)
  have hm_3 : (a, .inr (7, [.ref (F 0 a), .int (nI (F 1 a)), .int (nI (F 2 a)), .ref (F 3 a), .ref (F 4 a)])) ∈ ws := hC.at hk_a (by decide) (by decide)
  refine va_csq (W.runV (As := [.int (nI (F 1 w))]) (rest := []) ⟨hx, hb, hml, hown, hts⟩ (ck_bidOf l D cI cO cb eA mi st ws hD hC hW hs a hk_a (F 1 w) (by omega)) (cwV 1 hts gX5_follow_X5_bidOf rfl rfl rfl kd_X5_bidOf ⟨Nat.le_of_ble_eq_true rfl, Nat.le_of_ble_eq_true rfl⟩) ⟨cB_blind, c_recv hK hP rfl hm_3, cB_pre hK hG hA hS hP _⟩ rfl rfl hl.1 rfl (lv_room (Nat.le_of_ble_eq_true rfl)) dX5_follow_5 ⟨Nat.le_of_ble_eq_true rfl, Nat.le_of_ble_eq_true rfl⟩) (fun r_4 hr_4 => ?_)
  subst hr_4
  rcases ho_5 : kBid F L a (F 1 w) with _ | o_5
  · show W _ _ _ _ _ _ _ _ _ _ _ _ _ _ _ (F0 _ _ _ (.null :: _))
    refine lv_astore_nN (lv' := [(2, .null), (0, .ref a), (1, .ref w)]) hx hb dX5_follow_8 rfl hl (by decide) rfl (fun ls hl => ?_)
    refine lv_aload_nN hx hb dX5_follow_9 rfl (lv_at hl 0 rfl) ?_
    refine lv_ifnonnullN hx hb dX5_follow_10 ?_
    have eF : kFollow F L a w = F := by unfold kFollow; rw [ho_5]; try first | exact if_pos (by omega) | exact (if_neg (by omega)).trans (if_pos (by omega)) | exact (if_neg (by omega)).trans (if_neg (by omega))
    exact W.vret hx hb hr (fun U9 ht hW9 => ⟨⟨(ws), rfl, ⟨by rw [eF]; exact hC, by rw [eF]; exact hW, hD⟩, by show va_P D vwCl _ U9.heap; rw [ht]; exact hP⟩, hS.F ht⟩) hS.2.2 dX5_follow_13
  · show W _ _ _ _ _ _ _ _ _ _ _ _ _ _ _ (F0 _ _ _ (.ref o_5 :: _))
    have hk_6 : kd o_5 = 3 := kBid_kd hW hk_a ho_5
    refine lv_astore_n (lv' := [(2, .ref o_5), (0, .ref a), (1, .ref w)]) hx hb dX5_follow_8 rfl hl (by decide) rfl (fun ls hl => ?_)
    refine lv_aload_n hx hb dX5_follow_9 rfl (lv_at hl 0 rfl) ?_
    refine lv_ifnonnull (tgt := 14) hx hb dX5_follow_10 (by decide) ?_
    refine lv_aload_n hx hb dX5_follow_14 rfl (lv_at hl 2 rfl) ?_
    refine c_get (C := RX2) (T := TX2) (N := 3) hx hb hts hin_X2 hown hK hP hm_1 rfl 0 (by decide) l_83 (fun _ h9 => h9) rfl dX5_follow_15 ?_
    have hn_7 : F 0 w < 3 := hW.num (f := 0) hk_w rfl (by decide)
    refine lv_iconst (v := nI 1) hx hb dX5_follow_18 (by decide) ?_
    refine n_icmp_ne (tgt := 33) hx hb dX5_follow_19 (by decide) (by omega) (by decide) (fun c_8 => ?_) (fun c_8 => ?_)
    · refine lv_aload_n hx hb dX5_follow_33 rfl (lv_at hl 2 rfl) ?_
      refine c_get (C := RX2) (T := TX2) (N := 3) hx hb hts hin_X2 hown hK hP hm_1 rfl 0 (by decide) l_83 (fun _ h9 => h9) rfl dX5_follow_34 ?_
      refine lv_iconst (v := nI 2) hx hb dX5_follow_37 (by decide) ?_
      refine n_icmp_ne (tgt := 51) hx hb dX5_follow_38 (by decide) (by omega) (by decide) (fun c_9 => ?_) (fun c_9 => ?_)
      · refine lv_aload_n hx hb dX5_follow_51 rfl (lv_at hl 0 rfl) ?_
        refine va_gets hx hb hG.2.2.2.2.2.2.2.2.2.2 hS hown l_87 (fun _ h9 => h9) dX5_follow_52 ?_
        have hm_10 : (o_5, .inr (3, [.int (nI (F 0 o_5)), .int (nI (F 1 o_5)), .int (nI (F 2 o_5)), .int (nI (F 3 o_5)), .ref (st (F 4 o_5)), .ref (st (F 5 o_5))])) ∈ ws := hC.at hk_6 (by decide) (by decide)
        have hC9 := hC.put (f := 5) (v := 3) (x := .inr (3, [.int (nI (F 0 o_5)), .int (nI (F 1 o_5)), .int (nI (F 2 o_5)), .int (nI (F 3 o_5)), .ref (st (F 4 o_5)), .ref (st 3)])) hD hk_6 (by decide) (by decide) (by simp [ent, up2])
        have hW9 := hW.put (f := 5) (v := 3) hk_6 (Or.inr (by show 3 < 4; omega)) (Or.inl rfl)
        refine c_put (C := RX1) (T := TX1) (N := 6) (v := .ref (st 3)) (ty := (.object "TenderHall$Status")) (fs2 := [.int (nI (F 0 o_5)), .int (nI (F 1 o_5)), .int (nI (F 2 o_5)), .int (nI (F 3 o_5)), .ref (st (F 4 o_5)), .ref (st 3)]) hx hb hts hin_X1 tyX1 tyX1_ok nmX1 hown hK hP hD hS hm_10 rfl 5 (by decide) l_51 (fun _ h9 => h9) rfl (by decide +kernel) rfl rfl (Nat.le_of_ble_eq_true rfl) rfl dX5_follow_55 (fun H locs hP hD hS => ?_)
        replace hC := hC9
        replace hW := hW9
        clear hC9 hW9
        have eF : kFollow F L a w = up2 F 5 o_5 3 := by unfold kFollow; rw [ho_5]; try first | exact if_pos (by omega) | exact (if_neg (by omega)).trans (if_pos (by omega)) | exact (if_neg (by omega)).trans (if_neg (by omega))
        exact W.vret hx hb hr (fun U9 ht hW9 => ⟨⟨(wup ws o_5 (.inr (3, [.int (nI (F 0 o_5)), .int (nI (F 1 o_5)), .int (nI (F 2 o_5)), .int (nI (F 3 o_5)), .ref (st (F 4 o_5)), .ref (st 3)]))), rfl, ⟨by rw [eF]; exact hC, by rw [eF]; exact hW, hD⟩, by show va_P D vwCl _ U9.heap; rw [ht]; exact hP⟩, hS.F ht⟩) hS.2.2 dX5_follow_58
      · refine lv_aload_n hx hb dX5_follow_41 rfl (lv_at hl 0 rfl) ?_
        refine va_gets hx hb hG.2.2.2.2.2.2.2.2.1 hS hown l_55 (fun _ h9 => h9) dX5_follow_42 ?_
        have hm_11 : (o_5, .inr (3, [.int (nI (F 0 o_5)), .int (nI (F 1 o_5)), .int (nI (F 2 o_5)), .int (nI (F 3 o_5)), .ref (st (F 4 o_5)), .ref (st (F 5 o_5))])) ∈ ws := hC.at hk_6 (by decide) (by decide)
        have hC9 := hC.put (f := 5) (v := 1) (x := .inr (3, [.int (nI (F 0 o_5)), .int (nI (F 1 o_5)), .int (nI (F 2 o_5)), .int (nI (F 3 o_5)), .ref (st (F 4 o_5)), .ref (st 1)])) hD hk_6 (by decide) (by decide) (by simp [ent, up2])
        have hW9 := hW.put (f := 5) (v := 1) hk_6 (Or.inr (by show 1 < 4; omega)) (Or.inl rfl)
        refine c_put (C := RX1) (T := TX1) (N := 6) (v := .ref (st 1)) (ty := (.object "TenderHall$Status")) (fs2 := [.int (nI (F 0 o_5)), .int (nI (F 1 o_5)), .int (nI (F 2 o_5)), .int (nI (F 3 o_5)), .ref (st (F 4 o_5)), .ref (st 1)]) hx hb hts hin_X1 tyX1 tyX1_ok nmX1 hown hK hP hD hS hm_11 rfl 5 (by decide) l_51 (fun _ h9 => h9) rfl (by decide +kernel) rfl rfl (Nat.le_of_ble_eq_true rfl) rfl dX5_follow_45 (fun H locs hP hD hS => ?_)
        replace hC := hC9
        replace hW := hW9
        clear hC9 hW9
        refine lv_goto (tgt := 58) hx hb dX5_follow_48 (by decide) ?_
        have eF : kFollow F L a w = up2 F 5 o_5 1 := by unfold kFollow; rw [ho_5]; try first | exact if_pos (by omega) | exact (if_neg (by omega)).trans (if_pos (by omega)) | exact (if_neg (by omega)).trans (if_neg (by omega))
        exact W.vret hx hb hr (fun U9 ht hW9 => ⟨⟨(wup ws o_5 (.inr (3, [.int (nI (F 0 o_5)), .int (nI (F 1 o_5)), .int (nI (F 2 o_5)), .int (nI (F 3 o_5)), .ref (st (F 4 o_5)), .ref (st 1)]))), rfl, ⟨by rw [eF]; exact hC, by rw [eF]; exact hW, hD⟩, by show va_P D vwCl _ U9.heap; rw [ht]; exact hP⟩, hS.F ht⟩) hS.2.2 dX5_follow_58
    · refine lv_aload_n hx hb dX5_follow_22 rfl (lv_at hl 0 rfl) ?_
      refine lv_aload_n hx hb dX5_follow_23 rfl (lv_at hl 2 rfl) ?_
      refine c_get (C := RX2) (T := TX2) (N := 3) hx hb hts hin_X2 hown hK hP hm_1 rfl 2 (by decide) l_86 (fun _ h9 => h9) rfl dX5_follow_24 ?_
      have hn_12 : F 2 w < 101 := hW.num (f := 2) hk_w rfl (by decide)
      have hm_13 : (o_5, .inr (3, [.int (nI (F 0 o_5)), .int (nI (F 1 o_5)), .int (nI (F 2 o_5)), .int (nI (F 3 o_5)), .ref (st (F 4 o_5)), .ref (st (F 5 o_5))])) ∈ ws := hC.at hk_6 (by decide) (by decide)
      have hC9 := hC.put (f := 3) (v := F 2 w) (x := .inr (3, [.int (nI (F 0 o_5)), .int (nI (F 1 o_5)), .int (nI (F 2 o_5)), .int (nI (F 2 w)), .ref (st (F 4 o_5)), .ref (st (F 5 o_5))])) hD hk_6 (by decide) (by decide) (by simp [ent, up2])
      have hW9 := hW.put (f := 3) (v := F 2 w) hk_6 (Or.inr (by show F 2 w < 101; omega)) (Or.inl rfl)
      refine c_put (C := RX1) (T := TX1) (N := 6) (v := .int (nI (F 2 w))) (ty := .int) (fs2 := [.int (nI (F 0 o_5)), .int (nI (F 1 o_5)), .int (nI (F 2 o_5)), .int (nI (F 2 w)), .ref (st (F 4 o_5)), .ref (st (F 5 o_5))]) hx hb hts hin_X1 tyX1 tyX1_ok nmX1 hown hK hP hD hS hm_13 rfl 3 (by decide) l_65 (fun _ h9 => h9) rfl (by decide +kernel) rfl rfl (Nat.le_of_ble_eq_true rfl) rfl dX5_follow_27 (fun H locs hP hD hS => ?_)
      replace hC := hC9
      replace hW := hW9
      clear hC9 hW9
      refine lv_goto (tgt := 58) hx hb dX5_follow_30 (by decide) ?_
      have eF : kFollow F L a w = up2 F 3 o_5 (F 2 w) := by unfold kFollow; rw [ho_5]; try first | exact if_pos (by omega) | exact (if_neg (by omega)).trans (if_pos (by omega)) | exact (if_neg (by omega)).trans (if_neg (by omega))
      exact W.vret hx hb hr (fun U9 ht hW9 => ⟨⟨(wup ws o_5 (.inr (3, [.int (nI (F 0 o_5)), .int (nI (F 1 o_5)), .int (nI (F 2 o_5)), .int (nI (F 2 w)), .ref (st (F 4 o_5)), .ref (st (F 5 o_5))]))), rfl, ⟨by rw [eF]; exact hC, by rw [eF]; exact hW, hD⟩, by show va_P D vwCl _ U9.heap; rw [ht]; exact hP⟩, hS.F ht⟩) hS.2.2 dX5_follow_58
set_option maxHeartbeats 4000000 in
set_option maxRecDepth 100000 in
theorem cv_takeBack (l : Launch) (D : va_G) (cI cO cb : ClassId) (eA mi : Nat) (st : Nat → Nat) {A : Nat → Prop} (ws : va_W) (hD : va_D A ws) {own kd : Nat → Nat} {F : Nat → Nat → Nat} {L : Nat → List Nat} (hC : CW cI cO eA st own kd F L ws) (hW : WF kd F L) (hs : sInj st)  (a : Nat) (hk_a : kd a = 7) (b : Nat) (hb8 : b < 8) : Met l yX5_takeBack wsX5_takeBack ({ frames := 3, cells := 0, slots := 0, locals := 106 }) (va_Pc [.ref a, .int (nI b)] (cB D cI cO cb eA mi st A ws)) (va_Qv (fun u : va_W => CW cI cO eA st own kd F (kTake F L a b) u ∧ WF kd F (kTake F L a b) ∧ va_D A u) (fun u U9 => va_P D vwCl u U9.heap) A) 0 0 A := by
  refine Met.ofW (cc := cX5_takeBack) (maxL := 3) (ret := none) (by decide) rfl ?_
  intro p e s m args below meth c s₁ B hml hv
  obtain ⟨rfl, hP, hK, hG, hA⟩ := hv
  have hx := B.exec
  have hb := B.bytes
  have hr := B.returns
  have hts := atoms_spec (ws := wsX5_takeBack) B.pre
  have hown : s.vm.findClass RX5 = some m.cls := findClass_of_methodNamed B.named
  have hlocks := B.notSynchronized
  have hin_X1 : ∀ w ∈ wsX10, w ∈ wsX5_takeBack := fun w h => List.mem_cons_of_mem _ (List.mem_append_left _ (List.mem_append_right _ h))
  have hin_X5 : ∀ w ∈ wsX50, w ∈ wsX5_takeBack := fun w h => List.mem_cons_of_mem _ (List.mem_append_left _ (List.mem_append_left _ (List.mem_append_right _ h)))
  have l_12 := (hts (.fieldLink RX5 12 "TenderHall$Lot" "bids" "Ljava/util/ArrayList;") (List.mem_of_getElem? (i := 1) rfl))
  have l_42 := (hts (.fieldLink RX5 42 "TenderHall$Bid" "bidder" "I") (List.mem_of_getElem? (i := 3) rfl))
  have hS : va_S A s.heap s.heap [] := va_S.rf
  have hD0 := hD
  have hl := lv_entry ([.ref a, .int (nI b)]) (n := 3) (Nat.le_of_ble_eq_true rfl)
  rw [lg_entry_eq]
  generalize (lg_sl ([.ref a, .int (nI b)]) ++ List.replicate (3 - (lg_sl ([.ref a, .int (nI b)])).length) Slot.unset).toArray = ls at hl ⊢
  have hl : lv_has ls 3 [(0, .ref a), (1, .int (nI b))] := hl
  have hk3 : kd (F 3 a) = 23 := hW.ref hk_a rfl (by decide)
  have hl3 : (L (F 3 a)).length ≤ 60 := hW.len hk3 (by decide)
  refine lv_iconst (v := nI 0) hx hb dX5_takeBack_0 (by decide) ?_
  refine lv_istore_n (lv' := [(2, .int (nI 0)), (0, .ref a), (1, .int (nI b))]) hx hb dX5_takeBack_1 rfl hl (by decide) rfl (fun ls hl => ?_)
  refine w_loopJ (n := (L (F 3 a)).length) (nL := 3) (fun i => nall (fun j => F 0 (gt (L (F 3 a)) j) = b) i) (fun i => [(0, .ref a), (1, .int (nI b)), (2, .int (nI i))]) (fun i hb_2 hJ_3 ih_1 ls hl => ?_) 0 (Nat.zero_le _) nall.zero ls (lv_sub hl [1, 2, 0] rfl)
  refine lv_iload_n hx hb dX5_takeBack_2 rfl (lv_at hl 2 rfl) ?_
  refine lv_aload_n hx hb dX5_takeBack_3 rfl (lv_at hl 0 rfl) ?_
  have hm_4 : (a, .inr (7, [.ref (F 0 a), .int (nI (F 1 a)), .int (nI (F 2 a)), .ref (F 3 a), .ref (F 4 a)])) ∈ ws := hC.at hk_a (by decide) (by decide)
  refine c_get (C := RX5) (T := TX5) (N := 5) hx hb hts hin_X5 hown hK hP hm_4 rfl 3 (by decide) l_12 (fun _ h9 => h9) rfl dX5_takeBack_4 ?_
  have hk_5 : kd (F 3 a) = 23 := hW.ref (f := 3) hk_a rfl (by decide)
  have hl_6 : (L (F 3 a)).length ≤ 60 := hW.len hk_5 (by decide)
  obtain ⟨fs_hm_7, hm_7⟩ := hC.obj hk_5 (by decide)
  refine vp_callSi (W.runV (As := []) (rest := [.int (nI i)]) ⟨hx, hb, hml, hown, hts⟩ ((cl_size l D cI cO cb eA mi st ws hD (F 3 a) (L (F 3 a)) (hC.lst hk_5 (by decide)))) (cwV 0 hts gX5_takeBack_Jx4a65c_size_8abf5 rfl rfl rfl kd_Jx4a65c_size_8abf5 ⟨Nat.le_of_ble_eq_true rfl, Nat.le_of_ble_eq_true rfl⟩) ⟨cB_blind, c_recv hK hP rfl hm_7, cB_pre hK hG hA hS hP _⟩ rfl rfl hl.1 rfl (lv_room (Nat.le_of_ble_eq_true rfl)) dX5_takeBack_7 ⟨Nat.le_of_ble_eq_true rfl, Nat.le_of_ble_eq_true rfl⟩) (fun r_8 hr_8 => ?_)
  subst hr_8
  refine n_icmp_ge (tgt := 47) hx hb dX5_takeBack_10 (by decide) (by omega) (by omega) (fun c_9 => ?_) (fun c_9 => ?_)
  · have eL9 : kTake F L a b = L := by unfold kTake; rw [fr_no hJ_3 c_9]
    exact W.vret hx hb hr (fun U9 ht hW9 => ⟨⟨(ws), rfl, ⟨by rw [eL9]; exact hC, by rw [eL9]; exact hW, hD⟩, by show va_P D vwCl _ U9.heap; rw [ht]; exact hP⟩, hS.F ht⟩) hS.2.2 dX5_takeBack_47
  · refine lv_aload_n hx hb dX5_takeBack_13 rfl (lv_at hl 0 rfl) ?_
    refine c_get (C := RX5) (T := TX5) (N := 5) hx hb hts hin_X5 hown hK hP hm_4 rfl 3 (by decide) l_12 (fun _ h9 => h9) rfl dX5_takeBack_14 ?_
    refine lv_iload_n hx hb dX5_takeBack_17 rfl (lv_at hl 2 rfl) ?_
    obtain ⟨fs_hm_10, hm_10⟩ := hC.obj hk_5 (by decide)
    refine va_csr (W.runV (As := [.int (nI i)]) (rest := []) ⟨hx, hb, hml, hown, hts⟩ ((cl_get l D cI cO cb eA mi st ws hD (F 3 a) (L (F 3 a)) (hC.lst hk_5 (by decide)) i (gt (L (F 3 a)) i) (gt_some (by omega)))) (cwV 1 hts gX5_takeBack_Jx4a65c_get_915e3 rfl rfl rfl kd_Jx4a65c_get_915e3 ⟨Nat.le_of_ble_eq_true rfl, Nat.le_of_ble_eq_true rfl⟩) ⟨cB_blind, c_recv hK hP rfl hm_10, cB_pre hK hG hA hS hP _⟩ rfl rfl hl.1 rfl (lv_room (Nat.le_of_ble_eq_true rfl)) dX5_takeBack_18 ⟨Nat.le_of_ble_eq_true rfl, Nat.le_of_ble_eq_true rfl⟩) (fun r_11 hr_11 => ?_)
    subst hr_11
    have hk_12 : kd (gt (L (F 3 a)) i) = 3 := hW.el hk_5 (by omega)
    have hm_13 : (gt (L (F 3 a)) i, .inr (3, [.int (nI (F 0 (gt (L (F 3 a)) i))), .int (nI (F 1 (gt (L (F 3 a)) i))), .int (nI (F 2 (gt (L (F 3 a)) i))), .int (nI (F 3 (gt (L (F 3 a)) i))), .ref (st (F 4 (gt (L (F 3 a)) i))), .ref (st (F 5 (gt (L (F 3 a)) i)))])) ∈ ws := hC.at hk_12 (by decide) (by decide)
    refine va_castE hx hb hown (hts (.classLink RX5 40 "TenderHall$Bid") (List.mem_of_getElem? (i := 2) rfl)) (c_recv hK hP (ci := 3) rfl hm_13) dX5_takeBack_21 ?_
    refine c_get (C := RX1) (T := TX1) (N := 6) hx hb hts hin_X1 hown hK hP hm_13 rfl 0 (by decide) l_42 (fun _ h9 => h9) rfl dX5_takeBack_24 ?_
    have hn_14 : F 0 (gt (L (F 3 a)) i) < 8 := hW.num (f := 0) hk_12 rfl (by decide)
    refine lv_iload_n hx hb dX5_takeBack_27 rfl (lv_at hl 1 rfl) ?_
    refine n_icmp_ne (tgt := 41) hx hb dX5_takeBack_28 (by decide) (by omega) (by omega) (fun c_15 => ?_) (fun c_15 => ?_)
    · refine n_iinc (k := 2) (lv' := [(2, .int (nI (i + 1))), (0, .ref a), (1, .int (nI b))]) hx hb dX5_takeBack_41 hl rfl (by decide) rfl (fun ls hl => ?_)
      refine lv_goto (tgt := 2) hx hb dX5_takeBack_44 (by decide) ?_
      refine ih_1 (by omega) (hJ_3.succ c_15) ls ?_
      show lv_has ls 3 [(0, .ref a), (1, .int (nI b)), (2, .int (nI (i + 1)))]
      exact lv_sub hl [1, 2, 0] rfl
    · refine lv_aload_n hx hb dX5_takeBack_31 rfl (lv_at hl 0 rfl) ?_
      refine c_get (C := RX5) (T := TX5) (N := 5) hx hb hts hin_X5 hown hK hP hm_4 rfl 3 (by decide) l_12 (fun _ h9 => h9) rfl dX5_takeBack_32 ?_
      refine lv_iload_n hx hb dX5_takeBack_35 rfl (lv_at hl 2 rfl) ?_
      obtain ⟨fs_hm_16, hm_16⟩ := hC.obj hk_5 (by decide)
      refine va_callr (va_runV (As := [.int (nI i)]) (rest := []) ⟨hx, hb, hml, hown, hts⟩ (cl_remove l D cI cO cb eA mi st ws hD (F 3 a) (L (F 3 a)) (hC.lst hk_5 (by decide)) i (by omega) (hC.els hW hk_5 (by decide))) (cwV 1 hts gX5_takeBack_Jx4a65c_remove_915e3 rfl rfl rfl kd_Jx4a65c_remove_915e3 ⟨Nat.le_of_ble_eq_true rfl, Nat.le_of_ble_eq_true rfl⟩) ⟨cB_blind, c_recv hK hP rfl hm_16, cB_pre hK hG hA hS hP _⟩ rfl rfl hl.1 rfl (lv_room (Nat.le_of_ble_eq_true rfl)) dX5_takeBack_36 ⟨Nat.le_of_ble_eq_true rfl, Nat.le_of_ble_eq_true rfl⟩) hS (fun _ _ h => h) (fun _ h => h) (fun u ra U8 H1 locs1 ht hvm hu hB hz1 hk1 hS1 => ?_)
      obtain ⟨hu1, hu2, hD⟩ := hu
      rw [ht] at hB
      clear hS
      have hS := hS1
      replace hP := hB
      generalize H1 = H at hP hS ⊢
      have hC := hC.setL hu2 hu1
      have hW := hW.setL (vs := (L (F 3 a)).eraseIdx i) hk_5 (Nat.le_trans (List.length_eraseIdx_le _ _) (by omega)) (fun x9 h9 => by rw [(hW.2.2 _ (by rw [hk_5]; decide)).2.2.2 x9 (List.mem_of_mem_eraseIdx h9)]; exact hk_5)
      refine lv_pop hx hb dX5_takeBack_39 rfl ?_
      have eL9 : kTake F L a b = upL L (F 3 a) ((L (F 3 a)).eraseIdx i) := by unfold kTake; rw [fr_some hJ_3 (by omega) c_15]
      exact W.vret hx hb hr (fun U9 ht hW9 => ⟨⟨(u), rfl, ⟨by rw [eL9]; exact hC, by rw [eL9]; exact hW, hD⟩, by show va_P D vwCl _ U9.heap; rw [ht]; exact hP⟩, hS.F ht⟩) hS.2.2 dX5_takeBack_40
