/-! the class: an award is sent back -/
theorem kFollow_nf {F : Nat → Nat → Nat} {L : Nat → List Nat} {a w f b : Nat} (h3 : f ≠ 3) (h5 : f ≠ 5) : kFollow F L a w f b = F f b := by
  unfold kFollow
  cases kBid F L a (F 1 w) with
  | none => rfl
  | some o =>
    show (if F 0 w = 1 then up2 F 3 o (F 2 w) else if F 0 w = 2 then up2 F 5 o 1 else up2 F 5 o 3) f b = F f b
    split
    · exact up2_nf h3
    · split <;> exact up2_nf h5
def pSB (cI cO : ClassId) (eA : Nat) (st kd : Nat → Nat) (F : Nat → Nat → Nat) (L : Nat → List Nat) (A : Nat → Prop) (h w c : Nat) (ri : Int32) (u : va_W × (Nat → Nat) × Nat) : Prop := ∃ own, pBest cI cO eA st own kd (kFollow (up2 F 4 w 1) (upL L (F 4 (F 1 w)) (L (F 4 (F 1 w)) ++ [c])) (F 1 w) c) (upL L (F 4 (F 1 w)) (L (F 4 (F 1 w)) ++ [c])) A h (F 1 w) ri u
set_option maxHeartbeats 4000000 in
set_option maxRecDepth 100000 in
theorem cv_sendBack (l : Launch) (D : va_G) (cI cO cb : ClassId) (eA mi : Nat) (st : Nat → Nat) {A : Nat → Prop} (ws : va_W) (hD : va_D A ws) {own kd : Nat → Nat} {F : Nat → Nat → Nat} {L : Nat → List Nat} (hC : CW cI cO eA st own kd F L ws) (hW : WF kd F L) (hs : sInj st)  (h : Nat) (hk_h : kd h = 9) (w : Nat) (hk_w : kd w = 2) (y : Nat) (hk_y : kd y = 4) (hlen : (L (F 2 h)).length < 60) (hlen2 : (L (F 4 (F 1 w))).length < 60) : Met l yX8_sendBack wsX8_sendBack ({ frames := 8, cells := 3, slots := 199, locals := 214 }) (va_Pc [.ref h, .ref w, .ref y] (cB D cI cO cb eA mi st A ws)) (va_Qi (fun (ri : Int32) (u : va_W × (Nat → Nat) × Nat) => pSB cI cO eA st kd F L A h w y ri u) (fun u U9 => va_P D vwCl u.1 U9.heap) A) 3 199 A := by
  refine Met.ofW (cc := cX8_sendBack) (maxL := 3) (ret := (some .int)) (by decide) rfl ?_
  intro p e s m args below meth c s₁ B hml hv
  obtain ⟨rfl, hP, hK, hG, hA⟩ := hv
  have hx := B.exec
  have hb := B.bytes
  have hr := B.returns
  have hts := atoms_spec (ws := wsX8_sendBack) B.pre
  have hown : s.vm.findClass RX8 = some m.cls := findClass_of_methodNamed B.named
  have hlocks := B.notSynchronized
  have hin_X0 : ∀ w ∈ wsX00, w ∈ wsX8_sendBack := fun w h => List.mem_cons_of_mem _ (List.mem_append_left _ (List.mem_append_left _ (List.mem_append_left _ (List.mem_append_left _ (List.mem_append_left _ (List.mem_append_left _ (List.mem_append_right _ h)))))))
  have hin_X5 : ∀ w ∈ wsX50, w ∈ wsX8_sendBack := fun w h => List.mem_cons_of_mem _ (List.mem_append_left _ (List.mem_append_left _ (List.mem_append_left _ (List.mem_append_left _ (List.mem_append_left _ (List.mem_append_right _ h))))))
  have l_159 := (hts (.fieldLink RX8 159 "TenderHall$Award" "voided" "Z") (List.mem_of_getElem? (i := 1) rfl))
  have l_251 := (hts (.fieldLink RX8 251 "TenderHall$Award" "lot" "LTenderHall$Lot;") (List.mem_of_getElem? (i := 2) rfl))
  have l_286 := (hts (.fieldLink RX8 286 "TenderHall$Lot" "changes" "Ljava/util/ArrayList;") (List.mem_of_getElem? (i := 3) rfl))
  have hS : va_S A s.heap s.heap [] := va_S.rf
  have hD0 := hD
  have hl := lv_entry ([.ref h, .ref w, .ref y]) (n := 3) (Nat.le_of_ble_eq_true rfl)
  rw [lg_entry_eq]
  generalize (lg_sl ([.ref h, .ref w, .ref y]) ++ List.replicate (3 - (lg_sl ([.ref h, .ref w, .ref y])).length) Slot.unset).toArray = ls at hl ⊢
  have hl : lv_has ls 3 [(0, .ref h), (1, .ref w), (2, .ref y)] := hl
  have hk1 : kd (F 1 w) = 7 := hW.ref hk_w rfl (by decide)
  have hk4 : kd (F 4 (F 1 w)) = 24 := hW.ref hk1 rfl (by decide)
  have hk2 : kd (F 2 h) = 22 := hW.ref hk_h rfl (by decide)
  have hne : F 1 w ≠ w := fun e9 => absurd ((hk1.symm.trans (congrArg kd e9)).trans hk_w) (by decide)
  refine lv_aload_n hx hb dX8_sendBack_0 rfl (lv_at hl 1 rfl) ?_
  refine lv_iconst (v := nI 1) hx hb dX8_sendBack_1 (by decide) ?_
  have hm_1 : (w, .inr (2, [.int (nI (F 0 w)), .ref (F 1 w), .ref (F 2 w), .int (nI (F 3 w)), .int (nI (F 4 w)), .int (nI (F 5 w)), .int (nI (F 6 w))])) ∈ ws := hC.at hk_w (by decide) (by decide)
  have hC9 := hC.put (f := 4) (v := 1) (x := .inr (2, [.int (nI (F 0 w)), .ref (F 1 w), .ref (F 2 w), .int (nI (F 3 w)), .int (nI 1), .int (nI (F 5 w)), .int (nI (F 6 w))])) hD hk_w (by decide) (by decide) (by simp [ent, up2])
  have hW9 := hW.put (f := 4) (v := 1) hk_w (Or.inr (by show 1 < 2; omega)) (Or.inl rfl)
  refine c_put (C := RX0) (T := TX0) (N := 7) (v := .int (nI 1)) (ty := .boolean) (fs2 := [.int (nI (F 0 w)), .ref (F 1 w), .ref (F 2 w), .int (nI (F 3 w)), .int (nI 1), .int (nI (F 5 w)), .int (nI (F 6 w))]) hx hb hts hin_X0 tyX0 tyX0_ok nmX0 hown hK hP hD hS hm_1 rfl 4 (by decide) l_159 (fun _ h9 => h9) rfl (by decide +kernel) rfl rfl (Nat.le_of_ble_eq_true rfl) rfl dX8_sendBack_2 (fun H locs hP hD hS => ?_)
  replace hC := hC9
  replace hW := hW9
  clear hC9 hW9
  refine lv_aload_n hx hb dX8_sendBack_5 rfl (lv_at hl 1 rfl) ?_
  have hm_2 : (w, .inr (2, [.int (nI (F 0 w)), .ref (F 1 w), .ref (F 2 w), .int (nI (F 3 w)), .int (nI ((up2 F 4 w 1) 4 w)), .int (nI (F 5 w)), .int (nI (F 6 w))])) ∈ wup ws w (.inr (2, [.int (nI (F 0 w)), .ref (F 1 w), .ref (F 2 w), .int (nI (F 3 w)), .int (nI 1), .int (nI (F 5 w)), .int (nI (F 6 w))])) := hC.at hk_w (by decide) (by decide)
  refine c_get (C := RX0) (T := TX0) (N := 7) hx hb hts hin_X0 hown hK hP hm_2 rfl 1 (by decide) l_251 (fun _ h9 => h9) rfl dX8_sendBack_6 ?_
  have hk_3 : kd (F 1 w) = 7 := hW.ref (f := 1) hk_w rfl (by decide)
  have hm_4 : (F 1 w, .inr (7, [.ref (F 0 (F 1 w)), .int (nI (F 1 (F 1 w))), .int (nI (F 2 (F 1 w))), .ref (F 3 (F 1 w)), .ref ((up2 F 4 w 1) 4 (F 1 w))])) ∈ wup ws w (.inr (2, [.int (nI (F 0 w)), .ref (F 1 w), .ref (F 2 w), .int (nI (F 3 w)), .int (nI 1), .int (nI (F 5 w)), .int (nI (F 6 w))])) := hC.at hk_3 (by decide) (by decide)
  refine c_get (C := RX5) (T := TX5) (N := 5) hx hb hts hin_X5 hown hK hP hm_4 rfl 4 (by decide) l_286 (fun _ h9 => h9) rfl dX8_sendBack_9 ?_
  have hk_5 : kd ((up2 F 4 w 1) 4 (F 1 w)) = 24 := hW.ref (f := 4) hk_3 rfl (by decide)
  have hl_6 : (L ((up2 F 4 w 1) 4 (F 1 w))).length ≤ 60 := hW.len hk_5 (by decide)
  rw [show (up2 F 4 w 1) 4 (F 1 w) = F 4 (F 1 w) from up2_ne hne]
  refine lv_aload_n hx hb dX8_sendBack_12 rfl (lv_at hl 2 rfl) ?_
  obtain ⟨fs_hm_7, hm_7⟩ := hC.obj hk4 (by decide)
  refine va_calli (va_runV (As := [.ref y]) (rest := []) ⟨hx, hb, hml, hown, hts⟩ (cl_add l D cI cO cb eA mi st (wup ws w (.inr (2, [.int (nI (F 0 w)), .ref (F 1 w), .ref (F 2 w), .int (nI (F 3 w)), .int (nI 1), .int (nI (F 5 w)), .int (nI (F 6 w))]))) hD (F 4 (F 1 w)) (L (F 4 (F 1 w))) y (hC.lst hk4 (by decide)) (hC.els hW hk4 (by decide)) (hC.elt (by rw [hk_y]; decide) (by rw [hk_y]; decide)) (by omega)) (cwV 1 hts gX8_sendBack_Jx4a65c_add_9ea2d rfl rfl rfl kd_Jx4a65c_add_9ea2d ⟨Nat.le_of_ble_eq_true rfl, Nat.le_of_ble_eq_true rfl⟩) ⟨cB_blind, c_recv hK hP rfl hm_7, cB_pre hK hG hA hS hP _⟩ rfl rfl hl.1 rfl (lv_room (Nat.le_of_ble_eq_true rfl)) dX8_sendBack_13 ⟨Nat.le_of_ble_eq_true rfl, Nat.le_of_ble_eq_true rfl⟩) hS (fun _ _ h => h) (fun _ h => h) (fun ri u U8 H1 locs1 ht hvm hu hB hz1 hk1 hS1 => ?_)
  obtain ⟨hri, hu1, hu2, hD⟩ := hu
  subst hri
  rw [ht] at hB
  clear hS
  have hS := hS1
  replace hP := hB
  generalize H1 = H at hP hS ⊢
  have hC := hC.setL hu2 hu1
  have hW := hW.setL hk4 (show (L (F 4 (F 1 w)) ++ [y]).length ≤ 60 by rw [List.length_append]; show _ + 1 ≤ 60; omega) (els_add (fun x9 h9 => by rw [(hW.2.2 _ (by rw [hk4]; decide)).2.2.2 x9 h9]; exact hk4) (by rw [hk_y]))
  refine lv_pop hx hb dX8_sendBack_16 rfl ?_
  refine lv_aload_n hx hb dX8_sendBack_17 rfl (lv_at hl 1 rfl) ?_
  have hm_8 : (w, .inr (2, [.int (nI (F 0 w)), .ref (F 1 w), .ref (F 2 w), .int (nI (F 3 w)), .int (nI ((up2 F 4 w 1) 4 w)), .int (nI (F 5 w)), .int (nI (F 6 w))])) ∈ u.1 := hC.at hk_w (by decide) (by decide)
  refine c_get (C := RX0) (T := TX0) (N := 7) hx hb hts hin_X0 hown hK hP hm_8 rfl 1 (by decide) l_251 (fun _ h9 => h9) rfl dX8_sendBack_18 ?_
  refine lv_aload_n hx hb dX8_sendBack_21 rfl (lv_at hl 2 rfl) ?_
  have hm_10 : (F 1 w, .inr (7, [.ref (F 0 (F 1 w)), .int (nI (F 1 (F 1 w))), .int (nI (F 2 (F 1 w))), .ref (F 3 (F 1 w)), .ref ((up2 F 4 w 1) 4 (F 1 w))])) ∈ u.1 := hC.at hk_3 (by decide) (by decide)
  refine va_callv (va_runV (As := [.ref y]) (rest := []) ⟨hx, hb, hml, hown, hts⟩ (cv_follow l D cI cO cb eA mi st u.1 hD hC hW hs (F 1 w) hk_3 y hk_y) (cwV 1 hts gX8_sendBack_X5_follow rfl rfl rfl kd_X5_follow ⟨Nat.le_of_ble_eq_true rfl, Nat.le_of_ble_eq_true rfl⟩) ⟨cB_blind, c_recv hK hP rfl hm_10, cB_pre hK hG hA hS hP _⟩ rfl rfl hl.1 rfl (lv_room (Nat.le_of_ble_eq_true rfl)) dX8_sendBack_22 ⟨Nat.le_of_ble_eq_true rfl, Nat.le_of_ble_eq_true rfl⟩) hS (fun _ _ h => h) (fun _ h => h) (fun uw_9 U8 H1 locs1 ht hvm hu hB hz1 hk1 hS1 => ?_)
  obtain ⟨hC, hW, hD⟩ := hu
  rw [ht] at hB
  clear hS
  have hS := hS1
  replace hP := hB
  generalize H1 = H at hP hS ⊢
  refine lv_aload_n hx hb dX8_sendBack_25 rfl (lv_at hl 0 rfl) ?_
  refine lv_aload_n hx hb dX8_sendBack_26 rfl (lv_at hl 1 rfl) ?_
  have hm_11 : (w, .inr (2, [.int (nI ((kFollow (up2 F 4 w 1) (upL L (F 4 (F 1 w)) (L (F 4 (F 1 w)) ++ [y])) (F 1 w) y) 0 w)), .ref ((kFollow (up2 F 4 w 1) (upL L (F 4 (F 1 w)) (L (F 4 (F 1 w)) ++ [y])) (F 1 w) y) 1 w), .ref ((kFollow (up2 F 4 w 1) (upL L (F 4 (F 1 w)) (L (F 4 (F 1 w)) ++ [y])) (F 1 w) y) 2 w), .int (nI ((kFollow (up2 F 4 w 1) (upL L (F 4 (F 1 w)) (L (F 4 (F 1 w)) ++ [y])) (F 1 w) y) 3 w)), .int (nI ((kFollow (up2 F 4 w 1) (upL L (F 4 (F 1 w)) (L (F 4 (F 1 w)) ++ [y])) (F 1 w) y) 4 w)), .int (nI ((kFollow (up2 F 4 w 1) (upL L (F 4 (F 1 w)) (L (F 4 (F 1 w)) ++ [y])) (F 1 w) y) 5 w)), .int (nI ((kFollow (up2 F 4 w 1) (upL L (F 4 (F 1 w)) (L (F 4 (F 1 w)) ++ [y])) (F 1 w) y) 6 w))])) ∈ uw_9 := hC.at hk_w (by decide) (by decide)
  refine c_get (C := RX0) (T := TX0) (N := 7) hx hb hts hin_X0 hown hK hP hm_11 rfl 1 (by decide) l_251 (fun _ h9 => h9) rfl dX8_sendBack_27 ?_
  have hk_12 : kd ((kFollow (up2 F 4 w 1) (upL L (F 4 (F 1 w)) (L (F 4 (F 1 w)) ++ [y])) (F 1 w) y) 1 w) = 7 := hW.ref (f := 1) hk_w rfl (by decide)
  rw [show (kFollow (up2 F 4 w 1) (upL L (F 4 (F 1 w)) (L (F 4 (F 1 w)) ++ [y])) (F 1 w) y) 1 w = F 1 w from (kFollow_nf (by decide) (by decide)).trans (up2_nf (by decide))]
  have hm_13 : (h, .inr (9, [.ref ((kFollow (up2 F 4 w 1) (upL L (F 4 (F 1 w)) (L (F 4 (F 1 w)) ++ [y])) (F 1 w) y) 0 h), .ref ((kFollow (up2 F 4 w 1) (upL L (F 4 (F 1 w)) (L (F 4 (F 1 w)) ++ [y])) (F 1 w) y) 1 h), .ref ((kFollow (up2 F 4 w 1) (upL L (F 4 (F 1 w)) (L (F 4 (F 1 w)) ++ [y])) (F 1 w) y) 2 h), .ref ((kFollow (up2 F 4 w 1) (upL L (F 4 (F 1 w)) (L (F 4 (F 1 w)) ++ [y])) (F 1 w) y) 3 h), .ref ((kFollow (up2 F 4 w 1) (upL L (F 4 (F 1 w)) (L (F 4 (F 1 w)) ++ [y])) (F 1 w) y) 4 h), .int (nI ((kFollow (up2 F 4 w 1) (upL L (F 4 (F 1 w)) (L (F 4 (F 1 w)) ++ [y])) (F 1 w) y) 5 h))])) ∈ uw_9 := hC.at hk_h (by decide) (by decide)
  refine va_calli (va_runV (As := [.ref (F 1 w)]) (rest := []) ⟨hx, hb, hml, hown, hts⟩ (cv_awardToBest l D cI cO cb eA mi st uw_9 hD hC hW hs h hk_h (F 1 w) hk_3 (by rw [kFollow_nf (by decide) (by decide), up2_nf (by decide), upL_ne (fun e9 => absurd ((hk2.symm.trans (congrArg kd e9)).trans hk4) (by decide))]; exact hlen)) (cwV 1 hts gX8_sendBack_X8_awardToBest rfl rfl rfl kd_X8_awardToBest ⟨Nat.le_of_ble_eq_true rfl, Nat.le_of_ble_eq_true rfl⟩) ⟨cB_blind, c_recv hK hP rfl hm_13, cB_pre hK hG hA hS hP _⟩ rfl rfl hl.1 rfl (lv_room (Nat.le_of_ble_eq_true rfl)) dX8_sendBack_30 ⟨Nat.le_of_ble_eq_true rfl, Nat.le_of_ble_eq_true rfl⟩) hS (fun _ _ h => h) (fun _ h => h) (fun ri u U8 H1 locs1 ht hvm hu hB hz1 hk1 hS1 => ?_)
  rw [ht] at hB
  clear hS
  have hS := hS1
  replace hP := hB
  generalize H1 = H at hP hS ⊢
  refine W.widen (k := 3) (n := 199) (by omega) (by omega) ?_
  exact W.iret (v := ri) hx hb hr (fun U9 ht hW9 => ⟨⟨_, u, rfl, ⟨_, hu⟩, by show va_P D vwCl _ U9.heap; rw [ht]; exact hP⟩, hS.F ht⟩) hS.2.2 dX8_sendBack_33
