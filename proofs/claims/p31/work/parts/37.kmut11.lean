/-! the class: rule -/
set_option maxHeartbeats 4000000 in
set_option maxRecDepth 100000 in
theorem cm_rule (l : Launch) (hst : l.stackTraces = false) (D : va_G) (cI cO cb : ClassId) (eA mi : Nat) (st : Nat → Nat) {A : Nat → Prop} (ws : va_W) (hD : va_D A ws) {own kd : Nat → Nat} {F : Nat → Nat → Nat} {L : Nat → List Nat} (hC : CW cI cO eA st own kd F L ws) (hW : WF kd F L) (hs : sInj st)  (h : Nat) (hk_h : kd h = 9) (i : Int32) (v : Bool) (qv : Int32) (hlen2 : kIx i (L (F 3 h)).length = 0 → F 3 (ga (L (F 3 h)) i) = 0 → (L (F 4 (F 1 (F 1 (ga (L (F 3 h)) i))))).length < 60) : vx_Met l yX8_rule wsX8_rule ({ frames := 10, cells := 6, slots := 214, locals := 261 }) (va_Pc [.ref h, .int i, .int (bi v), .int qv] (cB D cI cO cb eA mi st A ws)) (va_Qi (fun (ri : Int32) (u : va_W × (Nat → Nat) × Nat) => ks (kIx i (L (F 3 h)).length) (ks (kArg qv (nI 0) (nI 100)) (if F 3 (ga (L (F 3 h)) i) = 0 ∧ (v = false ∨ (L (F 2 h)).length < 60) then 0 else 3)) = 0 ∧ (if v = true then pUp cI cO eA st kd F L A h (ga (L (F 3 h)) i) qv.toNatClampNeg ri u else ri = -1 ∧ CW cI cO eA st own kd (up2 (up2 F 3 (ga (L (F 3 h)) i) 2) 4 (ga (L (F 3 h)) i) (F 5 h)) L u.1 ∧ WF kd (up2 (up2 F 3 (ga (L (F 3 h)) i) 2) 4 (ga (L (F 3 h)) i) (F 5 h)) L ∧ va_D A u.1)) (fun u U9 => va_P D vwCl u.1 U9.heap) A) (XK D ws A (ks (kIx i (L (F 3 h)).length) (ks (kArg qv (nI 0) (nI 100)) (if F 3 (ga (L (F 3 h)) i) = 0 ∧ (v = false ∨ (L (F 2 h)).length < 60) then 0 else 3)))) 6 214 A := by
  refine vx_ofW (cc := cX8_rule) (maxL := 5) (ret := (some .int)) (by decide) rfl ?_
  intro p e s m args below meth c s₁ B hml htab hv
  obtain ⟨rfl, hP, hK, hG, hA⟩ := hv
  have hx := B.exec
  have hb := B.bytes
  have hr := B.returns
  have hts := atoms_spec (ws := wsX8_rule) B.pre
  have hown : s.vm.findClass RX8 = some m.cls := findClass_of_methodNamed B.named
  have hlocks := B.notSynchronized
  have hin_X3 : ∀ w ∈ wsX30, w ∈ wsX8_rule := fun w h => List.mem_cons_of_mem _ (List.mem_append_left _ (List.mem_append_left _ (List.mem_append_left _ (List.mem_append_left _ (List.mem_append_left _ (List.mem_append_left _ (List.mem_append_left _ (List.mem_append_left _ (List.mem_append_left _ (List.mem_append_left _ (List.mem_append_right _ h)))))))))))
  have hin_X8 : ∀ w ∈ wsX80, w ∈ wsX8_rule := fun w h => List.mem_cons_of_mem _ (List.mem_append_left _ (List.mem_append_left _ (List.mem_append_left _ (List.mem_append_left _ (List.mem_append_left _ (List.mem_append_left _ (List.mem_append_left _ (List.mem_append_left _ (List.mem_append_left _ (List.mem_append_right _ h))))))))))
  have l_200 := (hts (.fieldLink RX8 200 "TenderHall$Complaint" "state" "I") (List.mem_of_getElem? (i := 5) rfl))
  have l_29 := (hts (.fieldLink RX8 29 "TenderHall" "day" "I") (List.mem_of_getElem? (i := 7) rfl))
  have l_207 := (hts (.fieldLink RX8 207 "TenderHall$Complaint" "dismissedOn" "I") (List.mem_of_getElem? (i := 8) rfl))
  have l_20 := (hts (.fieldLink RX8 20 "TenderHall" "awards" "Ljava/util/ArrayList;") (List.mem_of_getElem? (i := 6) rfl))
  have hS : va_S A s.heap s.heap [] := va_S.rf
  have hD0 := hD
  have hl := lv_entry ([.ref h, .int i, .int (bi v), .int qv]) (n := 5) (Nat.le_of_ble_eq_true rfl)
  rw [lg_entry_eq]
  generalize (lg_sl ([.ref h, .int i, .int (bi v), .int qv]) ++ List.replicate (5 - (lg_sl ([.ref h, .int i, .int (bi v), .int qv])).length) Slot.unset).toArray = ls at hl ⊢
  have hl : lv_has ls 5 [(0, .ref h), (1, .int i), (2, .int (bi v)), (3, .int qv)] := hl
  refine lv_aload_n hx hb dX8_rule_0 rfl (lv_at hl 0 rfl) ?_
  refine lv_iload_n hx hb dX8_rule_1 rfl (lv_at hl 1 rfl) ?_
  have hm_1 : (h, .inr (9, [.ref (F 0 h), .ref (F 1 h), .ref (F 2 h), .ref (F 3 h), .ref (F 4 h), .int (nI (F 5 h))])) ∈ ws := hC.at hk_h (by decide) (by decide)
  refine vx_callr (vx_runV (As := [.int i]) (rest := []) ⟨hx, hb, hml, hown, hts⟩ (cx_complaintAt l hst D cI cO cb eA mi st ws hD hC hW hs h hk_h i) (cwV 1 hts gX8_rule_X8_complaintAt rfl rfl rfl kd_X8_complaintAt ⟨Nat.le_of_ble_eq_true rfl, Nat.le_of_ble_eq_true rfl⟩) ⟨cB_blind, c_recv hK hP rfl hm_1, cB_pre hK hG hA hS hP _⟩ rfl rfl hl.1 rfl (lv_room (Nat.le_of_ble_eq_true rfl)) dX8_rule_2 ⟨Nat.le_of_ble_eq_true rfl, Nat.le_of_ble_eq_true rfl⟩) hS (fun _ _ h => h) (fun _ h => h) (fun _ _ h => h) (fun E9 ce9 q9 u U8 H1 locs1 ht hvm hu hB hz1 hk1 hS1 hc1 hc2 hc3 => ?_) (fun u ra U8 H1 locs1 ht hvm hu hB hz1 hk1 hS1 => ?_)
  · obtain ⟨hB1, hB2, hB3⟩ := hB
    rw [ht] at hB3
    have hkx : ks (kIx i (L (F 3 h)).length) (ks (kArg qv (nI 0) (nI 100)) (if F 3 (ga (L (F 3 h)) i) = 0 ∧ (v = false ∨ (L (F 2 h)).length < 60) then 0 else 3)) = (kIx i (L (F 3 h)).length) := by exact ks_l hB2
    exact vx_out (fun z9 h9 => (htab z9 h9).elim) hlocks hc1 hc2 hc3 (fun t9 g1 g2 => ⟨(), trivial, ⟨by rw [hkx]; exact hB1, by rw [hkx]; exact hB2, by rw [g1]; exact hB3⟩, hS1.F g1⟩) hS1.2.2 (Nat.le_of_ble_eq_true rfl) (Nat.le_of_ble_eq_true rfl)
  · have hk0_2 : (kIx i (L (F 3 h)).length) = 0 := hu
    obtain ⟨hra, hB2⟩ := hB
    subst hra
    replace hB2 : va_P D vwCl ws U8.heap := hB2
    rw [ht] at hB2
    clear hS
    have hS := hS1
    replace hP := hB2
    generalize H1 = H at hP hS ⊢
    have hk_3 : kd (ga (L (F 3 h)) i) = 5 := hW.ela (hW.ref hk_h rfl (by decide)) hk0_2
    refine lv_astore (lv' := [(4, .ref (ga (L (F 3 h)) i)), (0, .ref h), (1, .int i), (2, .int (bi v)), (3, .int qv)]) hx hb dX8_rule_5 hl (by decide) rfl (fun ls hl => ?_)
    refine lv_iload_n hx hb dX8_rule_7 rfl (lv_at hl 4 rfl) ?_
    refine lv_iconst (v := nI 0) hx hb dX8_rule_8 (by decide) ?_
    refine lv_bipush (v := nI 100) hx hb dX8_rule_9 (by decide) ?_
    refine vp_callSi (W.runS (As := [.int qv, .int (nI 0), .int (nI 100)]) (rest := []) ⟨hx, hb, hml, hown, hts⟩ (ck_isOutside l qv (nI 0) (nI 100)) (va_cwS 3 hts gX8_rule_X8_isOutside rfl rfl rfl kd_X8_isOutside ⟨Nat.le_of_ble_eq_true rfl, Nat.le_of_ble_eq_true rfl⟩) ⟨fun _ _ _ _ q => q, fun U hU hW => ⟨rfl, trivial⟩⟩ rfl rfl hl.1 rfl (lv_room (Nat.le_of_ble_eq_true rfl)) dX8_rule_11 ⟨Nat.le_of_ble_eq_true rfl, Nat.le_of_ble_eq_true rfl⟩) (fun r_4 hr_4 => ?_)
    subst hr_4
    refine b_if_eq (tgt := 25) hx hb dX8_rule_14 (by decide)  (fun c_5 => ?_) (fun c_5 => ?_)
    · have dd_c_5 := of_decide_eq_false c_5
      obtain ⟨x, hlo_x, hhi_x, rfl⟩ := out_nat (by decide) (by decide) dd_c_5
      have hcl_x : (nI x).toNatClampNeg = x := nI_clamp (by omega)
      rw [hcl_x]
      refine lv_aload hx hb dX8_rule_25 (lv_at hl 0 rfl) ?_
      have hm_6 : (ga (L (F 3 h)) i, .inr (5, [.int (nI (F 0 (ga (L (F 3 h)) i))), .ref (F 1 (ga (L (F 3 h)) i)), .int (nI (F 2 (ga (L (F 3 h)) i))), .int (nI (F 3 (ga (L (F 3 h)) i))), .int (nI (F 4 (ga (L (F 3 h)) i))), .int (nI (F 5 (ga (L (F 3 h)) i)))])) ∈ ws := hC.at hk_3 (by decide) (by decide)
      refine c_get (C := RX3) (T := TX3) (N := 6) hx hb hts hin_X3 hown hK hP hm_6 rfl 3 (by decide) l_200 (fun _ h9 => h9) rfl dX8_rule_27 ?_
      have hn_7 : F 3 (ga (L (F 3 h)) i) < 4 := hW.num (f := 3) hk_3 rfl (by decide)
      refine n_if_ne (tgt := 49) hx hb dX8_rule_30 (by decide) (by omega) (fun c_8 => ?_) (fun c_8 => ?_)
      · have hkx : ks (kIx i (L (F 3 h)).length) (ks (kArg (nI x) (nI 0) (nI 100)) (if F 3 (ga (L (F 3 h)) i) = 0 ∧ (v = false ∨ (L (F 2 h)).length < 60) then 0 else 3)) = 3 := by exact (ks_r hk0_2).trans ((ks_r (if_neg dd_c_5)).trans (if_neg (by rintro ⟨q1, q2 | q2⟩ <;> first | omega | exact absurd (q2.symm.trans (by assumption : v = true)) (by decide))))
        exact vx_throw0 (A := A) (own := RX8) (cls := "java/lang/IllegalStateException") (names := ["java/lang/RuntimeException", "java/lang/Exception"]) (ik := 44) (ic := 46) hx hb hst hown (by decide +kernel) (by decide +kernel) (hts (.classLink RX8 44 "java/lang/IllegalStateException") (List.mem_of_getElem? (i := 3) rfl)) (hts (.initialized "java/lang/IllegalStateException") (List.mem_of_getElem? (i := 4) rfl)) (vx_hat (L := vx_at0 RX8 46 "java/lang/IllegalStateException" ["java/lang/RuntimeException", "java/lang/Exception"]) (fun w9 h9 => hts w9 (List.mem_cons_of_mem _ (List.mem_append_left _ (List.mem_append_right _ h9)))) gB3 (gB_of (by decide +kernel) hG.2.2.2.2.2.2.1)) (by decide +kernel) hG.1 hG.2.1 hS (hl.1.trans hml.symm) dX8_rule_49 dX8_rule_52 dX8_rule_53 dX8_rule_56 (fun z9 h9 => (htab z9 h9).elim) (by decide) (Nat.le_of_ble_eq_true rfl) (Nat.le_of_ble_eq_true rfl) (Nat.le_of_ble_eq_true rfl) hlocks (fun t9 _ g2 g3 => ⟨(), trivial, ⟨by rw [hkx]; rfl, by rw [hkx]; decide, (x_keep hS hP g2 g3).1⟩, (x_keep hS hP g2 g3).2⟩) hS.2.2 (Nat.le_of_ble_eq_true rfl) (Nat.le_of_ble_eq_true rfl)
      · refine lv_iload_n hx hb dX8_rule_33 rfl (lv_at hl 3 rfl) ?_
        refine b_if_eq (tgt := 57) hx hb dX8_rule_34 (by decide)  (fun c_9 => ?_) (fun c_9 => ?_)
        · refine lv_iload_n hx hb dX8_rule_57 rfl (lv_at hl 3 rfl) ?_
          refine b_if_eq (tgt := 69) hx hb dX8_rule_58 (by decide) (fun _ => ?_) (fun c9 => absurd (c_9.symm.trans c9) (by decide))
          refine lv_aload hx hb dX8_rule_69 (lv_at hl 0 rfl) ?_
          refine lv_iconst (v := nI 2) hx hb dX8_rule_71 (by decide) ?_
          have hC9 := hC.put (f := 3) (v := 2) (x := .inr (5, [.int (nI (F 0 (ga (L (F 3 h)) i))), .ref (F 1 (ga (L (F 3 h)) i)), .int (nI (F 2 (ga (L (F 3 h)) i))), .int (nI 2), .int (nI (F 4 (ga (L (F 3 h)) i))), .int (nI (F 5 (ga (L (F 3 h)) i)))])) hD hk_3 (by decide) (by decide) (by simp [ent, up2])
          have hW9 := hW.put (f := 3) (v := 2) hk_3 (Or.inr (by show 2 < 4; omega)) (Or.inl rfl)
          refine c_put (C := RX3) (T := TX3) (N := 6) (v := .int (nI 2)) (ty := .int) (fs2 := [.int (nI (F 0 (ga (L (F 3 h)) i))), .ref (F 1 (ga (L (F 3 h)) i)), .int (nI (F 2 (ga (L (F 3 h)) i))), .int (nI 2), .int (nI (F 4 (ga (L (F 3 h)) i))), .int (nI (F 5 (ga (L (F 3 h)) i)))]) hx hb hts hin_X3 tyX3 tyX3_ok nmX3 hown hK hP hD hS hm_6 rfl 3 (by decide) l_200 (fun _ h9 => h9) rfl (by decide +kernel) rfl rfl (Nat.le_of_ble_eq_true rfl) rfl dX8_rule_72 (fun H locs hP hD hS => ?_)
          replace hC := hC9
          replace hW := hW9
          clear hC9 hW9
          refine lv_aload hx hb dX8_rule_75 (lv_at hl 0 rfl) ?_
          refine lv_aload_n hx hb dX8_rule_77 rfl (lv_at hl 1 rfl) ?_
          have hm_10 : (h, .inr (9, [.ref (F 0 h), .ref (F 1 h), .ref (F 2 h), .ref ((up2 F 3 (ga (L (F 3 h)) i) 2) 3 h), .ref (F 4 h), .int (nI (F 5 h))])) ∈ wup ws (ga (L (F 3 h)) i) (.inr (5, [.int (nI (F 0 (ga (L (F 3 h)) i))), .ref (F 1 (ga (L (F 3 h)) i)), .int (nI (F 2 (ga (L (F 3 h)) i))), .int (nI 2), .int (nI (F 4 (ga (L (F 3 h)) i))), .int (nI (F 5 (ga (L (F 3 h)) i)))])) := hC.at hk_h (by decide) (by decide)
          refine c_get (C := RX8) (T := TX8) (N := 6) hx hb hts hin_X8 hown hK hP hm_10 rfl 5 (by decide) l_29 (fun _ h9 => h9) rfl dX8_rule_78 ?_
          have hn_11 : F 5 h < 2001 := hW.num (f := 5) hk_h rfl (by decide)
          have hm_12 : (ga (L (F 3 h)) i, .inr (5, [.int (nI (F 0 (ga (L (F 3 h)) i))), .ref (F 1 (ga (L (F 3 h)) i)), .int (nI (F 2 (ga (L (F 3 h)) i))), .int (nI ((up2 F 3 (ga (L (F 3 h)) i) 2) 3 (ga (L (F 3 h)) i))), .int (nI (F 4 (ga (L (F 3 h)) i))), .int (nI (F 5 (ga (L (F 3 h)) i)))])) ∈ wup ws (ga (L (F 3 h)) i) (.inr (5, [.int (nI (F 0 (ga (L (F 3 h)) i))), .ref (F 1 (ga (L (F 3 h)) i)), .int (nI (F 2 (ga (L (F 3 h)) i))), .int (nI 2), .int (nI (F 4 (ga (L (F 3 h)) i))), .int (nI (F 5 (ga (L (F 3 h)) i)))])) := hC.at hk_3 (by decide) (by decide)
          have hC9 := hC.put (f := 4) (v := F 5 h) (x := .inr (5, [.int (nI (F 0 (ga (L (F 3 h)) i))), .ref (F 1 (ga (L (F 3 h)) i)), .int (nI (F 2 (ga (L (F 3 h)) i))), .int (nI ((up2 F 3 (ga (L (F 3 h)) i) 2) 3 (ga (L (F 3 h)) i))), .int (nI (F 5 h)), .int (nI (F 5 (ga (L (F 3 h)) i)))])) hD hk_3 (by decide) (by decide) (by simp [ent, up2])
          have hW9 := hW.put (f := 4) (v := F 5 h) hk_3 (Or.inr (by show F 5 h < 2001; omega)) (Or.inl rfl)
          refine c_put (C := RX3) (T := TX3) (N := 6) (v := .int (nI (F 5 h))) (ty := .int) (fs2 := [.int (nI (F 0 (ga (L (F 3 h)) i))), .ref (F 1 (ga (L (F 3 h)) i)), .int (nI (F 2 (ga (L (F 3 h)) i))), .int (nI ((up2 F 3 (ga (L (F 3 h)) i) 2) 3 (ga (L (F 3 h)) i))), .int (nI (F 5 h)), .int (nI (F 5 (ga (L (F 3 h)) i)))]) hx hb hts hin_X3 tyX3 tyX3_ok nmX3 hown hK hP hD hS hm_12 rfl 4 (by decide) l_207 (fun _ h9 => h9) rfl (by decide +kernel) rfl rfl (Nat.le_of_ble_eq_true rfl) rfl dX8_rule_81 (fun H locs hP hD hS => ?_)
          replace hC := hC9
          replace hW := hW9
          clear hC9 hW9
          refine lv_iconst (v := (-1)) hx hb dX8_rule_84 (by decide) ?_
          refine W.widen (k := 6) (n := 214) (by omega) (by omega) ?_
          refine vx_ret ?_
          have hk9 : ks (kIx i (L (F 3 h)).length) (ks (kArg (nI x) (nI 0) (nI 100)) (if F 3 (ga (L (F 3 h)) i) = 0 ∧ (v = false ∨ (L (F 2 h)).length < 60) then 0 else 3)) = 0 := by exact (ks_r hk0_2).trans ((ks_r (if_neg dd_c_5)).trans (if_pos ⟨by omega, by first | (left; assumption) | (right; omega)⟩))
          exact W.iret (v := (-1)) hx hb hr (fun U9 ht hW9 => ⟨⟨_, (wup (wup ws (ga (L (F 3 h)) i) (.inr (5, [.int (nI (F 0 (ga (L (F 3 h)) i))), .ref (F 1 (ga (L (F 3 h)) i)), .int (nI (F 2 (ga (L (F 3 h)) i))), .int (nI 2), .int (nI (F 4 (ga (L (F 3 h)) i))), .int (nI (F 5 (ga (L (F 3 h)) i)))]))) (ga (L (F 3 h)) i) (.inr (5, [.int (nI (F 0 (ga (L (F 3 h)) i))), .ref (F 1 (ga (L (F 3 h)) i)), .int (nI (F 2 (ga (L (F 3 h)) i))), .int (nI ((up2 F 3 (ga (L (F 3 h)) i) 2) 3 (ga (L (F 3 h)) i))), .int (nI (F 5 h)), .int (nI (F 5 (ga (L (F 3 h)) i)))])), own, 0), rfl, ⟨hk9, by rw [if_neg (by rw [show v = false by assumption]; decide)]; exact ⟨rfl, hC, hW, hD⟩⟩, by show va_P D vwCl _ U9.heap; rw [ht]; exact hP⟩, hS.F ht⟩) hS.2.2 dX8_rule_85
        · refine lv_aload_n hx hb dX8_rule_37 rfl (lv_at hl 1 rfl) ?_
          refine c_get (C := RX8) (T := TX8) (N := 6) hx hb hts hin_X8 hown hK hP hm_1 rfl 2 (by decide) l_20 (fun _ h9 => h9) rfl dX8_rule_38 ?_
          have hk_13 : kd (F 2 h) = 22 := hW.ref (f := 2) hk_h rfl (by decide)
          have hl_14 : (L (F 2 h)).length ≤ 60 := hW.len hk_13 (by decide)
          obtain ⟨fs_hm_15, hm_15⟩ := hC.obj hk_13 (by decide)
          refine vp_callSi (W.runV (As := []) (rest := []) ⟨hx, hb, hml, hown, hts⟩ ((cl_size l D cI cO cb eA mi st ws hD (F 2 h) (L (F 2 h)) (hC.lst hk_13 (by decide)))) (cwV 0 hts gX8_rule_Jx4a65c_size_8abf5 rfl rfl rfl kd_Jx4a65c_size_8abf5 ⟨Nat.le_of_ble_eq_true rfl, Nat.le_of_ble_eq_true rfl⟩) ⟨cB_blind, c_recv hK hP rfl hm_15, cB_pre hK hG hA hS hP _⟩ rfl rfl hl.1 rfl (lv_room (Nat.le_of_ble_eq_true rfl)) dX8_rule_41 ⟨Nat.le_of_ble_eq_true rfl, Nat.le_of_ble_eq_true rfl⟩) (fun r_16 hr_16 => ?_)
          subst hr_16
          refine lv_bipush (v := nI 60) hx hb dX8_rule_44 (by decide) ?_
          refine n_icmp_lt (tgt := 57) hx hb dX8_rule_46 (by decide) (by omega) (by decide) (fun c_17 => ?_) (fun c_17 => ?_)
          · refine lv_iload_n hx hb dX8_rule_57 rfl (lv_at hl 3 rfl) ?_
            refine b_if_eq (tgt := 69) hx hb dX8_rule_58 (by decide) (fun c9 => absurd (c_9.symm.trans c9) (by decide)) (fun _ => ?_)
            refine lv_aload_n hx hb dX8_rule_61 rfl (lv_at hl 1 rfl) ?_
            refine lv_aload hx hb dX8_rule_62 (lv_at hl 0 rfl) ?_
            refine lv_iload_n hx hb dX8_rule_64 rfl (lv_at hl 4 rfl) ?_
            refine va_calli (va_runV (As := [.ref (ga (L (F 3 h)) i), .int (nI x)]) (rest := []) ⟨hx, hb, hml, hown, hts⟩ (cv_uphold l D cI cO cb eA mi st ws hD hC hW hs h hk_h (ga (L (F 3 h)) i) hk_3 x (by omega) (by omega) (by exact hlen2 hk0_2 (by omega))) (cwV 2 hts gX8_rule_X8_uphold rfl rfl rfl kd_X8_uphold ⟨Nat.le_of_ble_eq_true rfl, Nat.le_of_ble_eq_true rfl⟩) ⟨cB_blind, c_recv hK hP rfl hm_1, cB_pre hK hG hA hS hP _⟩ rfl rfl hl.1 rfl (lv_room (Nat.le_of_ble_eq_true rfl)) dX8_rule_65 ⟨Nat.le_of_ble_eq_true rfl, Nat.le_of_ble_eq_true rfl⟩) hS (fun _ _ h => h) (fun _ h => h) (fun ri u U8 H1 locs1 ht hvm hu hB hz1 hk1 hS1 => ?_)
            rw [ht] at hB
            clear hS
            have hS := hS1
            replace hP := hB
            generalize H1 = H at hP hS ⊢
            refine W.widen (k := 6) (n := 214) (by omega) (by omega) ?_
            refine vx_ret ?_
            have hk9 : ks (kIx i (L (F 3 h)).length) (ks (kArg (nI x) (nI 0) (nI 100)) (if F 3 (ga (L (F 3 h)) i) = 0 ∧ (v = false ∨ (L (F 2 h)).length < 60) then 0 else 3)) = 0 := by exact (ks_r hk0_2).trans ((ks_r (if_neg dd_c_5)).trans (if_pos ⟨by omega, by first | (left; assumption) | (right; omega)⟩))
            exact W.iret (v := ri) hx hb hr (fun U9 ht hW9 => ⟨⟨_, u, rfl, ⟨hk9, by rw [if_pos (by assumption)]; exact hu⟩, by show va_P D vwCl _ U9.heap; rw [ht]; exact hP⟩, hS.F ht⟩) hS.2.2 dX8_rule_68
          · have hkx : ks (kIx i (L (F 3 h)).length) (ks (kArg (nI x) (nI 0) (nI 100)) (if F 3 (ga (L (F 3 h)) i) = 0 ∧ (v = false ∨ (L (F 2 h)).length < 60) then 0 else 3)) = 3 := by exact (ks_r hk0_2).trans ((ks_r (if_neg dd_c_5)).trans (if_neg (by rintro ⟨q1, q2 | q2⟩ <;> first | omega | exact absurd (q2.symm.trans (by assumption : v = true)) (by decide))))
            exact vx_throw0 (A := A) (own := RX8) (cls := "java/lang/IllegalStateException") (names := ["java/lang/RuntimeException", "java/lang/Exception"]) (ik := 44) (ic := 46) hx hb hst hown (by decide +kernel) (by decide +kernel) (hts (.classLink RX8 44 "java/lang/IllegalStateException") (List.mem_of_getElem? (i := 3) rfl)) (hts (.initialized "java/lang/IllegalStateException") (List.mem_of_getElem? (i := 4) rfl)) (vx_hat (L := vx_at0 RX8 46 "java/lang/IllegalStateException" ["java/lang/RuntimeException", "java/lang/Exception"]) (fun w9 h9 => hts w9 (List.mem_cons_of_mem _ (List.mem_append_left _ (List.mem_append_right _ h9)))) gB3 (gB_of (by decide +kernel) hG.2.2.2.2.2.2.1)) (by decide +kernel) hG.1 hG.2.1 hS (hl.1.trans hml.symm) dX8_rule_49 dX8_rule_52 dX8_rule_53 dX8_rule_56 (fun z9 h9 => (htab z9 h9).elim) (by decide) (Nat.le_of_ble_eq_true rfl) (Nat.le_of_ble_eq_true rfl) (Nat.le_of_ble_eq_true rfl) hlocks (fun t9 _ g2 g3 => ⟨(), trivial, ⟨by rw [hkx]; rfl, by rw [hkx]; decide, (x_keep hS hP g2 g3).1⟩, (x_keep hS hP g2 g3).2⟩) hS.2.2 (Nat.le_of_ble_eq_true rfl) (Nat.le_of_ble_eq_true rfl)
    · have dd_c_5 := of_decide_eq_true c_5
      have hkx : ks (kIx i (L (F 3 h)).length) (ks (kArg qv (nI 0) (nI 100)) (if F 3 (ga (L (F 3 h)) i) = 0 ∧ (v = false ∨ (L (F 2 h)).length < 60) then 0 else 3)) = 2 := by exact (ks_r hk0_2).trans ((ks_l (by rw [kArg, if_pos dd_c_5]; decide)).trans (if_pos dd_c_5))
      exact vx_throw0 (A := A) (own := RX8) (cls := "java/lang/IllegalArgumentException") (names := ["java/lang/RuntimeException", "java/lang/Exception"]) (ik := 37) (ic := 39) hx hb hst hown (by decide +kernel) (by decide +kernel) (hts (.classLink RX8 37 "java/lang/IllegalArgumentException") (List.mem_of_getElem? (i := 1) rfl)) (hts (.initialized "java/lang/IllegalArgumentException") (List.mem_of_getElem? (i := 2) rfl)) (vx_hat (L := vx_at0 RX8 39 "java/lang/IllegalArgumentException" ["java/lang/RuntimeException", "java/lang/Exception"]) (fun w9 h9 => hts w9 (List.mem_cons_of_mem _ (List.mem_append_left _ (List.mem_append_left _ (List.mem_append_right _ h9))))) gB2 (gB_of (by decide +kernel) hG.2.2.2.2.2.2.1)) (by decide +kernel) hG.1 hG.2.1 hS (hl.1.trans hml.symm) dX8_rule_17 dX8_rule_20 dX8_rule_21 dX8_rule_24 (fun z9 h9 => (htab z9 h9).elim) (by decide) (Nat.le_of_ble_eq_true rfl) (Nat.le_of_ble_eq_true rfl) (Nat.le_of_ble_eq_true rfl) hlocks (fun t9 _ g2 g3 => ⟨(), trivial, ⟨by rw [hkx]; rfl, by rw [hkx]; decide, (x_keep hS hP g2 g3).1⟩, (x_keep hS hP g2 g3).2⟩) hS.2.2 (Nat.le_of_ble_eq_true rfl) (Nat.le_of_ble_eq_true rfl)
