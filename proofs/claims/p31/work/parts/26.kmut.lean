/-! the class: calls that change it -/
theorem d_gtk {a b k : Nat} (ha : a < 2 ^ 29) (hb : b < 2 ^ 29) (hk : k < 2 ^ 29) : nI k < nI a - nI b ↔ b + k < a := by
  rw [Int32.lt_iff_toInt_lt, fb_subI9 (by rw [nI_toInt (by omega), nI_toInt (by omega)]; omega) (by rw [nI_toInt (by omega), nI_toInt (by omega)]; omega), nI_toInt (by omega), nI_toInt (by omega), nI_toInt (by omega)]
  omega
theorem out_nat {v : Int32} {lo hi : Nat} (hl : lo < 2 ^ 31) (hh : hi < 2 ^ 31) (h : ¬ (v < nI lo ∨ nI hi < v)) : ∃ x : Nat, lo ≤ x ∧ x ≤ hi ∧ v = nI x := by
  have h1 : ¬ v < nI lo := fun q => h (Or.inl q)
  have h2 : ¬ nI hi < v := fun q => h (Or.inr q)
  have h3 : ¬ v < 0 := by
    intro q
    exact h1 (Int32.lt_of_lt_of_le q (nI_pos' hl))
  obtain ⟨x, hx, rfl⟩ := nI_of h3
  exact ⟨x, by (by_cases q : lo ≤ x; (· exact q); (· exact absurd (nI_lt (by omega) hl) h1)), by (by_cases q : x ≤ hi; (· exact q); (· exact absurd (nI_lt (by omega) hx) h2)), rfl⟩
abbrev kArg (v lo hi : Int32) : Nat := if v < lo ∨ hi < v then 2 else 0
abbrev kCallC (F : Nat → Nat → Nat) (L : Nat → List Nat) (h w x : Nat) : Prop := F 4 (F 0 w) = 0 ∧ kOpen F L h (F 0 w) = 0 ∧ F 1 w + x ≤ F 1 (F 2 (F 0 w))
abbrev kAppC (F : Nat → Nat → Nat) (h w : Nat) : Prop := F 3 w = 2 ∧ F 5 w = 0 ∧ F 5 h ≤ F 4 w + 10 ∧ F 4 (F 1 w) = 0
abbrev gApp (F : Nat → Nat → Nat) (w : Nat) : Nat → Nat → Nat := up2 (up2 F 3 w 0) 5 w 1
set_option maxHeartbeats 4000000 in
set_option maxRecDepth 100000 in
theorem cm_appeal (l : Launch) (hst : l.stackTraces = false) (D : va_G) (cI cO cb : ClassId) (eA mi : Nat) (st : Nat → Nat) {A : Nat → Prop} (ws : va_W) (hD : va_D A ws) {own kd : Nat → Nat} {F : Nat → Nat → Nat} {L : Nat → List Nat} (hC : CW cI cO eA st own kd F L ws) (hW : WF kd F L) (hs : sInj st)  (h : Nat) (hk_h : kd h = 9) (i : Int32) : vx_Met l yX8_appeal wsX8_appeal ({ frames := 7, cells := 2, slots := 12, locals := 102 }) (va_Pc [.ref h, .int i] (cB D cI cO cb eA mi st A ws)) (va_Qi (fun (ri : Int32) (u : va_W) => ks (kIx i (L (F 3 h)).length) (if kAppC F h (ga (L (F 3 h)) i) then 0 else 3) = 0 ∧ ri = nI (kOpen (gApp F (ga (L (F 3 h)) i)) L h (F 1 (ga (L (F 3 h)) i))) ∧ CW cI cO eA st own kd (gApp F (ga (L (F 3 h)) i)) L u ∧ WF kd (gApp F (ga (L (F 3 h)) i)) L ∧ va_D A u) (fun u U9 => va_P D vwCl u U9.heap) A) (XK D ws A (ks (kIx i (L (F 3 h)).length) (if kAppC F h (ga (L (F 3 h)) i) then 0 else 3))) 2 12 A := by
  refine vx_ofW (cc := cX8_appeal) (maxL := 3) (ret := (some .int)) (by decide) rfl ?_
  intro p e s m args below meth c s₁ B hml htab hv
  obtain ⟨rfl, hP, hK, hG, hA⟩ := hv
  have hx := B.exec
  have hb := B.bytes
  have hr := B.returns
  have hts := atoms_spec (ws := wsX8_appeal) B.pre
  have hown : s.vm.findClass RX8 = some m.cls := findClass_of_methodNamed B.named
  have hlocks := B.notSynchronized
  have hin_X0 : ∀ w ∈ wsX00, w ∈ wsX8_appeal := fun w h => List.mem_cons_of_mem _ (List.mem_append_left _ (List.mem_append_left _ (List.mem_append_left _ (List.mem_append_right _ h))))
  have hin_X3 : ∀ w ∈ wsX30, w ∈ wsX8_appeal := fun w h => List.mem_cons_of_mem _ (List.mem_append_left _ (List.mem_append_left _ (List.mem_append_left _ (List.mem_append_left _ (List.mem_append_left _ (List.mem_append_right _ h))))))
  have hin_X8 : ∀ w ∈ wsX80, w ∈ wsX8_appeal := fun w h => List.mem_cons_of_mem _ (List.mem_append_left _ (List.mem_append_left _ (List.mem_append_left _ (List.mem_append_left _ (List.mem_append_right _ h)))))
  have l_200 := (hts (.fieldLink RX8 200 "TenderHall$Complaint" "state" "I") (List.mem_of_getElem? (i := 3) rfl))
  have l_210 := (hts (.fieldLink RX8 210 "TenderHall$Complaint" "wasAppealed" "Z") (List.mem_of_getElem? (i := 4) rfl))
  have l_29 := (hts (.fieldLink RX8 29 "TenderHall" "day" "I") (List.mem_of_getElem? (i := 5) rfl))
  have l_207 := (hts (.fieldLink RX8 207 "TenderHall$Complaint" "dismissedOn" "I") (List.mem_of_getElem? (i := 6) rfl))
  have l_213 := (hts (.fieldLink RX8 213 "TenderHall$Complaint" "award" "LTenderHall$Award;") (List.mem_of_getElem? (i := 7) rfl))
  have l_159 := (hts (.fieldLink RX8 159 "TenderHall$Award" "voided" "Z") (List.mem_of_getElem? (i := 8) rfl))
  have hS : va_S A s.heap s.heap [] := va_S.rf
  have hD0 := hD
  have hl := lv_entry ([.ref h, .int i]) (n := 3) (Nat.le_of_ble_eq_true rfl)
  rw [lg_entry_eq]
  generalize (lg_sl ([.ref h, .int i]) ++ List.replicate (3 - (lg_sl ([.ref h, .int i])).length) Slot.unset).toArray = ls at hl ⊢
  have hl : lv_has ls 3 [(0, .ref h), (1, .int i)] := hl
  refine lv_aload_n hx hb dX8_appeal_0 rfl (lv_at hl 0 rfl) ?_
  refine lv_iload_n hx hb dX8_appeal_1 rfl (lv_at hl 1 rfl) ?_
  have hm_1 : (h, .inr (9, [.ref (F 0 h), .ref (F 1 h), .ref (F 2 h), .ref (F 3 h), .ref (F 4 h), .int (nI (F 5 h))])) ∈ ws := hC.at hk_h (by decide) (by decide)
  refine vx_callr (vx_runV (As := [.int i]) (rest := []) ⟨hx, hb, hml, hown, hts⟩ (cx_complaintAt l hst D cI cO cb eA mi st ws hD hC hW hs h hk_h i) (cwV 1 hts gX8_appeal_X8_complaintAt rfl rfl rfl kd_X8_complaintAt ⟨Nat.le_of_ble_eq_true rfl, Nat.le_of_ble_eq_true rfl⟩) ⟨cB_blind, c_recv hK hP rfl hm_1, cB_pre hK hG hA hS hP _⟩ rfl rfl hl.1 rfl (lv_room (Nat.le_of_ble_eq_true rfl)) dX8_appeal_2 ⟨Nat.le_of_ble_eq_true rfl, Nat.le_of_ble_eq_true rfl⟩) hS (fun _ _ h => h) (fun _ h => h) (fun _ _ h => h) (fun E9 ce9 q9 u U8 H1 locs1 ht hvm hu hB hz1 hk1 hS1 hc1 hc2 hc3 => ?_) (fun u ra U8 H1 locs1 ht hvm hu hB hz1 hk1 hS1 => ?_)
  · obtain ⟨hB1, hB2, hB3⟩ := hB
    rw [ht] at hB3
    have hkx : ks (kIx i (L (F 3 h)).length) (if kAppC F h (ga (L (F 3 h)) i) then 0 else 3) = (kIx i (L (F 3 h)).length) := by exact ks_l hB2
    exact vx_out (fun z9 h9 => (htab z9 h9).elim) hlocks hc1 hc2 hc3 (fun t9 g1 g2 => ⟨(), trivial, ⟨by rw [hkx]; exact hB1, by rw [hkx]; exact hB2, by rw [g1]; exact hB3⟩, hS1.F g1⟩) hS1.2.2 (Nat.le_of_ble_eq_true rfl) (Nat.le_of_ble_eq_true rfl)
  · have hk0_2 : (kIx i (L (F 3 h)).length) = 0 := hu
    obtain ⟨hra, hB2⟩ := hB
    subst hra
    replace hB2 : va_P D vwCl ws U8.heap := hB2
    rw [ht] at hB2
    clear hS
    have hS := hS1
    replace hP := hB2
    generalize H1 = H at hP hS ⊢
    have hk_3 : kd (ga (L (F 3 h)) i) = 5 := hW.ela (hW.ref hk_h rfl (by decide)) hk0_2
    refine lv_astore_n (lv' := [(2, .ref (ga (L (F 3 h)) i)), (0, .ref h), (1, .int i)]) hx hb dX8_appeal_5 rfl hl (by decide) rfl (fun ls hl => ?_)
    refine lv_aload_n hx hb dX8_appeal_6 rfl (lv_at hl 0 rfl) ?_
    have hm_4 : (ga (L (F 3 h)) i, .inr (5, [.int (nI (F 0 (ga (L (F 3 h)) i))), .ref (F 1 (ga (L (F 3 h)) i)), .int (nI (F 2 (ga (L (F 3 h)) i))), .int (nI (F 3 (ga (L (F 3 h)) i))), .int (nI (F 4 (ga (L (F 3 h)) i))), .int (nI (F 5 (ga (L (F 3 h)) i)))])) ∈ ws := hC.at hk_3 (by decide) (by decide)
    refine c_get (C := RX3) (T := TX3) (N := 6) hx hb hts hin_X3 hown hK hP hm_4 rfl 3 (by decide) l_200 (fun _ h9 => h9) rfl dX8_appeal_7 ?_
    have hn_5 : F 3 (ga (L (F 3 h)) i) < 4 := hW.num hk_3 rfl (by decide)
    refine lv_iconst (v := nI 2) hx hb dX8_appeal_10 (by decide) ?_
    refine n_icmp_ne (tgt := 45) hx hb dX8_appeal_11 (by decide) (by omega) (by decide) (fun c_6 => ?_) (fun c_6 => ?_)
    · have hkx : ks (kIx i (L (F 3 h)).length) (if kAppC F h (ga (L (F 3 h)) i) then 0 else 3) = 3 := by exact (ks_r hk0_2).trans (if_neg (by rintro ⟨q1, q2, q3, q4⟩; omega))
      exact vx_throw0 (A := A) (own := RX8) (cls := "java/lang/IllegalStateException") (names := ["java/lang/RuntimeException", "java/lang/Exception"]) (ik := 44) (ic := 46) hx hb hst hown (by decide +kernel) (by decide +kernel) (hts (.classLink RX8 44 "java/lang/IllegalStateException") (List.mem_of_getElem? (i := 1) rfl)) (hts (.initialized "java/lang/IllegalStateException") (List.mem_of_getElem? (i := 2) rfl)) (vx_hat (L := vx_at0 RX8 46 "java/lang/IllegalStateException" ["java/lang/RuntimeException", "java/lang/Exception"]) (fun w9 h9 => hts w9 (List.mem_cons_of_mem _ (List.mem_append_left _ (List.mem_append_right _ h9)))) gB3 (gB_of (by decide +kernel) hG.2.2.2.2.2.2.1)) (by decide +kernel) hG.1 hG.2.1 hS (hl.1.trans hml.symm) dX8_appeal_45 dX8_appeal_48 dX8_appeal_49 dX8_appeal_52 (fun z9 h9 => (htab z9 h9).elim) (by decide) (Nat.le_of_ble_eq_true rfl) (Nat.le_of_ble_eq_true rfl) (Nat.le_of_ble_eq_true rfl) hlocks (fun t9 _ g2 g3 => ⟨(), trivial, ⟨by rw [hkx]; rfl, by rw [hkx]; decide, (x_keep hS hP g2 g3).1⟩, (x_keep hS hP g2 g3).2⟩) hS.2.2 (Nat.le_of_ble_eq_true rfl) (Nat.le_of_ble_eq_true rfl)
    · refine lv_aload_n hx hb dX8_appeal_14 rfl (lv_at hl 0 rfl) ?_
      refine c_get (C := RX3) (T := TX3) (N := 6) hx hb hts hin_X3 hown hK hP hm_4 rfl 5 (by decide) l_210 (fun _ h9 => h9) rfl dX8_appeal_15 ?_
      have hn_7 : F 5 (ga (L (F 3 h)) i) < 2 := hW.num hk_3 rfl (by decide)
      refine n_if_ne (tgt := 45) hx hb dX8_appeal_18 (by decide) (by omega) (fun c_8 => ?_) (fun c_8 => ?_)
      · have hkx : ks (kIx i (L (F 3 h)).length) (if kAppC F h (ga (L (F 3 h)) i) then 0 else 3) = 3 := by exact (ks_r hk0_2).trans (if_neg (by rintro ⟨q1, q2, q3, q4⟩; omega))
        exact vx_throw0 (A := A) (own := RX8) (cls := "java/lang/IllegalStateException") (names := ["java/lang/RuntimeException", "java/lang/Exception"]) (ik := 44) (ic := 46) hx hb hst hown (by decide +kernel) (by decide +kernel) (hts (.classLink RX8 44 "java/lang/IllegalStateException") (List.mem_of_getElem? (i := 1) rfl)) (hts (.initialized "java/lang/IllegalStateException") (List.mem_of_getElem? (i := 2) rfl)) (vx_hat (L := vx_at0 RX8 46 "java/lang/IllegalStateException" ["java/lang/RuntimeException", "java/lang/Exception"]) (fun w9 h9 => hts w9 (List.mem_cons_of_mem _ (List.mem_append_left _ (List.mem_append_right _ h9)))) gB3 (gB_of (by decide +kernel) hG.2.2.2.2.2.2.1)) (by decide +kernel) hG.1 hG.2.1 hS (hl.1.trans hml.symm) dX8_appeal_45 dX8_appeal_48 dX8_appeal_49 dX8_appeal_52 (fun z9 h9 => (htab z9 h9).elim) (by decide) (Nat.le_of_ble_eq_true rfl) (Nat.le_of_ble_eq_true rfl) (Nat.le_of_ble_eq_true rfl) hlocks (fun t9 _ g2 g3 => ⟨(), trivial, ⟨by rw [hkx]; rfl, by rw [hkx]; decide, (x_keep hS hP g2 g3).1⟩, (x_keep hS hP g2 g3).2⟩) hS.2.2 (Nat.le_of_ble_eq_true rfl) (Nat.le_of_ble_eq_true rfl)
      · refine lv_aload_n hx hb dX8_appeal_21 rfl (lv_at hl 1 rfl) ?_
        refine c_get (C := RX8) (T := TX8) (N := 6) hx hb hts hin_X8 hown hK hP hm_1 rfl 5 (by decide) l_29 (fun _ h9 => h9) rfl dX8_appeal_22 ?_
        have hn_9 : F 5 h < 2001 := hW.num hk_h rfl (by decide)
        refine lv_aload_n hx hb dX8_appeal_25 rfl (lv_at hl 0 rfl) ?_
        refine c_get (C := RX3) (T := TX3) (N := 6) hx hb hts hin_X3 hown hK hP hm_4 rfl 4 (by decide) l_207 (fun _ h9 => h9) rfl dX8_appeal_26 ?_
        have hn_10 : F 4 (ga (L (F 3 h)) i) < 2001 := hW.num hk_3 rfl (by decide)
        refine lv_isub hx hb dX8_appeal_29 ?_
        refine lv_bipush (v := nI 10) hx hb dX8_appeal_30 (by decide) ?_
        refine lv_icmp_gt (tgt := 45) hx hb dX8_appeal_32 (by decide)  (fun c_11 => ?_) (fun c_11 => ?_)
        · rw [d_gtk (by omega) (by omega) (by omega)] at c_11
          have hkx : ks (kIx i (L (F 3 h)).length) (if kAppC F h (ga (L (F 3 h)) i) then 0 else 3) = 3 := by exact (ks_r hk0_2).trans (if_neg (by rintro ⟨q1, q2, q3, q4⟩; omega))
          exact vx_throw0 (A := A) (own := RX8) (cls := "java/lang/IllegalStateException") (names := ["java/lang/RuntimeException", "java/lang/Exception"]) (ik := 44) (ic := 46) hx hb hst hown (by decide +kernel) (by decide +kernel) (hts (.classLink RX8 44 "java/lang/IllegalStateException") (List.mem_of_getElem? (i := 1) rfl)) (hts (.initialized "java/lang/IllegalStateException") (List.mem_of_getElem? (i := 2) rfl)) (vx_hat (L := vx_at0 RX8 46 "java/lang/IllegalStateException" ["java/lang/RuntimeException", "java/lang/Exception"]) (fun w9 h9 => hts w9 (List.mem_cons_of_mem _ (List.mem_append_left _ (List.mem_append_right _ h9)))) gB3 (gB_of (by decide +kernel) hG.2.2.2.2.2.2.1)) (by decide +kernel) hG.1 hG.2.1 hS (hl.1.trans hml.symm) dX8_appeal_45 dX8_appeal_48 dX8_appeal_49 dX8_appeal_52 (fun z9 h9 => (htab z9 h9).elim) (by decide) (Nat.le_of_ble_eq_true rfl) (Nat.le_of_ble_eq_true rfl) (Nat.le_of_ble_eq_true rfl) hlocks (fun t9 _ g2 g3 => ⟨(), trivial, ⟨by rw [hkx]; rfl, by rw [hkx]; decide, (x_keep hS hP g2 g3).1⟩, (x_keep hS hP g2 g3).2⟩) hS.2.2 (Nat.le_of_ble_eq_true rfl) (Nat.le_of_ble_eq_true rfl)
        · rw [d_gtk (by omega) (by omega) (by omega)] at c_11
          refine lv_aload_n hx hb dX8_appeal_35 rfl (lv_at hl 0 rfl) ?_
          refine c_get (C := RX3) (T := TX3) (N := 6) hx hb hts hin_X3 hown hK hP hm_4 rfl 1 (by decide) l_213 (fun _ h9 => h9) rfl dX8_appeal_36 ?_
          have hk_12 : kd (F 1 (ga (L (F 3 h)) i)) = 2 := hW.ref hk_3 rfl (by decide)
          have hm_13 : (F 1 (ga (L (F 3 h)) i), .inr (2, [.int (nI (F 0 (F 1 (ga (L (F 3 h)) i)))), .ref (F 1 (F 1 (ga (L (F 3 h)) i))), .ref (F 2 (F 1 (ga (L (F 3 h)) i))), .int (nI (F 3 (F 1 (ga (L (F 3 h)) i)))), .int (nI (F 4 (F 1 (ga (L (F 3 h)) i)))), .int (nI (F 5 (F 1 (ga (L (F 3 h)) i)))), .int (nI (F 6 (F 1 (ga (L (F 3 h)) i))))])) ∈ ws := hC.at hk_12 (by decide) (by decide)
          refine c_get (C := RX0) (T := TX0) (N := 7) hx hb hts hin_X0 hown hK hP hm_13 rfl 4 (by decide) l_159 (fun _ h9 => h9) rfl dX8_appeal_39 ?_
          have hn_14 : F 4 (F 1 (ga (L (F 3 h)) i)) < 2 := hW.num hk_12 rfl (by decide)
          refine n_if_eq (tgt := 53) hx hb dX8_appeal_42 (by decide) (by omega) (fun c_15 => ?_) (fun c_15 => ?_)
          · refine lv_aload_n hx hb dX8_appeal_53 rfl (lv_at hl 0 rfl) ?_
            refine lv_iconst (v := nI 0) hx hb dX8_appeal_54 (by decide) ?_
            have hC9 := hC.put (f := 3) (v := 0) (x := .inr (5, [.int (nI (F 0 (ga (L (F 3 h)) i))), .ref (F 1 (ga (L (F 3 h)) i)), .int (nI (F 2 (ga (L (F 3 h)) i))), .int (nI 0), .int (nI (F 4 (ga (L (F 3 h)) i))), .int (nI (F 5 (ga (L (F 3 h)) i)))])) hD hk_3 (by decide) (by decide) (by simp [ent, up2])
            have hW9 := hW.put (f := 3) (v := 0) hk_3 (Or.inr (by show 0 < 4; omega)) (Or.inl rfl)
            refine c_put (C := RX3) (T := TX3) (N := 6) (v := .int (nI 0)) (ty := .int) (fs2 := [.int (nI (F 0 (ga (L (F 3 h)) i))), .ref (F 1 (ga (L (F 3 h)) i)), .int (nI (F 2 (ga (L (F 3 h)) i))), .int (nI 0), .int (nI (F 4 (ga (L (F 3 h)) i))), .int (nI (F 5 (ga (L (F 3 h)) i)))]) hx hb hts hin_X3 tyX3 tyX3_ok nmX3 hown hK hP hD hS hm_4 rfl 3 (by decide) l_200 (fun _ h9 => h9) rfl (by decide +kernel) rfl rfl (Nat.le_of_ble_eq_true rfl) rfl dX8_appeal_55 (fun H locs hP hD hS => ?_)
            replace hC := hC9
            replace hW := hW9
            clear hC9 hW9
            refine lv_aload_n hx hb dX8_appeal_58 rfl (lv_at hl 0 rfl) ?_
            refine lv_iconst (v := nI 1) hx hb dX8_appeal_59 (by decide) ?_
            have hm_16 : (ga (L (F 3 h)) i, .inr (5, [.int (nI (F 0 (ga (L (F 3 h)) i))), .ref (F 1 (ga (L (F 3 h)) i)), .int (nI (F 2 (ga (L (F 3 h)) i))), .int (nI ((up2 F 3 (ga (L (F 3 h)) i) 0) 3 (ga (L (F 3 h)) i))), .int (nI (F 4 (ga (L (F 3 h)) i))), .int (nI (F 5 (ga (L (F 3 h)) i)))])) ∈ wup ws (ga (L (F 3 h)) i) (.inr (5, [.int (nI (F 0 (ga (L (F 3 h)) i))), .ref (F 1 (ga (L (F 3 h)) i)), .int (nI (F 2 (ga (L (F 3 h)) i))), .int (nI 0), .int (nI (F 4 (ga (L (F 3 h)) i))), .int (nI (F 5 (ga (L (F 3 h)) i)))])) := hC.at hk_3 (by decide) (by decide)
            have hC9 := hC.put (f := 5) (v := 1) (x := .inr (5, [.int (nI (F 0 (ga (L (F 3 h)) i))), .ref (F 1 (ga (L (F 3 h)) i)), .int (nI (F 2 (ga (L (F 3 h)) i))), .int (nI ((up2 F 3 (ga (L (F 3 h)) i) 0) 3 (ga (L (F 3 h)) i))), .int (nI (F 4 (ga (L (F 3 h)) i))), .int (nI 1)])) hD hk_3 (by decide) (by decide) (by simp [ent, up2])
            have hW9 := hW.put (f := 5) (v := 1) hk_3 (Or.inr (by show 1 < 2; omega)) (Or.inl rfl)
            refine c_put (C := RX3) (T := TX3) (N := 6) (v := .int (nI 1)) (ty := .boolean) (fs2 := [.int (nI (F 0 (ga (L (F 3 h)) i))), .ref (F 1 (ga (L (F 3 h)) i)), .int (nI (F 2 (ga (L (F 3 h)) i))), .int (nI ((up2 F 3 (ga (L (F 3 h)) i) 0) 3 (ga (L (F 3 h)) i))), .int (nI (F 4 (ga (L (F 3 h)) i))), .int (nI 1)]) hx hb hts hin_X3 tyX3 tyX3_ok nmX3 hown hK hP hD hS hm_16 rfl 5 (by decide) l_210 (fun _ h9 => h9) rfl (by decide +kernel) rfl rfl (Nat.le_of_ble_eq_true rfl) rfl dX8_appeal_60 (fun H locs hP hD hS => ?_)
            replace hC := hC9
            replace hW := hW9
            clear hC9 hW9
            refine lv_aload_n hx hb dX8_appeal_63 rfl (lv_at hl 1 rfl) ?_
            refine lv_aload_n hx hb dX8_appeal_64 rfl (lv_at hl 0 rfl) ?_
            have hm_17 : (ga (L (F 3 h)) i, .inr (5, [.int (nI (F 0 (ga (L (F 3 h)) i))), .ref (F 1 (ga (L (F 3 h)) i)), .int (nI (F 2 (ga (L (F 3 h)) i))), .int (nI ((up2 F 3 (ga (L (F 3 h)) i) 0) 3 (ga (L (F 3 h)) i))), .int (nI (F 4 (ga (L (F 3 h)) i))), .int (nI ((up2 (up2 F 3 (ga (L (F 3 h)) i) 0) 5 (ga (L (F 3 h)) i) 1) 5 (ga (L (F 3 h)) i)))])) ∈ wup (wup ws (ga (L (F 3 h)) i) (.inr (5, [.int (nI (F 0 (ga (L (F 3 h)) i))), .ref (F 1 (ga (L (F 3 h)) i)), .int (nI (F 2 (ga (L (F 3 h)) i))), .int (nI 0), .int (nI (F 4 (ga (L (F 3 h)) i))), .int (nI (F 5 (ga (L (F 3 h)) i)))]))) (ga (L (F 3 h)) i) (.inr (5, [.int (nI (F 0 (ga (L (F 3 h)) i))), .ref (F 1 (ga (L (F 3 h)) i)), .int (nI (F 2 (ga (L (F 3 h)) i))), .int (nI ((up2 F 3 (ga (L (F 3 h)) i) 0) 3 (ga (L (F 3 h)) i))), .int (nI (F 4 (ga (L (F 3 h)) i))), .int (nI 1)])) := hC.at hk_3 (by decide) (by decide)
            refine c_get (C := RX3) (T := TX3) (N := 6) hx hb hts hin_X3 hown hK hP hm_17 rfl 1 (by decide) l_213 (fun _ h9 => h9) rfl dX8_appeal_65 ?_
            have hm_18 : (h, .inr (9, [.ref (F 0 h), .ref (F 1 h), .ref (F 2 h), .ref ((up2 F 3 (ga (L (F 3 h)) i) 0) 3 h), .ref (F 4 h), .int (nI ((up2 (up2 F 3 (ga (L (F 3 h)) i) 0) 5 (ga (L (F 3 h)) i) 1) 5 h))])) ∈ wup (wup ws (ga (L (F 3 h)) i) (.inr (5, [.int (nI (F 0 (ga (L (F 3 h)) i))), .ref (F 1 (ga (L (F 3 h)) i)), .int (nI (F 2 (ga (L (F 3 h)) i))), .int (nI 0), .int (nI (F 4 (ga (L (F 3 h)) i))), .int (nI (F 5 (ga (L (F 3 h)) i)))]))) (ga (L (F 3 h)) i) (.inr (5, [.int (nI (F 0 (ga (L (F 3 h)) i))), .ref (F 1 (ga (L (F 3 h)) i)), .int (nI (F 2 (ga (L (F 3 h)) i))), .int (nI ((up2 F 3 (ga (L (F 3 h)) i) 0) 3 (ga (L (F 3 h)) i))), .int (nI (F 4 (ga (L (F 3 h)) i))), .int (nI 1)])) := hC.at hk_h (by decide) (by decide)
            refine vp_callSi (W.runV (As := [.ref (F 1 (ga (L (F 3 h)) i))]) (rest := []) ⟨hx, hb, hml, hown, hts⟩ (ck_openAbout l D cI cO cb eA mi st (wup (wup ws (ga (L (F 3 h)) i) (.inr (5, [.int (nI (F 0 (ga (L (F 3 h)) i))), .ref (F 1 (ga (L (F 3 h)) i)), .int (nI (F 2 (ga (L (F 3 h)) i))), .int (nI 0), .int (nI (F 4 (ga (L (F 3 h)) i))), .int (nI (F 5 (ga (L (F 3 h)) i)))]))) (ga (L (F 3 h)) i) (.inr (5, [.int (nI (F 0 (ga (L (F 3 h)) i))), .ref (F 1 (ga (L (F 3 h)) i)), .int (nI (F 2 (ga (L (F 3 h)) i))), .int (nI ((up2 F 3 (ga (L (F 3 h)) i) 0) 3 (ga (L (F 3 h)) i))), .int (nI (F 4 (ga (L (F 3 h)) i))), .int (nI 1)]))) hD hC hW hs h hk_h (F 1 (ga (L (F 3 h)) i)) hk_12) (cwV 1 hts gX8_appeal_X8_openAbout rfl rfl rfl kd_X8_openAbout ⟨Nat.le_of_ble_eq_true rfl, Nat.le_of_ble_eq_true rfl⟩) ⟨cB_blind, c_recv hK hP rfl hm_18, cB_pre hK hG hA hS hP _⟩ rfl rfl hl.1 rfl (lv_room (Nat.le_of_ble_eq_true rfl)) dX8_appeal_68 ⟨Nat.le_of_ble_eq_true rfl, Nat.le_of_ble_eq_true rfl⟩) (fun r_19 hr_19 => ?_)
            subst hr_19
            have hn_20 : kOpen (up2 (up2 F 3 (ga (L (F 3 h)) i) 0) 5 (ga (L (F 3 h)) i) 1) L h (F 1 (ga (L (F 3 h)) i)) ≤ 60 := kOpen_le hW (by assumption)
            refine W.widen (k := 2) (n := 12) (by omega) (by omega) ?_
            refine vx_ret ?_
            have hk9 : ks (kIx i (L (F 3 h)).length) (if kAppC F h (ga (L (F 3 h)) i) then 0 else 3) = 0 := by exact (ks_r hk0_2).trans (if_pos ⟨by omega, by omega, by omega, by omega⟩)
            exact W.iret (v := nI (kOpen (up2 (up2 F 3 (ga (L (F 3 h)) i) 0) 5 (ga (L (F 3 h)) i) 1) L h (F 1 (ga (L (F 3 h)) i)))) hx hb hr (fun U9 ht hW9 => ⟨⟨_, (wup (wup ws (ga (L (F 3 h)) i) (.inr (5, [.int (nI (F 0 (ga (L (F 3 h)) i))), .ref (F 1 (ga (L (F 3 h)) i)), .int (nI (F 2 (ga (L (F 3 h)) i))), .int (nI 0), .int (nI (F 4 (ga (L (F 3 h)) i))), .int (nI (F 5 (ga (L (F 3 h)) i)))]))) (ga (L (F 3 h)) i) (.inr (5, [.int (nI (F 0 (ga (L (F 3 h)) i))), .ref (F 1 (ga (L (F 3 h)) i)), .int (nI (F 2 (ga (L (F 3 h)) i))), .int (nI ((up2 F 3 (ga (L (F 3 h)) i) 0) 3 (ga (L (F 3 h)) i))), .int (nI (F 4 (ga (L (F 3 h)) i))), .int (nI 1)]))), rfl, ⟨hk9, (show nI (kOpen (up2 (up2 F 3 (ga (L (F 3 h)) i) 0) 5 (ga (L (F 3 h)) i) 1) L h (F 1 (ga (L (F 3 h)) i))) = nI (kOpen (gApp F (ga (L (F 3 h)) i)) L h (F 1 (ga (L (F 3 h)) i))) from by rfl), hC, hW, hD⟩, by show va_P D vwCl _ U9.heap; rw [ht]; exact hP⟩, hS.F ht⟩) hS.2.2 dX8_appeal_71
          · have hkx : ks (kIx i (L (F 3 h)).length) (if kAppC F h (ga (L (F 3 h)) i) then 0 else 3) = 3 := by exact (ks_r hk0_2).trans (if_neg (by rintro ⟨q1, q2, q3, q4⟩; omega))
            exact vx_throw0 (A := A) (own := RX8) (cls := "java/lang/IllegalStateException") (names := ["java/lang/RuntimeException", "java/lang/Exception"]) (ik := 44) (ic := 46) hx hb hst hown (by decide +kernel) (by decide +kernel) (hts (.classLink RX8 44 "java/lang/IllegalStateException") (List.mem_of_getElem? (i := 1) rfl)) (hts (.initialized "java/lang/IllegalStateException") (List.mem_of_getElem? (i := 2) rfl)) (vx_hat (L := vx_at0 RX8 46 "java/lang/IllegalStateException" ["java/lang/RuntimeException", "java/lang/Exception"]) (fun w9 h9 => hts w9 (List.mem_cons_of_mem _ (List.mem_append_left _ (List.mem_append_right _ h9)))) gB3 (gB_of (by decide +kernel) hG.2.2.2.2.2.2.1)) (by decide +kernel) hG.1 hG.2.1 hS (hl.1.trans hml.symm) dX8_appeal_45 dX8_appeal_48 dX8_appeal_49 dX8_appeal_52 (fun z9 h9 => (htab z9 h9).elim) (by decide) (Nat.le_of_ble_eq_true rfl) (Nat.le_of_ble_eq_true rfl) (Nat.le_of_ble_eq_true rfl) hlocks (fun t9 _ g2 g3 => ⟨(), trivial, ⟨by rw [hkx]; rfl, by rw [hkx]; decide, (x_keep hS hP g2 g3).1⟩, (x_keep hS hP g2 g3).2⟩) hS.2.2 (Nat.le_of_ble_eq_true rfl) (Nat.le_of_ble_eq_true rfl)
set_option maxHeartbeats 4000000 in
set_option maxRecDepth 100000 in
theorem cm_call (l : Launch) (hst : l.stackTraces = false) (D : va_G) (cI cO cb : ClassId) (eA mi : Nat) (st : Nat → Nat) {A : Nat → Prop} (ws : va_W) (hD : va_D A ws) {own kd : Nat → Nat} {F : Nat → Nat → Nat} {L : Nat → List Nat} (hC : CW cI cO eA st own kd F L ws) (hW : WF kd F L) (hs : sInj st)  (h : Nat) (hk_h : kd h = 9) (i : Int32) (v : Int32) : vx_Met l yX8_call wsX8_call ({ frames := 7, cells := 2, slots := 12, locals := 102 }) (va_Pc [.ref h, .int i, .int v] (cB D cI cO cb eA mi st A ws)) (va_Qi (fun (ri : Int32) (u : va_W) => ks (kIx i (L (F 4 h)).length) (ks (kArg v (nI 1) (nI 100000)) (if kCallC F L h (ga (L (F 4 h)) i) v.toNatClampNeg then 0 else 3)) = 0 ∧ ri = nI (F 1 (ga (L (F 4 h)) i) + v.toNatClampNeg) ∧ CW cI cO eA st own kd (up2 F 1 (ga (L (F 4 h)) i) (F 1 (ga (L (F 4 h)) i) + v.toNatClampNeg)) L u ∧ WF kd (up2 F 1 (ga (L (F 4 h)) i) (F 1 (ga (L (F 4 h)) i) + v.toNatClampNeg)) L ∧ va_D A u) (fun u U9 => va_P D vwCl u U9.heap) A) (XK D ws A (ks (kIx i (L (F 4 h)).length) (ks (kArg v (nI 1) (nI 100000)) (if kCallC F L h (ga (L (F 4 h)) i) v.toNatClampNeg then 0 else 3)))) 2 12 A := by
  refine vx_ofW (cc := cX8_call) (maxL := 4) (ret := (some .int)) (by decide) rfl ?_
  intro p e s m args below meth c s₁ B hml htab hv
  obtain ⟨rfl, hP, hK, hG, hA⟩ := hv
  have hx := B.exec
  have hb := B.bytes
  have hr := B.returns
  have hts := atoms_spec (ws := wsX8_call) B.pre
  have hown : s.vm.findClass RX8 = some m.cls := findClass_of_methodNamed B.named
  have hlocks := B.notSynchronized
  have hin_X0 : ∀ w ∈ wsX00, w ∈ wsX8_call := fun w h => List.mem_cons_of_mem _ (List.mem_append_left _ (List.mem_append_left _ (List.mem_append_left _ (List.mem_append_left _ (List.mem_append_left _ (List.mem_append_left _ (List.mem_append_left _ (List.mem_append_right _ h))))))))
  have hin_X1 : ∀ w ∈ wsX10, w ∈ wsX8_call := fun w h => List.mem_cons_of_mem _ (List.mem_append_left _ (List.mem_append_left _ (List.mem_append_left _ (List.mem_append_left _ (List.mem_append_left _ (List.mem_append_left _ (List.mem_append_right _ h)))))))
  have hin_X4 : ∀ w ∈ wsX40, w ∈ wsX8_call := fun w h => List.mem_cons_of_mem _ (List.mem_append_left _ (List.mem_append_left _ (List.mem_append_left _ (List.mem_append_left _ (List.mem_append_left _ (List.mem_append_left _ (List.mem_append_left _ (List.mem_append_left _ (List.mem_append_right _ h)))))))))
  have l_233 := (hts (.fieldLink RX8 233 "TenderHall$Contract" "award" "LTenderHall$Award;") (List.mem_of_getElem? (i := 6) rfl))
  have l_159 := (hts (.fieldLink RX8 159 "TenderHall$Award" "voided" "Z") (List.mem_of_getElem? (i := 7) rfl))
  have l_234 := (hts (.fieldLink RX8 234 "TenderHall$Contract" "called" "I") (List.mem_of_getElem? (i := 8) rfl))
  have l_152 := (hts (.fieldLink RX8 152 "TenderHall$Award" "bid" "LTenderHall$Bid;") (List.mem_of_getElem? (i := 9) rfl))
  have l_107 := (hts (.fieldLink RX8 107 "TenderHall$Bid" "price" "I") (List.mem_of_getElem? (i := 10) rfl))
  have hS : va_S A s.heap s.heap [] := va_S.rf
  have hD0 := hD
  have hl := lv_entry ([.ref h, .int i, .int v]) (n := 4) (Nat.le_of_ble_eq_true rfl)
  rw [lg_entry_eq]
  generalize (lg_sl ([.ref h, .int i, .int v]) ++ List.replicate (4 - (lg_sl ([.ref h, .int i, .int v])).length) Slot.unset).toArray = ls at hl ⊢
  have hl : lv_has ls 4 [(0, .ref h), (1, .int i), (2, .int v)] := hl
  refine lv_aload_n hx hb dX8_call_0 rfl (lv_at hl 0 rfl) ?_
  refine lv_iload_n hx hb dX8_call_1 rfl (lv_at hl 1 rfl) ?_
  have hm_1 : (h, .inr (9, [.ref (F 0 h), .ref (F 1 h), .ref (F 2 h), .ref (F 3 h), .ref (F 4 h), .int (nI (F 5 h))])) ∈ ws := hC.at hk_h (by decide) (by decide)
  refine vx_callr (vx_runV (As := [.int i]) (rest := []) ⟨hx, hb, hml, hown, hts⟩ (cx_contractAt l hst D cI cO cb eA mi st ws hD hC hW hs h hk_h i) (cwV 1 hts gX8_call_X8_contractAt rfl rfl rfl kd_X8_contractAt ⟨Nat.le_of_ble_eq_true rfl, Nat.le_of_ble_eq_true rfl⟩) ⟨cB_blind, c_recv hK hP rfl hm_1, cB_pre hK hG hA hS hP _⟩ rfl rfl hl.1 rfl (lv_room (Nat.le_of_ble_eq_true rfl)) dX8_call_2 ⟨Nat.le_of_ble_eq_true rfl, Nat.le_of_ble_eq_true rfl⟩) hS (fun _ _ h => h) (fun _ h => h) (fun _ _ h => h) (fun E9 ce9 q9 u U8 H1 locs1 ht hvm hu hB hz1 hk1 hS1 hc1 hc2 hc3 => ?_) (fun u ra U8 H1 locs1 ht hvm hu hB hz1 hk1 hS1 => ?_)
  · obtain ⟨hB1, hB2, hB3⟩ := hB
    rw [ht] at hB3
    have hkx : ks (kIx i (L (F 4 h)).length) (ks (kArg v (nI 1) (nI 100000)) (if kCallC F L h (ga (L (F 4 h)) i) v.toNatClampNeg then 0 else 3)) = (kIx i (L (F 4 h)).length) := by exact ks_l hB2
    exact vx_out (fun z9 h9 => (htab z9 h9).elim) hlocks hc1 hc2 hc3 (fun t9 g1 g2 => ⟨(), trivial, ⟨by rw [hkx]; exact hB1, by rw [hkx]; exact hB2, by rw [g1]; exact hB3⟩, hS1.F g1⟩) hS1.2.2 (Nat.le_of_ble_eq_true rfl) (Nat.le_of_ble_eq_true rfl)
  · have hk0_2 : (kIx i (L (F 4 h)).length) = 0 := hu
    obtain ⟨hra, hB2⟩ := hB
    subst hra
    replace hB2 : va_P D vwCl ws U8.heap := hB2
    rw [ht] at hB2
    clear hS
    have hS := hS1
    replace hP := hB2
    generalize H1 = H at hP hS ⊢
    have hk_3 : kd (ga (L (F 4 h)) i) = 6 := hW.ela (hW.ref hk_h rfl (by decide)) hk0_2
    refine lv_astore_n (lv' := [(3, .ref (ga (L (F 4 h)) i)), (0, .ref h), (1, .int i), (2, .int v)]) hx hb dX8_call_5 rfl hl (by decide) rfl (fun ls hl => ?_)
    refine lv_iload_n hx hb dX8_call_6 rfl (lv_at hl 3 rfl) ?_
    refine lv_iconst (v := nI 1) hx hb dX8_call_7 (by decide) ?_
    refine lv_ldc (v := nI 100000) hx hb hown (hts (.constant RX8 87 (100000)) (List.mem_of_getElem? (i := 5) rfl)) dX8_call_8 ?_
    refine vp_callSi (W.runS (As := [.int v, .int (nI 1), .int (nI 100000)]) (rest := []) ⟨hx, hb, hml, hown, hts⟩ (ck_isOutside l v (nI 1) (nI 100000)) (va_cwS 3 hts gX8_call_X8_isOutside rfl rfl rfl kd_X8_isOutside ⟨Nat.le_of_ble_eq_true rfl, Nat.le_of_ble_eq_true rfl⟩) ⟨fun _ _ _ _ q => q, fun U hU hW => ⟨rfl, trivial⟩⟩ rfl rfl hl.1 rfl (lv_room (Nat.le_of_ble_eq_true rfl)) dX8_call_10 ⟨Nat.le_of_ble_eq_true rfl, Nat.le_of_ble_eq_true rfl⟩) (fun r_4 hr_4 => ?_)
    subst hr_4
    refine b_if_eq (tgt := 24) hx hb dX8_call_13 (by decide)  (fun c_5 => ?_) (fun c_5 => ?_)
    · have dd_c_5 := of_decide_eq_false c_5
      obtain ⟨x, hlo_x, hhi_x, rfl⟩ := out_nat (by decide) (by decide) dd_c_5
      have hcl_x : (nI x).toNatClampNeg = x := nI_clamp (by omega)
      rw [hcl_x]
      refine lv_aload_n hx hb dX8_call_24 rfl (lv_at hl 0 rfl) ?_
      have hm_6 : (ga (L (F 4 h)) i, .inr (6, [.ref (F 0 (ga (L (F 4 h)) i)), .int (nI (F 1 (ga (L (F 4 h)) i)))])) ∈ ws := hC.at hk_3 (by decide) (by decide)
      refine c_get (C := RX4) (T := TX4) (N := 2) hx hb hts hin_X4 hown hK hP hm_6 rfl 0 (by decide) l_233 (fun _ h9 => h9) rfl dX8_call_25 ?_
      have hk_7 : kd (F 0 (ga (L (F 4 h)) i)) = 2 := hW.ref hk_3 rfl (by decide)
      have hm_8 : (F 0 (ga (L (F 4 h)) i), .inr (2, [.int (nI (F 0 (F 0 (ga (L (F 4 h)) i)))), .ref (F 1 (F 0 (ga (L (F 4 h)) i))), .ref (F 2 (F 0 (ga (L (F 4 h)) i))), .int (nI (F 3 (F 0 (ga (L (F 4 h)) i)))), .int (nI (F 4 (F 0 (ga (L (F 4 h)) i)))), .int (nI (F 5 (F 0 (ga (L (F 4 h)) i)))), .int (nI (F 6 (F 0 (ga (L (F 4 h)) i))))])) ∈ ws := hC.at hk_7 (by decide) (by decide)
      refine c_get (C := RX0) (T := TX0) (N := 7) hx hb hts hin_X0 hown hK hP hm_8 rfl 4 (by decide) l_159 (fun _ h9 => h9) rfl dX8_call_28 ?_
      have hn_9 : F 4 (F 0 (ga (L (F 4 h)) i)) < 2 := hW.num hk_7 rfl (by decide)
      refine n_if_ne (tgt := 64) hx hb dX8_call_31 (by decide) (by omega) (fun c_10 => ?_) (fun c_10 => ?_)
      · have hkx : ks (kIx i (L (F 4 h)).length) (ks (kArg (nI x) (nI 1) (nI 100000)) (if kCallC F L h (ga (L (F 4 h)) i) x then 0 else 3)) = 3 := by exact (ks_r hk0_2).trans ((ks_r (if_neg dd_c_5)).trans (if_neg (by rintro ⟨q1, q2, q3⟩; omega)))
        exact vx_throw0 (A := A) (own := RX8) (cls := "java/lang/IllegalStateException") (names := ["java/lang/RuntimeException", "java/lang/Exception"]) (ik := 44) (ic := 46) hx hb hst hown (by decide +kernel) (by decide +kernel) (hts (.classLink RX8 44 "java/lang/IllegalStateException") (List.mem_of_getElem? (i := 3) rfl)) (hts (.initialized "java/lang/IllegalStateException") (List.mem_of_getElem? (i := 4) rfl)) (vx_hat (L := vx_at0 RX8 46 "java/lang/IllegalStateException" ["java/lang/RuntimeException", "java/lang/Exception"]) (fun w9 h9 => hts w9 (List.mem_cons_of_mem _ (List.mem_append_left _ (List.mem_append_right _ h9)))) gB3 (gB_of (by decide +kernel) hG.2.2.2.2.2.2.1)) (by decide +kernel) hG.1 hG.2.1 hS (hl.1.trans hml.symm) dX8_call_64 dX8_call_67 dX8_call_68 dX8_call_71 (fun z9 h9 => (htab z9 h9).elim) (by decide) (Nat.le_of_ble_eq_true rfl) (Nat.le_of_ble_eq_true rfl) (Nat.le_of_ble_eq_true rfl) hlocks (fun t9 _ g2 g3 => ⟨(), trivial, ⟨by rw [hkx]; rfl, by rw [hkx]; decide, (x_keep hS hP g2 g3).1⟩, (x_keep hS hP g2 g3).2⟩) hS.2.2 (Nat.le_of_ble_eq_true rfl) (Nat.le_of_ble_eq_true rfl)
      · refine lv_aload_n hx hb dX8_call_34 rfl (lv_at hl 1 rfl) ?_
        refine lv_aload_n hx hb dX8_call_35 rfl (lv_at hl 0 rfl) ?_
        refine c_get (C := RX4) (T := TX4) (N := 2) hx hb hts hin_X4 hown hK hP hm_6 rfl 0 (by decide) l_233 (fun _ h9 => h9) rfl dX8_call_36 ?_
        refine vp_callSi (W.runV (As := [.ref (F 0 (ga (L (F 4 h)) i))]) (rest := []) ⟨hx, hb, hml, hown, hts⟩ (ck_openAbout l D cI cO cb eA mi st ws hD hC hW hs h hk_h (F 0 (ga (L (F 4 h)) i)) hk_7) (cwV 1 hts gX8_call_X8_openAbout rfl rfl rfl kd_X8_openAbout ⟨Nat.le_of_ble_eq_true rfl, Nat.le_of_ble_eq_true rfl⟩) ⟨cB_blind, c_recv hK hP rfl hm_1, cB_pre hK hG hA hS hP _⟩ rfl rfl hl.1 rfl (lv_room (Nat.le_of_ble_eq_true rfl)) dX8_call_39 ⟨Nat.le_of_ble_eq_true rfl, Nat.le_of_ble_eq_true rfl⟩) (fun r_11 hr_11 => ?_)
        subst hr_11
        have hn_12 : kOpen F L h (F 0 (ga (L (F 4 h)) i)) ≤ 60 := kOpen_le hW (by assumption)
        refine n_if_gt (tgt := 64) hx hb dX8_call_42 (by decide) (by omega) (fun c_13 => ?_) (fun c_13 => ?_)
        · have hkx : ks (kIx i (L (F 4 h)).length) (ks (kArg (nI x) (nI 1) (nI 100000)) (if kCallC F L h (ga (L (F 4 h)) i) x then 0 else 3)) = 3 := by exact (ks_r hk0_2).trans ((ks_r (if_neg dd_c_5)).trans (if_neg (by rintro ⟨q1, q2, q3⟩; omega)))
          exact vx_throw0 (A := A) (own := RX8) (cls := "java/lang/IllegalStateException") (names := ["java/lang/RuntimeException", "java/lang/Exception"]) (ik := 44) (ic := 46) hx hb hst hown (by decide +kernel) (by decide +kernel) (hts (.classLink RX8 44 "java/lang/IllegalStateException") (List.mem_of_getElem? (i := 3) rfl)) (hts (.initialized "java/lang/IllegalStateException") (List.mem_of_getElem? (i := 4) rfl)) (vx_hat (L := vx_at0 RX8 46 "java/lang/IllegalStateException" ["java/lang/RuntimeException", "java/lang/Exception"]) (fun w9 h9 => hts w9 (List.mem_cons_of_mem _ (List.mem_append_left _ (List.mem_append_right _ h9)))) gB3 (gB_of (by decide +kernel) hG.2.2.2.2.2.2.1)) (by decide +kernel) hG.1 hG.2.1 hS (hl.1.trans hml.symm) dX8_call_64 dX8_call_67 dX8_call_68 dX8_call_71 (fun z9 h9 => (htab z9 h9).elim) (by decide) (Nat.le_of_ble_eq_true rfl) (Nat.le_of_ble_eq_true rfl) (Nat.le_of_ble_eq_true rfl) hlocks (fun t9 _ g2 g3 => ⟨(), trivial, ⟨by rw [hkx]; rfl, by rw [hkx]; decide, (x_keep hS hP g2 g3).1⟩, (x_keep hS hP g2 g3).2⟩) hS.2.2 (Nat.le_of_ble_eq_true rfl) (Nat.le_of_ble_eq_true rfl)
        · refine lv_aload_n hx hb dX8_call_45 rfl (lv_at hl 0 rfl) ?_
          refine c_get (C := RX4) (T := TX4) (N := 2) hx hb hts hin_X4 hown hK hP hm_6 rfl 1 (by decide) l_234 (fun _ h9 => h9) rfl dX8_call_46 ?_
          have hn_14 : F 1 (ga (L (F 4 h)) i) < 100001 := hW.num hk_3 rfl (by decide)
          refine lv_iload_n hx hb dX8_call_49 rfl (lv_at hl 3 rfl) ?_
          refine n_iadd hx hb dX8_call_50 (z := (F 1 (ga (L (F 4 h)) i)) + x) rfl ?_
          refine lv_aload_n hx hb dX8_call_51 rfl (lv_at hl 0 rfl) ?_
          refine c_get (C := RX4) (T := TX4) (N := 2) hx hb hts hin_X4 hown hK hP hm_6 rfl 0 (by decide) l_233 (fun _ h9 => h9) rfl dX8_call_52 ?_
          refine c_get (C := RX0) (T := TX0) (N := 7) hx hb hts hin_X0 hown hK hP hm_8 rfl 2 (by decide) l_152 (fun _ h9 => h9) rfl dX8_call_55 ?_
          have hk_15 : kd (F 2 (F 0 (ga (L (F 4 h)) i))) = 3 := hW.ref hk_7 rfl (by decide)
          have hm_16 : (F 2 (F 0 (ga (L (F 4 h)) i)), .inr (3, [.int (nI (F 0 (F 2 (F 0 (ga (L (F 4 h)) i))))), .int (nI (F 1 (F 2 (F 0 (ga (L (F 4 h)) i))))), .int (nI (F 2 (F 2 (F 0 (ga (L (F 4 h)) i))))), .int (nI (F 3 (F 2 (F 0 (ga (L (F 4 h)) i))))), .ref (st (F 4 (F 2 (F 0 (ga (L (F 4 h)) i))))), .ref (st (F 5 (F 2 (F 0 (ga (L (F 4 h)) i)))))])) ∈ ws := hC.at hk_15 (by decide) (by decide)
          refine c_get (C := RX1) (T := TX1) (N := 6) hx hb hts hin_X1 hown hK hP hm_16 rfl 1 (by decide) l_107 (fun _ h9 => h9) rfl dX8_call_58 ?_
          have hn_17 : F 1 (F 2 (F 0 (ga (L (F 4 h)) i))) < 100001 := hW.num hk_15 rfl (by decide)
          refine n_icmp_le (tgt := 72) hx hb dX8_call_61 (by decide) (by omega) (by omega) (fun c_18 => ?_) (fun c_18 => ?_)
          · refine lv_aload_n hx hb dX8_call_72 rfl (lv_at hl 0 rfl) ?_
            refine lv_dup hx hb dX8_call_73 rfl ?_
            refine c_get (C := RX4) (T := TX4) (N := 2) hx hb hts hin_X4 hown hK hP hm_6 rfl 1 (by decide) l_234 (fun _ h9 => h9) rfl dX8_call_74 ?_
            refine lv_iload_n hx hb dX8_call_77 rfl (lv_at hl 3 rfl) ?_
            refine n_iadd hx hb dX8_call_78 (z := (F 1 (ga (L (F 4 h)) i)) + x) rfl ?_
            have hC9 := hC.put (f := 1) (v := (F 1 (ga (L (F 4 h)) i)) + x) (x := .inr (6, [.ref (F 0 (ga (L (F 4 h)) i)), .int (nI ((F 1 (ga (L (F 4 h)) i)) + x))])) hD hk_3 (by decide) (by decide) (by simp [ent, up2])
            have hW9 := hW.put (f := 1) (v := (F 1 (ga (L (F 4 h)) i)) + x) hk_3 (Or.inr (by show (F 1 (ga (L (F 4 h)) i)) + x < 100001; omega)) (Or.inl rfl)
            refine c_put (C := RX4) (T := TX4) (N := 2) (v := .int (nI ((F 1 (ga (L (F 4 h)) i)) + x))) (ty := .int) (fs2 := [.ref (F 0 (ga (L (F 4 h)) i)), .int (nI ((F 1 (ga (L (F 4 h)) i)) + x))]) hx hb hts hin_X4 tyX4 tyX4_ok nmX4 hown hK hP hD hS hm_6 rfl 1 (by decide) l_234 (fun _ h9 => h9) rfl (by decide +kernel) rfl rfl (Nat.le_of_ble_eq_true rfl) rfl dX8_call_79 (fun H locs hP hD hS => ?_)
            replace hC := hC9
            replace hW := hW9
            clear hC9 hW9
            refine lv_aload_n hx hb dX8_call_82 rfl (lv_at hl 0 rfl) ?_
            have hm_19 : (ga (L (F 4 h)) i, .inr (6, [.ref (F 0 (ga (L (F 4 h)) i)), .int (nI ((up2 F 1 (ga (L (F 4 h)) i) ((F 1 (ga (L (F 4 h)) i)) + x)) 1 (ga (L (F 4 h)) i)))])) ∈ wup ws (ga (L (F 4 h)) i) (.inr (6, [.ref (F 0 (ga (L (F 4 h)) i)), .int (nI ((F 1 (ga (L (F 4 h)) i)) + x))])) := hC.at hk_3 (by decide) (by decide)
            refine c_get (C := RX4) (T := TX4) (N := 2) hx hb hts hin_X4 hown hK hP hm_19 rfl 1 (by decide) l_234 (fun _ h9 => h9) rfl dX8_call_83 ?_
            have hn_20 : (up2 F 1 (ga (L (F 4 h)) i) ((F 1 (ga (L (F 4 h)) i)) + x)) 1 (ga (L (F 4 h)) i) < 100001 := hW.num hk_3 rfl (by decide)
            refine W.widen (k := 2) (n := 12) (by omega) (by omega) ?_
            refine vx_ret ?_
            have hk9 : ks (kIx i (L (F 4 h)).length) (ks (kArg (nI x) (nI 1) (nI 100000)) (if kCallC F L h (ga (L (F 4 h)) i) x then 0 else 3)) = 0 := by exact (ks_r hk0_2).trans ((ks_r (if_neg dd_c_5)).trans (if_pos ⟨by omega, by omega, by omega⟩))
            exact W.iret (v := nI ((up2 F 1 (ga (L (F 4 h)) i) ((F 1 (ga (L (F 4 h)) i)) + x)) 1 (ga (L (F 4 h)) i))) hx hb hr (fun U9 ht hW9 => ⟨⟨_, (wup ws (ga (L (F 4 h)) i) (.inr (6, [.ref (F 0 (ga (L (F 4 h)) i)), .int (nI ((F 1 (ga (L (F 4 h)) i)) + x))]))), rfl, ⟨hk9, (show nI ((up2 F 1 (ga (L (F 4 h)) i) ((F 1 (ga (L (F 4 h)) i)) + x)) 1 (ga (L (F 4 h)) i)) = nI (F 1 (ga (L (F 4 h)) i) + x) from by rw [up2_eq]), hC, hW, hD⟩, by show va_P D vwCl _ U9.heap; rw [ht]; exact hP⟩, hS.F ht⟩) hS.2.2 dX8_call_86
          · have hkx : ks (kIx i (L (F 4 h)).length) (ks (kArg (nI x) (nI 1) (nI 100000)) (if kCallC F L h (ga (L (F 4 h)) i) x then 0 else 3)) = 3 := by exact (ks_r hk0_2).trans ((ks_r (if_neg dd_c_5)).trans (if_neg (by rintro ⟨q1, q2, q3⟩; omega)))
            exact vx_throw0 (A := A) (own := RX8) (cls := "java/lang/IllegalStateException") (names := ["java/lang/RuntimeException", "java/lang/Exception"]) (ik := 44) (ic := 46) hx hb hst hown (by decide +kernel) (by decide +kernel) (hts (.classLink RX8 44 "java/lang/IllegalStateException") (List.mem_of_getElem? (i := 3) rfl)) (hts (.initialized "java/lang/IllegalStateException") (List.mem_of_getElem? (i := 4) rfl)) (vx_hat (L := vx_at0 RX8 46 "java/lang/IllegalStateException" ["java/lang/RuntimeException", "java/lang/Exception"]) (fun w9 h9 => hts w9 (List.mem_cons_of_mem _ (List.mem_append_left _ (List.mem_append_right _ h9)))) gB3 (gB_of (by decide +kernel) hG.2.2.2.2.2.2.1)) (by decide +kernel) hG.1 hG.2.1 hS (hl.1.trans hml.symm) dX8_call_64 dX8_call_67 dX8_call_68 dX8_call_71 (fun z9 h9 => (htab z9 h9).elim) (by decide) (Nat.le_of_ble_eq_true rfl) (Nat.le_of_ble_eq_true rfl) (Nat.le_of_ble_eq_true rfl) hlocks (fun t9 _ g2 g3 => ⟨(), trivial, ⟨by rw [hkx]; rfl, by rw [hkx]; decide, (x_keep hS hP g2 g3).1⟩, (x_keep hS hP g2 g3).2⟩) hS.2.2 (Nat.le_of_ble_eq_true rfl) (Nat.le_of_ble_eq_true rfl)
    · have dd_c_5 := of_decide_eq_true c_5
      have hkx : ks (kIx i (L (F 4 h)).length) (ks (kArg v (nI 1) (nI 100000)) (if kCallC F L h (ga (L (F 4 h)) i) v.toNatClampNeg then 0 else 3)) = 2 := by exact (ks_r hk0_2).trans ((ks_l (by rw [kArg, if_pos dd_c_5]; decide)).trans (if_pos dd_c_5))
      exact vx_throw0 (A := A) (own := RX8) (cls := "java/lang/IllegalArgumentException") (names := ["java/lang/RuntimeException", "java/lang/Exception"]) (ik := 37) (ic := 39) hx hb hst hown (by decide +kernel) (by decide +kernel) (hts (.classLink RX8 37 "java/lang/IllegalArgumentException") (List.mem_of_getElem? (i := 1) rfl)) (hts (.initialized "java/lang/IllegalArgumentException") (List.mem_of_getElem? (i := 2) rfl)) (vx_hat (L := vx_at0 RX8 39 "java/lang/IllegalArgumentException" ["java/lang/RuntimeException", "java/lang/Exception"]) (fun w9 h9 => hts w9 (List.mem_cons_of_mem _ (List.mem_append_left _ (List.mem_append_left _ (List.mem_append_right _ h9))))) gB2 (gB_of (by decide +kernel) hG.2.2.2.2.2.2.1)) (by decide +kernel) hG.1 hG.2.1 hS (hl.1.trans hml.symm) dX8_call_16 dX8_call_19 dX8_call_20 dX8_call_23 (fun z9 h9 => (htab z9 h9).elim) (by decide) (Nat.le_of_ble_eq_true rfl) (Nat.le_of_ble_eq_true rfl) (Nat.le_of_ble_eq_true rfl) hlocks (fun t9 _ g2 g3 => ⟨(), trivial, ⟨by rw [hkx]; rfl, by rw [hkx]; decide, (x_keep hS hP g2 g3).1⟩, (x_keep hS hP g2 g3).2⟩) hS.2.2 (Nat.le_of_ble_eq_true rfl) (Nat.le_of_ble_eq_true rfl)
