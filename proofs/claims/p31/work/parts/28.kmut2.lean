/-! the class: calls that make new objects -/
abbrev kCmpC (F : Nat → Nat → Nat) (L : Nat → List Nat) (h b w g : Nat) : Prop := F 4 w = 0 ∧ F 5 h < F 3 w ∧ kMay F L h b w (nI g) = true ∧ (L (F 3 h)).length < 60
theorem CW.app {cI cO : ClassId} {eA : Nat} {st own kd : Nat → Nat} {F : Nat → Nat → Nat} {L : Nat → List Nat} {ws ws2 : va_W} (h : CW cI cO eA st own kd F L ws) : CW cI cO eA st own kd F L (ws ++ ws2) := ⟨fun b h1 h2 => List.mem_append_left _ (h.1 b h1 h2), fun b h1 => Lst_app (h.2 b h1)⟩
theorem kdN_old {kd : Nat → Nat} {q k a k2 : Nat} (hq : kd q = 0) (h : kd a = k) (h0 : k ≠ 0) : kdN kd q k2 a = k := by
  rw [kdN_ne (fun e9 => h0 (by rw [← h, e9]; exact hq))]; exact h
theorem els_add {kd : Nat → Nat} {vs : List Nat} {q k : Nat} (h : ∀ x ∈ vs, kd x + 20 = k) (hq : kd q + 20 = k) : ∀ x ∈ vs ++ [q], kd x + 20 = k := by
  intro x hx
  rcases List.mem_append.mp hx with h1 | h1
  · exact h x h1
  · rw [List.mem_singleton.mp h1]; exact hq
set_option maxHeartbeats 4000000 in
set_option maxRecDepth 100000 in
theorem cm_sign (l : Launch) (hst : l.stackTraces = false) (D : va_G) (cI cO cb : ClassId) (eA mi : Nat) (st : Nat → Nat) {A : Nat → Prop} (ws : va_W) (hD : va_D A ws) {own kd : Nat → Nat} {F : Nat → Nat → Nat} {L : Nat → List Nat} (hC : CW cI cO eA st own kd F L ws) (hW : WF kd F L) (hs : sInj st)  (h : Nat) (hk_h : kd h = 9) (i : Int32) (hlenc : kIx i (L (F 2 h)).length = 0 → F 5 (ga (L (F 2 h)) i) = 0 → (L (F 4 h)).length < 60) : vx_Met l yX8_sign wsX8_sign ({ frames := 7, cells := 4, slots := 120, locals := 191 }) (va_Pc [.ref h, .int i] (cB D cI cO cb eA mi st A ws)) (va_Qi (fun (ri : Int32) (u : va_W × (Nat → Nat) × Nat) => ks (kIx i (L (F 2 h)).length) (if kFin F L h (ga (L (F 2 h)) i) ∧ F 5 (ga (L (F 2 h)) i) = 0 then 0 else 3) = 0 ∧ ri = nI ((L (F 4 h)).length) ∧ CW cI cO eA st u.2.1 (kdN kd u.2.2 6) (FN (up2 F 5 (ga (L (F 2 h)) i) 1) u.2.2 [ga (L (F 2 h)) i, 0]) (upL L (F 4 h) (L (F 4 h) ++ [u.2.2])) u.1 ∧ WF (kdN kd u.2.2 6) (FN (up2 F 5 (ga (L (F 2 h)) i) 1) u.2.2 [ga (L (F 2 h)) i, 0]) (upL L (F 4 h) (L (F 4 h) ++ [u.2.2])) ∧ kd u.2.2 = 0 ∧ va_D A u.1) (fun u U9 => va_P D vwCl u.1 U9.heap) A) (XK D ws A (ks (kIx i (L (F 2 h)).length) (if kFin F L h (ga (L (F 2 h)) i) ∧ F 5 (ga (L (F 2 h)) i) = 0 then 0 else 3))) 4 120 A := by
  refine vx_ofW (cc := cX8_sign) (maxL := 4) (ret := (some .int)) (by decide) rfl ?_
  intro p e s m args below meth c s₁ B hml htab hv
  obtain ⟨rfl, hP, hK, hG, hA⟩ := hv
  have hx := B.exec
  have hb := B.bytes
  have hr := B.returns
  have hts := atoms_spec (ws := wsX8_sign) B.pre
  have hown : s.vm.findClass RX8 = some m.cls := findClass_of_methodNamed B.named
  have hlocks := B.notSynchronized
  have hin_X0 : ∀ w ∈ wsX00, w ∈ wsX8_sign := fun w h => List.mem_cons_of_mem _ (List.mem_append_left _ (List.mem_append_left _ (List.mem_append_left _ (List.mem_append_left _ (List.mem_append_left _ (List.mem_append_left _ (List.mem_append_right _ h)))))))
  have hin_X4 : ∀ w ∈ wsX40, w ∈ wsX8_sign := fun w h => List.mem_cons_of_mem _ (List.mem_append_left _ (List.mem_append_left _ (List.mem_append_left _ (List.mem_append_left _ (List.mem_append_right _ h)))))
  have hin_X8 : ∀ w ∈ wsX80, w ∈ wsX8_sign := fun w h => List.mem_cons_of_mem _ (List.mem_append_left _ (List.mem_append_left _ (List.mem_append_left _ (List.mem_append_left _ (List.mem_append_left _ (List.mem_append_right _ h))))))
  have l_221 := (hts (.fieldLink RX8 221 "TenderHall$Award" "signed" "Z") (List.mem_of_getElem? (i := 3) rfl))
  have l_26 := (hts (.fieldLink RX8 26 "TenderHall" "contracts" "Ljava/util/ArrayList;") (List.mem_of_getElem? (i := 4) rfl))
  have hS : va_S A s.heap s.heap [] := va_S.rf
  have hD0 := hD
  have hl := lv_entry ([.ref h, .int i]) (n := 4) (Nat.le_of_ble_eq_true rfl)
  rw [lg_entry_eq]
  generalize (lg_sl ([.ref h, .int i]) ++ List.replicate (4 - (lg_sl ([.ref h, .int i])).length) Slot.unset).toArray = ls at hl ⊢
  have hl : lv_has ls 4 [(0, .ref h), (1, .int i)] := hl
  refine lv_aload_n hx hb dX8_sign_0 rfl (lv_at hl 0 rfl) ?_
  refine lv_iload_n hx hb dX8_sign_1 rfl (lv_at hl 1 rfl) ?_
  have hm_1 : (h, .inr (9, [.ref (F 0 h), .ref (F 1 h), .ref (F 2 h), .ref (F 3 h), .ref (F 4 h), .int (nI (F 5 h))])) ∈ ws := hC.at hk_h (by decide) (by decide)
  refine vx_callr (vx_runV (As := [.int i]) (rest := []) ⟨hx, hb, hml, hown, hts⟩ (cx_awardAt l hst D cI cO cb eA mi st ws hD hC hW hs h hk_h i) (cwV 1 hts gX8_sign_X8_awardAt rfl rfl rfl kd_X8_awardAt ⟨Nat.le_of_ble_eq_true rfl, Nat.le_of_ble_eq_true rfl⟩) ⟨cB_blind, c_recv hK hP rfl hm_1, cB_pre hK hG hA hS hP _⟩ rfl rfl hl.1 rfl (lv_room (Nat.le_of_ble_eq_true rfl)) dX8_sign_2 ⟨Nat.le_of_ble_eq_true rfl, Nat.le_of_ble_eq_true rfl⟩) hS (fun _ _ h => h) (fun _ h => h) (fun _ _ h => h) (fun E9 ce9 q9 u U8 H1 locs1 ht hvm hu hB hz1 hk1 hS1 hc1 hc2 hc3 => ?_) (fun u ra U8 H1 locs1 ht hvm hu hB hz1 hk1 hS1 => ?_)
  · obtain ⟨hB1, hB2, hB3⟩ := hB
    rw [ht] at hB3
    have hkx : ks (kIx i (L (F 2 h)).length) (if kFin F L h (ga (L (F 2 h)) i) ∧ F 5 (ga (L (F 2 h)) i) = 0 then 0 else 3) = (kIx i (L (F 2 h)).length) := by exact ks_l hB2
    exact vx_out (fun z9 h9 => (htab z9 h9).elim) hlocks hc1 hc2 hc3 (fun t9 g1 g2 => ⟨(), trivial, ⟨by rw [hkx]; exact hB1, by rw [hkx]; exact hB2, by rw [g1]; exact hB3⟩, hS1.F g1⟩) hS1.2.2 (Nat.le_of_ble_eq_true rfl) (Nat.le_of_ble_eq_true rfl)
  · have hk0_2 : (kIx i (L (F 2 h)).length) = 0 := hu
    obtain ⟨hra, hB2⟩ := hB
    subst hra
    replace hB2 : va_P D vwCl ws U8.heap := hB2
    rw [ht] at hB2
    clear hS
    have hS := hS1
    replace hP := hB2
    generalize H1 = H at hP hS ⊢
    have hk_3 : kd (ga (L (F 2 h)) i) = 2 := hW.ela (hW.ref hk_h rfl (by decide)) hk0_2
    refine lv_astore_n (lv' := [(2, .ref (ga (L (F 2 h)) i)), (0, .ref h), (1, .int i)]) hx hb dX8_sign_5 rfl hl (by decide) rfl (fun ls hl => ?_)
    refine lv_aload_n hx hb dX8_sign_6 rfl (lv_at hl 1 rfl) ?_
    refine lv_aload_n hx hb dX8_sign_7 rfl (lv_at hl 0 rfl) ?_
    refine vp_callSi (W.runV (As := [.ref (ga (L (F 2 h)) i)]) (rest := []) ⟨hx, hb, hml, hown, hts⟩ (ck_hasBecomeFinal l D cI cO cb eA mi st ws hD hC hW hs h hk_h (ga (L (F 2 h)) i) hk_3) (cwV 1 hts gX8_sign_X8_hasBecomeFinal rfl rfl rfl kd_X8_hasBecomeFinal ⟨Nat.le_of_ble_eq_true rfl, Nat.le_of_ble_eq_true rfl⟩) ⟨cB_blind, c_recv hK hP rfl hm_1, cB_pre hK hG hA hS hP _⟩ rfl rfl hl.1 rfl (lv_room (Nat.le_of_ble_eq_true rfl)) dX8_sign_8 ⟨Nat.le_of_ble_eq_true rfl, Nat.le_of_ble_eq_true rfl⟩) (fun r_4 hr_4 => ?_)
    subst hr_4
    refine b_if_eq (tgt := 21) hx hb dX8_sign_11 (by decide)  (fun c_5 => ?_) (fun c_5 => ?_)
    · have dd_c_5 := of_decide_eq_false c_5
      have hkx : ks (kIx i (L (F 2 h)).length) (if kFin F L h (ga (L (F 2 h)) i) ∧ F 5 (ga (L (F 2 h)) i) = 0 then 0 else 3) = 3 := by exact (ks_r hk0_2).trans (if_neg (by rintro ⟨q1, q2⟩; first | omega | contradiction))
      exact vx_throw0 (A := A) (own := RX8) (cls := "java/lang/IllegalStateException") (names := ["java/lang/RuntimeException", "java/lang/Exception"]) (ik := 44) (ic := 46) hx hb hst hown (by decide +kernel) (by decide +kernel) (hts (.classLink RX8 44 "java/lang/IllegalStateException") (List.mem_of_getElem? (i := 1) rfl)) (hts (.initialized "java/lang/IllegalStateException") (List.mem_of_getElem? (i := 2) rfl)) (vx_hat (L := vx_at0 RX8 46 "java/lang/IllegalStateException" ["java/lang/RuntimeException", "java/lang/Exception"]) (fun w9 h9 => hts w9 (List.mem_cons_of_mem _ (List.mem_append_left _ (List.mem_append_right _ h9)))) gB3 (gB_of (by decide +kernel) hG.2.2.2.2.2.2.1)) (by decide +kernel) hG.1 hG.2.1 hS (hl.1.trans hml.symm) dX8_sign_21 dX8_sign_24 dX8_sign_25 dX8_sign_28 (fun z9 h9 => (htab z9 h9).elim) (by decide) (Nat.le_of_ble_eq_true rfl) (Nat.le_of_ble_eq_true rfl) (Nat.le_of_ble_eq_true rfl) hlocks (fun t9 _ g2 g3 => ⟨(), trivial, ⟨by rw [hkx]; rfl, by rw [hkx]; decide, (x_keep hS hP g2 g3).1⟩, (x_keep hS hP g2 g3).2⟩) hS.2.2 (Nat.le_of_ble_eq_true rfl) (Nat.le_of_ble_eq_true rfl)
    · have dd_c_5 := of_decide_eq_true c_5
      refine lv_aload_n hx hb dX8_sign_14 rfl (lv_at hl 0 rfl) ?_
      have hm_6 : (ga (L (F 2 h)) i, .inr (2, [.int (nI (F 0 (ga (L (F 2 h)) i))), .ref (F 1 (ga (L (F 2 h)) i)), .ref (F 2 (ga (L (F 2 h)) i)), .int (nI (F 3 (ga (L (F 2 h)) i))), .int (nI (F 4 (ga (L (F 2 h)) i))), .int (nI (F 5 (ga (L (F 2 h)) i))), .int (nI (F 6 (ga (L (F 2 h)) i)))])) ∈ ws := hC.at hk_3 (by decide) (by decide)
      refine c_get (C := RX0) (T := TX0) (N := 7) hx hb hts hin_X0 hown hK hP hm_6 rfl 5 (by decide) l_221 (fun _ h9 => h9) rfl dX8_sign_15 ?_
      have hn_7 : F 5 (ga (L (F 2 h)) i) < 2 := hW.num (f := 5) hk_3 rfl (by decide)
      refine n_if_eq (tgt := 29) hx hb dX8_sign_18 (by decide) (by omega) (fun c_8 => ?_) (fun c_8 => ?_)
      · have hlen := hlenc hk0_2 (by omega)
        refine lv_aload_n hx hb dX8_sign_29 rfl (lv_at hl 0 rfl) ?_
        refine lv_iconst (v := nI 1) hx hb dX8_sign_30 (by decide) ?_
        have hC9 := hC.put (f := 5) (v := 1) (x := .inr (2, [.int (nI (F 0 (ga (L (F 2 h)) i))), .ref (F 1 (ga (L (F 2 h)) i)), .ref (F 2 (ga (L (F 2 h)) i)), .int (nI (F 3 (ga (L (F 2 h)) i))), .int (nI (F 4 (ga (L (F 2 h)) i))), .int (nI 1), .int (nI (F 6 (ga (L (F 2 h)) i)))])) hD hk_3 (by decide) (by decide) (by simp [ent, up2])
        have hW9 := hW.put (f := 5) (v := 1) hk_3 (Or.inr (by show 1 < 2; omega)) (Or.inl rfl)
        refine c_put (C := RX0) (T := TX0) (N := 7) (v := .int (nI 1)) (ty := .boolean) (fs2 := [.int (nI (F 0 (ga (L (F 2 h)) i))), .ref (F 1 (ga (L (F 2 h)) i)), .ref (F 2 (ga (L (F 2 h)) i)), .int (nI (F 3 (ga (L (F 2 h)) i))), .int (nI (F 4 (ga (L (F 2 h)) i))), .int (nI 1), .int (nI (F 6 (ga (L (F 2 h)) i)))]) hx hb hts hin_X0 tyX0 tyX0_ok nmX0 hown hK hP hD hS hm_6 rfl 5 (by decide) l_221 (fun _ h9 => h9) rfl (by decide +kernel) rfl rfl (Nat.le_of_ble_eq_true rfl) rfl dX8_sign_31 (fun H locs hP hD hS => ?_)
        replace hC := hC9
        replace hW := hW9
        clear hC9 hW9
        refine lv_aload_n hx hb dX8_sign_34 rfl (lv_at hl 1 rfl) ?_
        have hm_9 : (h, .inr (9, [.ref (F 0 h), .ref (F 1 h), .ref (F 2 h), .ref (F 3 h), .ref (F 4 h), .int (nI ((up2 F 5 (ga (L (F 2 h)) i) 1) 5 h))])) ∈ wup ws (ga (L (F 2 h)) i) (.inr (2, [.int (nI (F 0 (ga (L (F 2 h)) i))), .ref (F 1 (ga (L (F 2 h)) i)), .ref (F 2 (ga (L (F 2 h)) i)), .int (nI (F 3 (ga (L (F 2 h)) i))), .int (nI (F 4 (ga (L (F 2 h)) i))), .int (nI 1), .int (nI (F 6 (ga (L (F 2 h)) i)))])) := hC.at hk_h (by decide) (by decide)
        refine c_get (C := RX8) (T := TX8) (N := 6) hx hb hts hin_X8 hown hK hP hm_9 rfl 4 (by decide) l_26 (fun _ h9 => h9) rfl dX8_sign_35 ?_
        have hk_10 : kd (F 4 h) = 26 := hW.ref (f := 4) hk_h rfl (by decide)
        have hl_11 : (L (F 4 h)).length ≤ 60 := hW.len hk_10 (by decide)
        obtain ⟨fs_hm_12, hm_12⟩ := hC.obj hk_10 (by decide)
        refine vp_callSi (W.runV (As := []) (rest := []) ⟨hx, hb, hml, hown, hts⟩ ((cl_size l D cI cO cb eA mi st (wup ws (ga (L (F 2 h)) i) (.inr (2, [.int (nI (F 0 (ga (L (F 2 h)) i))), .ref (F 1 (ga (L (F 2 h)) i)), .ref (F 2 (ga (L (F 2 h)) i)), .int (nI (F 3 (ga (L (F 2 h)) i))), .int (nI (F 4 (ga (L (F 2 h)) i))), .int (nI 1), .int (nI (F 6 (ga (L (F 2 h)) i)))]))) hD (F 4 h) (L (F 4 h)) (hC.lst hk_10 (by decide)))) (cwV 0 hts gX8_sign_Jx4a65c_size_8abf5 rfl rfl rfl kd_Jx4a65c_size_8abf5 ⟨Nat.le_of_ble_eq_true rfl, Nat.le_of_ble_eq_true rfl⟩) ⟨cB_blind, c_recv hK hP rfl hm_12, cB_pre hK hG hA hS hP _⟩ rfl rfl hl.1 rfl (lv_room (Nat.le_of_ble_eq_true rfl)) dX8_sign_38 ⟨Nat.le_of_ble_eq_true rfl, Nat.le_of_ble_eq_true rfl⟩) (fun r_13 hr_13 => ?_)
        subst hr_13
        refine lv_istore_n (lv' := [(3, .int (nI ((L (F 4 h)).length))), (2, .ref (ga (L (F 2 h)) i)), (0, .ref h), (1, .int i)]) hx hb dX8_sign_41 rfl hl (by decide) rfl (fun ls hl => ?_)
        refine lv_aload_n hx hb dX8_sign_42 rfl (lv_at hl 2 rfl) ?_
        refine c_get (C := RX8) (T := TX8) (N := 6) hx hb hts hin_X8 hown hK hP hm_9 rfl 4 (by decide) l_26 (fun _ h9 => h9) rfl dX8_sign_43 ?_
        have hC0 := hC
        refine va_new (ci := 6) (fs := [.null, .int (nI 0)]) hx hb hts hin_X4 tyX4 tyX4_ok hown (hts (.classLink RX8 224 RX4) (List.mem_of_getElem? (i := 5) rfl)) (hts (.instantiable RX4 2) (List.mem_of_getElem? (i := 6) rfl)) (hts (.initialized RX4) (List.mem_of_getElem? (i := 7) rfl)) hK hP hD hS hA rfl (fun j9 h9 => by rcases j9 with _ | _ | j9 <;> first | rfl | omega) (Nat.le_of_ble_eq_true rfl) (Nat.le_of_ble_eq_true rfl) dX8_sign_46 (fun q H hP hD hS => ?_)
        have hq0 := hC0.fresh hD
        have hC := hC0.app (ws2 := [(q, .inr (6, [.null, .int (nI 0)]))])
        have hq1 : (q, .inr (6, [.null, .int (nI 0)])) ∈ (wup ws (ga (L (F 2 h)) i) (.inr (2, [.int (nI (F 0 (ga (L (F 2 h)) i))), .ref (F 1 (ga (L (F 2 h)) i)), .ref (F 2 (ga (L (F 2 h)) i)), .int (nI (F 3 (ga (L (F 2 h)) i))), .int (nI (F 4 (ga (L (F 2 h)) i))), .int (nI 1), .int (nI (F 6 (ga (L (F 2 h)) i)))])) ++ [(q, .inr (6, [.null, .int (nI 0)]))]) := List.mem_append_right _ (List.mem_singleton.mpr rfl)
        refine lv_dup hx hb dX8_sign_49 rfl ?_
        refine lv_aload_n hx hb dX8_sign_50 rfl (lv_at hl 1 rfl) ?_
        refine va_callv (va_runI (As := [.ref (ga (L (F 2 h)) i)]) (rest := [.ref q, .ref (F 4 h)]) ⟨hx, hb, hml, hown, hts⟩ (ci_X4 l D cI cO cb eA mi st (wup ws (ga (L (F 2 h)) i) (.inr (2, [.int (nI (F 0 (ga (L (F 2 h)) i))), .ref (F 1 (ga (L (F 2 h)) i)), .ref (F 2 (ga (L (F 2 h)) i)), .int (nI (F 3 (ga (L (F 2 h)) i))), .int (nI (F 4 (ga (L (F 2 h)) i))), .int (nI 1), .int (nI (F 6 (ga (L (F 2 h)) i)))])) ++ [(q, .inr (6, [.null, .int (nI 0)]))]) hD q hq1 (ga (L (F 2 h)) i)) (cwI 1 hts ggX8_sign_X4_init rfl rfl rfl (hts (.initialized RX4) (List.mem_of_getElem? (i := 7) rfl)) (hts (.methodLink RX8 226 yX4_init) (List.mem_of_getElem? (i := 55) rfl)) (hts (.instanceMethod yX4_init) (List.mem_of_getElem? (i := 56) rfl)) rfl kd_X4_init ⟨Nat.le_of_ble_eq_true rfl, Nat.le_of_ble_eq_true rfl⟩) ⟨cB_blind, cB_pre hK hG hA hS hP _⟩ rfl rfl hl.1 rfl (lv_room (Nat.le_of_ble_eq_true rfl)) dX8_sign_51 ⟨Nat.le_of_ble_eq_true rfl, Nat.le_of_ble_eq_true rfl⟩) hS (fun _ _ h => h) (fun _ h => h) (fun u U8 H1 locs1 ht hvm hu hB hz1 hk1 hS1 => ?_)
        obtain ⟨hD1, hB⟩ := hB
        rw [ht] at hB
        clear hS
        have hS := hS1
        replace hP := hB
        replace hD := hD1
        generalize H1 = H at hP hS ⊢
        rw [wup_app hD] at hP hD
        have hC := hC0.new (k := 6) (vals := [ga (L (F 2 h)) i, 0]) hD (by decide) (by simp [ent, FN])
        have hr9 : ∀ f9, rg 6 f9 = 0 ∨ ([ga (L (F 2 h)) i, 0] : List Nat).getD f9 0 < rg 6 f9 := by
          intro f9
          rcases f9 with _ | _ | f9
          · exact Or.inl rfl
          · exact Or.inr (show 0 < 100001 by omega)
          · exact Or.inl rfl
        have hr8 : ∀ f9, rk 6 f9 = 0 ∨ kd (([ga (L (F 2 h)) i, 0] : List Nat).getD f9 0) = rk 6 f9 := by
          intro f9
          rcases f9 with _ | _ | f9
          · exact Or.inr (show kd (ga (L (F 2 h)) i) = 2 from hk_3)
          · exact Or.inl rfl
          · exact Or.inl rfl
        have hW := hW.new (k := 6) hq0 (by decide) hr9 hr8
        obtain ⟨fs_hm_14, hm_14⟩ := hC.obj (kdN_old hq0 hk_10 (by decide)) (by decide)
        refine va_calli (va_runV (As := [.ref q]) (rest := []) ⟨hx, hb, hml, hown, hts⟩ (cl_add l D cI cO cb eA mi st (wup ws (ga (L (F 2 h)) i) (.inr (2, [.int (nI (F 0 (ga (L (F 2 h)) i))), .ref (F 1 (ga (L (F 2 h)) i)), .ref (F 2 (ga (L (F 2 h)) i)), .int (nI (F 3 (ga (L (F 2 h)) i))), .int (nI (F 4 (ga (L (F 2 h)) i))), .int (nI 1), .int (nI (F 6 (ga (L (F 2 h)) i)))])) ++ [(q, .inr (6, [.ref (ga (L (F 2 h)) i), .int (nI 0)]))]) hD (F 4 h) (L (F 4 h)) q (hC.lst (kdN_old hq0 hk_10 (by decide)) (by decide)) (hC.els hW (kdN_old hq0 hk_10 (by decide)) (by decide)) (hC.elt (by rw [kdN_eq]; decide) (by rw [kdN_eq]; decide)) (by omega)) (cwV 1 hts gX8_sign_Jx4a65c_add_9ea2d rfl rfl rfl kd_Jx4a65c_add_9ea2d ⟨Nat.le_of_ble_eq_true rfl, Nat.le_of_ble_eq_true rfl⟩) ⟨cB_blind, c_recv hK hP rfl hm_14, cB_pre hK hG hA hS hP _⟩ rfl rfl hl.1 rfl (lv_room (Nat.le_of_ble_eq_true rfl)) dX8_sign_54 ⟨Nat.le_of_ble_eq_true rfl, Nat.le_of_ble_eq_true rfl⟩) hS (fun _ _ h => h) (fun _ h => h) (fun ri u U8 H1 locs1 ht hvm hu hB hz1 hk1 hS1 => ?_)
        obtain ⟨hri, hu1, hu2, hD⟩ := hu
        subst hri
        rw [ht] at hB
        clear hS
        have hS := hS1
        replace hP := hB
        generalize H1 = H at hP hS ⊢
        have hC := hC.setL hu2 hu1
        have hW := hW.setL (kdN_old hq0 hk_10 (by decide)) (show (L (F 4 h) ++ [q]).length ≤ 60 by rw [List.length_append]; show _ + 1 ≤ 60; omega) (els_add (fun x9 h9 => by rw [(hW.2.2 _ (by rw [(kdN_old hq0 hk_10 (by decide))]; decide)).2.2.2 x9 h9]; exact (kdN_old hq0 hk_10 (by decide))) (by rw [kdN_eq]))
        refine lv_pop hx hb dX8_sign_57 rfl ?_
        refine lv_iload_n hx hb dX8_sign_58 rfl (lv_at hl 0 rfl) ?_
        refine W.widen (k := 4) (n := 120) (by omega) (by omega) ?_
        refine vx_ret ?_
        have hk9 : ks (kIx i (L (F 2 h)).length) (if kFin F L h (ga (L (F 2 h)) i) ∧ F 5 (ga (L (F 2 h)) i) = 0 then 0 else 3) = 0 := by exact (ks_r hk0_2).trans (if_pos ⟨by assumption, by omega⟩)
        exact W.iret (v := nI ((L (F 4 h)).length)) hx hb hr (fun U9 ht hW9 => ⟨⟨_, (u.1, u.2, q), rfl, ⟨hk9, (show nI ((L (F 4 h)).length) = nI ((L (F 4 h)).length) from by rfl), hC, hW, hq0, hD⟩, by show va_P D vwCl _ U9.heap; rw [ht]; exact hP⟩, hS.F ht⟩) hS.2.2 dX8_sign_59
      · have hkx : ks (kIx i (L (F 2 h)).length) (if kFin F L h (ga (L (F 2 h)) i) ∧ F 5 (ga (L (F 2 h)) i) = 0 then 0 else 3) = 3 := by exact (ks_r hk0_2).trans (if_neg (by rintro ⟨q1, q2⟩; first | omega | contradiction))
        exact vx_throw0 (A := A) (own := RX8) (cls := "java/lang/IllegalStateException") (names := ["java/lang/RuntimeException", "java/lang/Exception"]) (ik := 44) (ic := 46) hx hb hst hown (by decide +kernel) (by decide +kernel) (hts (.classLink RX8 44 "java/lang/IllegalStateException") (List.mem_of_getElem? (i := 1) rfl)) (hts (.initialized "java/lang/IllegalStateException") (List.mem_of_getElem? (i := 2) rfl)) (vx_hat (L := vx_at0 RX8 46 "java/lang/IllegalStateException" ["java/lang/RuntimeException", "java/lang/Exception"]) (fun w9 h9 => hts w9 (List.mem_cons_of_mem _ (List.mem_append_left _ (List.mem_append_right _ h9)))) gB3 (gB_of (by decide +kernel) hG.2.2.2.2.2.2.1)) (by decide +kernel) hG.1 hG.2.1 hS (hl.1.trans hml.symm) dX8_sign_21 dX8_sign_24 dX8_sign_25 dX8_sign_28 (fun z9 h9 => (htab z9 h9).elim) (by decide) (Nat.le_of_ble_eq_true rfl) (Nat.le_of_ble_eq_true rfl) (Nat.le_of_ble_eq_true rfl) hlocks (fun t9 _ g2 g3 => ⟨(), trivial, ⟨by rw [hkx]; rfl, by rw [hkx]; decide, (x_keep hS hP g2 g3).1⟩, (x_keep hS hP g2 g3).2⟩) hS.2.2 (Nat.le_of_ble_eq_true rfl) (Nat.le_of_ble_eq_true rfl)
set_option maxHeartbeats 4000000 in
set_option maxRecDepth 100000 in
theorem cm_complain (l : Launch) (hst : l.stackTraces = false) (D : va_G) (cI cO cb : ClassId) (eA mi : Nat) (st : Nat → Nat) {A : Nat → Prop} (ws : va_W) (hD : va_D A ws) {own kd : Nat → Nat} {F : Nat → Nat → Nat} {L : Nat → List Nat} (hC : CW cI cO eA st own kd F L ws) (hW : WF kd F L) (hs : sInj st)  (h : Nat) (hk_h : kd h = 9) (b : Int32) (i : Int32) (g : Int32) : vx_Met l yX8_complain wsX8_complain ({ frames := 7, cells := 4, slots := 114, locals := 191 }) (va_Pc [.ref h, .int b, .int i, .int g] (cB D cI cO cb eA mi st A ws)) (va_Qi (fun (ri : Int32) (u : va_W × (Nat → Nat) × Nat) => ks (kIx b 8) (ks (kIx i (L (F 2 h)).length) (ks (kArg g (nI 0) (nI 2)) (if kCmpC F L h b.toNatClampNeg (ga (L (F 2 h)) i) g.toNatClampNeg then 0 else 3))) = 0 ∧ ri = nI ((L (F 3 h)).length) ∧ CW cI cO eA st u.2.1 (kdN kd u.2.2 5) (FN F u.2.2 [b.toNatClampNeg, ga (L (F 2 h)) i, g.toNatClampNeg, 0, 0, 0]) (upL L (F 3 h) (L (F 3 h) ++ [u.2.2])) u.1 ∧ WF (kdN kd u.2.2 5) (FN F u.2.2 [b.toNatClampNeg, ga (L (F 2 h)) i, g.toNatClampNeg, 0, 0, 0]) (upL L (F 3 h) (L (F 3 h) ++ [u.2.2])) ∧ kd u.2.2 = 0 ∧ va_D A u.1) (fun u U9 => va_P D vwCl u.1 U9.heap) A) (XK D ws A (ks (kIx b 8) (ks (kIx i (L (F 2 h)).length) (ks (kArg g (nI 0) (nI 2)) (if kCmpC F L h b.toNatClampNeg (ga (L (F 2 h)) i) g.toNatClampNeg then 0 else 3))))) 4 114 A := by
  refine vx_ofW (cc := cX8_complain) (maxL := 6) (ret := (some .int)) (by decide) rfl ?_
  intro p e s m args below meth c s₁ B hml htab hv
  obtain ⟨rfl, hP, hK, hG, hA⟩ := hv
  have hx := B.exec
  have hb := B.bytes
  have hr := B.returns
  have hts := atoms_spec (ws := wsX8_complain) B.pre
  have hown : s.vm.findClass RX8 = some m.cls := findClass_of_methodNamed B.named
  have hlocks := B.notSynchronized
  have hin_X0 : ∀ w ∈ wsX00, w ∈ wsX8_complain := fun w h => List.mem_cons_of_mem _ (List.mem_append_left _ (List.mem_append_left _ (List.mem_append_left _ (List.mem_append_left _ (List.mem_append_left _ (List.mem_append_left _ (List.mem_append_left _ (List.mem_append_right _ h))))))))
  have hin_X3 : ∀ w ∈ wsX30, w ∈ wsX8_complain := fun w h => List.mem_cons_of_mem _ (List.mem_append_left _ (List.mem_append_left _ (List.mem_append_left _ (List.mem_append_left _ (List.mem_append_left _ (List.mem_append_left _ (List.mem_append_right _ h)))))))
  have hin_X8 : ∀ w ∈ wsX80, w ∈ wsX8_complain := fun w h => List.mem_cons_of_mem _ (List.mem_append_left _ (List.mem_append_left _ (List.mem_append_left _ (List.mem_append_left _ (List.mem_append_left _ (List.mem_append_left _ (List.mem_append_left _ (List.mem_append_left _ (List.mem_append_right _ h)))))))))
  have l_23 := (hts (.fieldLink RX8 23 "TenderHall" "complaints" "Ljava/util/ArrayList;") (List.mem_of_getElem? (i := 5) rfl))
  have l_159 := (hts (.fieldLink RX8 159 "TenderHall$Award" "voided" "Z") (List.mem_of_getElem? (i := 6) rfl))
  have l_29 := (hts (.fieldLink RX8 29 "TenderHall" "day" "I") (List.mem_of_getElem? (i := 7) rfl))
  have l_184 := (hts (.fieldLink RX8 184 "TenderHall$Award" "finalFrom" "I") (List.mem_of_getElem? (i := 8) rfl))
  have hS : va_S A s.heap s.heap [] := va_S.rf
  have hD0 := hD
  have hl := lv_entry ([.ref h, .int b, .int i, .int g]) (n := 6) (Nat.le_of_ble_eq_true rfl)
  rw [lg_entry_eq]
  generalize (lg_sl ([.ref h, .int b, .int i, .int g]) ++ List.replicate (6 - (lg_sl ([.ref h, .int b, .int i, .int g])).length) Slot.unset).toArray = ls at hl ⊢
  have hl : lv_has ls 6 [(0, .ref h), (1, .int b), (2, .int i), (3, .int g)] := hl
  refine lv_iload_n hx hb dX8_complain_0 rfl (lv_at hl 1 rfl) ?_
  refine vx_callv (vx_runS (As := [.int b]) (rest := []) ⟨hx, hb, hml, hown, hts⟩ (cx_checkBidder l hst D cI cO cb eA mi st ws hD hC hW hs b) (va_cwS 1 hts gX8_complain_X8_checkBidder rfl rfl rfl kd_X8_checkBidder ⟨Nat.le_of_ble_eq_true rfl, Nat.le_of_ble_eq_true rfl⟩) ⟨cB_blind, cB_pre hK hG hA hS hP _⟩ rfl rfl hl.1 rfl (lv_room (Nat.le_of_ble_eq_true rfl)) dX8_complain_1 ⟨Nat.le_of_ble_eq_true rfl, Nat.le_of_ble_eq_true rfl⟩) hS (fun _ _ h => h) (fun _ h => h) (fun _ _ h => h) (fun E9 ce9 q9 u U8 H1 locs1 ht hvm hu hB hz1 hk1 hS1 hc1 hc2 hc3 => ?_) (fun u U8 H1 locs1 ht hvm hu hB hz1 hk1 hS1 => ?_)
  · obtain ⟨hB1, hB2, hB3⟩ := hB
    rw [ht] at hB3
    have hkx : ks (kIx b 8) (ks (kIx i (L (F 2 h)).length) (ks (kArg g (nI 0) (nI 2)) (if kCmpC F L h b.toNatClampNeg (ga (L (F 2 h)) i) g.toNatClampNeg then 0 else 3))) = (kIx b 8) := by exact ks_l hB2
    exact vx_out (fun z9 h9 => (htab z9 h9).elim) hlocks hc1 hc2 hc3 (fun t9 g1 g2 => ⟨(), trivial, ⟨by rw [hkx]; exact hB1, by rw [hkx]; exact hB2, by rw [g1]; exact hB3⟩, hS1.F g1⟩) hS1.2.2 (Nat.le_of_ble_eq_true rfl) (Nat.le_of_ble_eq_true rfl)
  · have hk0_1 : (kIx b 8) = 0 := hu
    have hB2 := hB
    replace hB2 : va_P D vwCl ws U8.heap := hB2
    rw [ht] at hB2
    clear hS
    have hS := hS1
    replace hP := hB2
    generalize H1 = H at hP hS ⊢
    obtain ⟨j, hj, rfl⟩ := kIx_0 (by decide) hk0_1
    have hcl_j : (nI j).toNatClampNeg = j := nI_clamp (by omega)
    rw [hcl_j]
    refine lv_aload_n hx hb dX8_complain_4 rfl (lv_at hl 0 rfl) ?_
    refine lv_iload_n hx hb dX8_complain_5 rfl (lv_at hl 2 rfl) ?_
    have hm_2 : (h, .inr (9, [.ref (F 0 h), .ref (F 1 h), .ref (F 2 h), .ref (F 3 h), .ref (F 4 h), .int (nI (F 5 h))])) ∈ ws := hC.at hk_h (by decide) (by decide)
    refine vx_callr (vx_runV (As := [.int i]) (rest := []) ⟨hx, hb, hml, hown, hts⟩ (cx_awardAt l hst D cI cO cb eA mi st ws hD hC hW hs h hk_h i) (cwV 1 hts gX8_complain_X8_awardAt rfl rfl rfl kd_X8_awardAt ⟨Nat.le_of_ble_eq_true rfl, Nat.le_of_ble_eq_true rfl⟩) ⟨cB_blind, c_recv hK hP rfl hm_2, cB_pre hK hG hA hS hP _⟩ rfl rfl hl.1 rfl (lv_room (Nat.le_of_ble_eq_true rfl)) dX8_complain_6 ⟨Nat.le_of_ble_eq_true rfl, Nat.le_of_ble_eq_true rfl⟩) hS (fun _ _ h => h) (fun _ h => h) (fun _ _ h => h) (fun E9 ce9 q9 u U8 H1 locs1 ht hvm hu hB hz1 hk1 hS1 hc1 hc2 hc3 => ?_) (fun u ra U8 H1 locs1 ht hvm hu hB hz1 hk1 hS1 => ?_)
    · obtain ⟨hB1, hB2, hB3⟩ := hB
      rw [ht] at hB3
      have hkx : ks (kIx (nI j) 8) (ks (kIx i (L (F 2 h)).length) (ks (kArg g (nI 0) (nI 2)) (if kCmpC F L h j (ga (L (F 2 h)) i) g.toNatClampNeg then 0 else 3))) = (kIx i (L (F 2 h)).length) := by exact (ks_r hk0_1).trans (ks_l hB2)
      exact vx_out (fun z9 h9 => (htab z9 h9).elim) hlocks hc1 hc2 hc3 (fun t9 g1 g2 => ⟨(), trivial, ⟨by rw [hkx]; exact hB1, by rw [hkx]; exact hB2, by rw [g1]; exact hB3⟩, hS1.F g1⟩) hS1.2.2 (Nat.le_of_ble_eq_true rfl) (Nat.le_of_ble_eq_true rfl)
    · have hk0_3 : (kIx i (L (F 2 h)).length) = 0 := hu
      obtain ⟨hra, hB2⟩ := hB
      subst hra
      replace hB2 : va_P D vwCl ws U8.heap := hB2
      rw [ht] at hB2
      clear hS
      have hS := hS1
      replace hP := hB2
      generalize H1 = H at hP hS ⊢
      have hk_4 : kd (ga (L (F 2 h)) i) = 2 := hW.ela (hW.ref hk_h rfl (by decide)) hk0_3
      refine lv_astore (lv' := [(4, .ref (ga (L (F 2 h)) i)), (0, .ref h), (1, .int (nI j)), (2, .int i), (3, .int g)]) hx hb dX8_complain_9 hl (by decide) rfl (fun ls hl => ?_)
      refine lv_iload_n hx hb dX8_complain_11 rfl (lv_at hl 4 rfl) ?_
      refine lv_iconst (v := nI 0) hx hb dX8_complain_12 (by decide) ?_
      refine lv_iconst (v := nI 2) hx hb dX8_complain_13 (by decide) ?_
      refine vp_callSi (W.runS (As := [.int g, .int (nI 0), .int (nI 2)]) (rest := []) ⟨hx, hb, hml, hown, hts⟩ (ck_isOutside l g (nI 0) (nI 2)) (va_cwS 3 hts gX8_complain_X8_isOutside rfl rfl rfl kd_X8_isOutside ⟨Nat.le_of_ble_eq_true rfl, Nat.le_of_ble_eq_true rfl⟩) ⟨fun _ _ _ _ q => q, fun U hU hW => ⟨rfl, trivial⟩⟩ rfl rfl hl.1 rfl (lv_room (Nat.le_of_ble_eq_true rfl)) dX8_complain_14 ⟨Nat.le_of_ble_eq_true rfl, Nat.le_of_ble_eq_true rfl⟩) (fun r_5 hr_5 => ?_)
      subst hr_5
      refine b_if_eq (tgt := 28) hx hb dX8_complain_17 (by decide)  (fun c_6 => ?_) (fun c_6 => ?_)
      · have dd_c_6 := of_decide_eq_false c_6
        obtain ⟨x, hlo_x, hhi_x, rfl⟩ := out_nat (by decide) (by decide) dd_c_6
        have hcl_x : (nI x).toNatClampNeg = x := nI_clamp (by omega)
        rw [hcl_x]
        refine lv_aload_n hx hb dX8_complain_28 rfl (lv_at hl 1 rfl) ?_
        refine c_get (C := RX8) (T := TX8) (N := 6) hx hb hts hin_X8 hown hK hP hm_2 rfl 3 (by decide) l_23 (fun _ h9 => h9) rfl dX8_complain_29 ?_
        have hk_7 : kd (F 3 h) = 25 := hW.ref (f := 3) hk_h rfl (by decide)
        have hl_8 : (L (F 3 h)).length ≤ 60 := hW.len hk_7 (by decide)
        obtain ⟨fs_hm_9, hm_9⟩ := hC.obj hk_7 (by decide)
        refine vp_callSi (W.runV (As := []) (rest := []) ⟨hx, hb, hml, hown, hts⟩ ((cl_size l D cI cO cb eA mi st ws hD (F 3 h) (L (F 3 h)) (hC.lst hk_7 (by decide)))) (cwV 0 hts gX8_complain_Jx4a65c_size_8abf5 rfl rfl rfl kd_Jx4a65c_size_8abf5 ⟨Nat.le_of_ble_eq_true rfl, Nat.le_of_ble_eq_true rfl⟩) ⟨cB_blind, c_recv hK hP rfl hm_9, cB_pre hK hG hA hS hP _⟩ rfl rfl hl.1 rfl (lv_room (Nat.le_of_ble_eq_true rfl)) dX8_complain_32 ⟨Nat.le_of_ble_eq_true rfl, Nat.le_of_ble_eq_true rfl⟩) (fun r_10 hr_10 => ?_)
        subst hr_10
        refine lv_istore (lv' := [(5, .int (nI ((L (F 3 h)).length))), (4, .ref (ga (L (F 2 h)) i)), (0, .ref h), (1, .int (nI j)), (2, .int i), (3, .int (nI x))]) hx hb dX8_complain_35 hl (by decide) rfl (fun ls hl => ?_)
        refine lv_aload hx hb dX8_complain_37 (lv_at hl 1 rfl) ?_
        have hm_11 : (ga (L (F 2 h)) i, .inr (2, [.int (nI (F 0 (ga (L (F 2 h)) i))), .ref (F 1 (ga (L (F 2 h)) i)), .ref (F 2 (ga (L (F 2 h)) i)), .int (nI (F 3 (ga (L (F 2 h)) i))), .int (nI (F 4 (ga (L (F 2 h)) i))), .int (nI (F 5 (ga (L (F 2 h)) i))), .int (nI (F 6 (ga (L (F 2 h)) i)))])) ∈ ws := hC.at hk_4 (by decide) (by decide)
        refine c_get (C := RX0) (T := TX0) (N := 7) hx hb hts hin_X0 hown hK hP hm_11 rfl 4 (by decide) l_159 (fun _ h9 => h9) rfl dX8_complain_39 ?_
        have hn_12 : F 4 (ga (L (F 2 h)) i) < 2 := hW.num (f := 4) hk_4 rfl (by decide)
        refine n_if_ne (tgt := 75) hx hb dX8_complain_42 (by decide) (by omega) (fun c_13 => ?_) (fun c_13 => ?_)
        · have hkx : ks (kIx (nI j) 8) (ks (kIx i (L (F 2 h)).length) (ks (kArg (nI x) (nI 0) (nI 2)) (if kCmpC F L h j (ga (L (F 2 h)) i) x then 0 else 3))) = 3 := by exact (ks_r hk0_1).trans ((ks_r hk0_3).trans ((ks_r (if_neg dd_c_6)).trans (if_neg (by rintro ⟨q1, q2, q3, q4⟩; first | omega | (rw [show kMay F L h j (ga (L (F 2 h)) i) (nI x) = false by assumption] at q3; cases q3)))))
          exact vx_throw0 (A := A) (own := RX8) (cls := "java/lang/IllegalStateException") (names := ["java/lang/RuntimeException", "java/lang/Exception"]) (ik := 44) (ic := 46) hx hb hst hown (by decide +kernel) (by decide +kernel) (hts (.classLink RX8 44 "java/lang/IllegalStateException") (List.mem_of_getElem? (i := 3) rfl)) (hts (.initialized "java/lang/IllegalStateException") (List.mem_of_getElem? (i := 4) rfl)) (vx_hat (L := vx_at0 RX8 46 "java/lang/IllegalStateException" ["java/lang/RuntimeException", "java/lang/Exception"]) (fun w9 h9 => hts w9 (List.mem_cons_of_mem _ (List.mem_append_left _ (List.mem_append_right _ h9)))) gB3 (gB_of (by decide +kernel) hG.2.2.2.2.2.2.1)) (by decide +kernel) hG.1 hG.2.1 hS (hl.1.trans hml.symm) dX8_complain_75 dX8_complain_78 dX8_complain_79 dX8_complain_82 (fun z9 h9 => (htab z9 h9).elim) (by decide) (Nat.le_of_ble_eq_true rfl) (Nat.le_of_ble_eq_true rfl) (Nat.le_of_ble_eq_true rfl) hlocks (fun t9 _ g2 g3 => ⟨(), trivial, ⟨by rw [hkx]; rfl, by rw [hkx]; decide, (x_keep hS hP g2 g3).1⟩, (x_keep hS hP g2 g3).2⟩) hS.2.2 (Nat.le_of_ble_eq_true rfl) (Nat.le_of_ble_eq_true rfl)
        · refine lv_aload_n hx hb dX8_complain_45 rfl (lv_at hl 2 rfl) ?_
          refine c_get (C := RX8) (T := TX8) (N := 6) hx hb hts hin_X8 hown hK hP hm_2 rfl 5 (by decide) l_29 (fun _ h9 => h9) rfl dX8_complain_46 ?_
          have hn_14 : F 5 h < 2001 := hW.num (f := 5) hk_h rfl (by decide)
          refine lv_aload hx hb dX8_complain_49 (lv_at hl 1 rfl) ?_
          refine c_get (C := RX0) (T := TX0) (N := 7) hx hb hts hin_X0 hown hK hP hm_11 rfl 3 (by decide) l_184 (fun _ h9 => h9) rfl dX8_complain_51 ?_
          have hn_15 : F 3 (ga (L (F 2 h)) i) < 3000 := hW.num (f := 3) hk_4 rfl (by decide)
          refine n_icmp_ge (tgt := 75) hx hb dX8_complain_54 (by decide) (by omega) (by omega) (fun c_16 => ?_) (fun c_16 => ?_)
          · have hkx : ks (kIx (nI j) 8) (ks (kIx i (L (F 2 h)).length) (ks (kArg (nI x) (nI 0) (nI 2)) (if kCmpC F L h j (ga (L (F 2 h)) i) x then 0 else 3))) = 3 := by exact (ks_r hk0_1).trans ((ks_r hk0_3).trans ((ks_r (if_neg dd_c_6)).trans (if_neg (by rintro ⟨q1, q2, q3, q4⟩; first | omega | (rw [show kMay F L h j (ga (L (F 2 h)) i) (nI x) = false by assumption] at q3; cases q3)))))
            exact vx_throw0 (A := A) (own := RX8) (cls := "java/lang/IllegalStateException") (names := ["java/lang/RuntimeException", "java/lang/Exception"]) (ik := 44) (ic := 46) hx hb hst hown (by decide +kernel) (by decide +kernel) (hts (.classLink RX8 44 "java/lang/IllegalStateException") (List.mem_of_getElem? (i := 3) rfl)) (hts (.initialized "java/lang/IllegalStateException") (List.mem_of_getElem? (i := 4) rfl)) (vx_hat (L := vx_at0 RX8 46 "java/lang/IllegalStateException" ["java/lang/RuntimeException", "java/lang/Exception"]) (fun w9 h9 => hts w9 (List.mem_cons_of_mem _ (List.mem_append_left _ (List.mem_append_right _ h9)))) gB3 (gB_of (by decide +kernel) hG.2.2.2.2.2.2.1)) (by decide +kernel) hG.1 hG.2.1 hS (hl.1.trans hml.symm) dX8_complain_75 dX8_complain_78 dX8_complain_79 dX8_complain_82 (fun z9 h9 => (htab z9 h9).elim) (by decide) (Nat.le_of_ble_eq_true rfl) (Nat.le_of_ble_eq_true rfl) (Nat.le_of_ble_eq_true rfl) hlocks (fun t9 _ g2 g3 => ⟨(), trivial, ⟨by rw [hkx]; rfl, by rw [hkx]; decide, (x_keep hS hP g2 g3).1⟩, (x_keep hS hP g2 g3).2⟩) hS.2.2 (Nat.le_of_ble_eq_true rfl) (Nat.le_of_ble_eq_true rfl)
          · refine lv_aload_n hx hb dX8_complain_57 rfl (lv_at hl 2 rfl) ?_
            refine lv_iload_n hx hb dX8_complain_58 rfl (lv_at hl 3 rfl) ?_
            refine lv_aload hx hb dX8_complain_59 (lv_at hl 1 rfl) ?_
            refine lv_iload_n hx hb dX8_complain_61 rfl (lv_at hl 5 rfl) ?_
            refine vp_callSi (W.runV (As := [.int (nI j), .ref (ga (L (F 2 h)) i), .int (nI x)]) (rest := []) ⟨hx, hb, hml, hown, hts⟩ (ck_mayComplain l D cI cO cb eA mi st ws hD hC hW hs h hk_h j (ga (L (F 2 h)) i) hk_4 (nI x) (by omega)) (cwV 3 hts gX8_complain_X8_mayComplain rfl rfl rfl kd_X8_mayComplain ⟨Nat.le_of_ble_eq_true rfl, Nat.le_of_ble_eq_true rfl⟩) ⟨cB_blind, c_recv hK hP rfl hm_2, cB_pre hK hG hA hS hP _⟩ rfl rfl hl.1 rfl (lv_room (Nat.le_of_ble_eq_true rfl)) dX8_complain_62 ⟨Nat.le_of_ble_eq_true rfl, Nat.le_of_ble_eq_true rfl⟩) (fun r_17 hr_17 => ?_)
            subst hr_17
            refine b_if_eq (tgt := 75) hx hb dX8_complain_65 (by decide)  (fun c_18 => ?_) (fun c_18 => ?_)
            · have hkx : ks (kIx (nI j) 8) (ks (kIx i (L (F 2 h)).length) (ks (kArg (nI x) (nI 0) (nI 2)) (if kCmpC F L h j (ga (L (F 2 h)) i) x then 0 else 3))) = 3 := by exact (ks_r hk0_1).trans ((ks_r hk0_3).trans ((ks_r (if_neg dd_c_6)).trans (if_neg (by rintro ⟨q1, q2, q3, q4⟩; first | omega | (rw [show kMay F L h j (ga (L (F 2 h)) i) (nI x) = false by assumption] at q3; cases q3)))))
              exact vx_throw0 (A := A) (own := RX8) (cls := "java/lang/IllegalStateException") (names := ["java/lang/RuntimeException", "java/lang/Exception"]) (ik := 44) (ic := 46) hx hb hst hown (by decide +kernel) (by decide +kernel) (hts (.classLink RX8 44 "java/lang/IllegalStateException") (List.mem_of_getElem? (i := 3) rfl)) (hts (.initialized "java/lang/IllegalStateException") (List.mem_of_getElem? (i := 4) rfl)) (vx_hat (L := vx_at0 RX8 46 "java/lang/IllegalStateException" ["java/lang/RuntimeException", "java/lang/Exception"]) (fun w9 h9 => hts w9 (List.mem_cons_of_mem _ (List.mem_append_left _ (List.mem_append_right _ h9)))) gB3 (gB_of (by decide +kernel) hG.2.2.2.2.2.2.1)) (by decide +kernel) hG.1 hG.2.1 hS (hl.1.trans hml.symm) dX8_complain_75 dX8_complain_78 dX8_complain_79 dX8_complain_82 (fun z9 h9 => (htab z9 h9).elim) (by decide) (Nat.le_of_ble_eq_true rfl) (Nat.le_of_ble_eq_true rfl) (Nat.le_of_ble_eq_true rfl) hlocks (fun t9 _ g2 g3 => ⟨(), trivial, ⟨by rw [hkx]; rfl, by rw [hkx]; decide, (x_keep hS hP g2 g3).1⟩, (x_keep hS hP g2 g3).2⟩) hS.2.2 (Nat.le_of_ble_eq_true rfl) (Nat.le_of_ble_eq_true rfl)
            · refine lv_iload hx hb dX8_complain_68 (lv_at hl 0 rfl) ?_
              refine lv_bipush (v := nI 60) hx hb dX8_complain_70 (by decide) ?_
              refine n_icmp_lt (tgt := 83) hx hb dX8_complain_72 (by decide) (by omega) (by decide) (fun c_19 => ?_) (fun c_19 => ?_)
              · refine lv_aload_n hx hb dX8_complain_83 rfl (lv_at hl 2 rfl) ?_
                refine c_get (C := RX8) (T := TX8) (N := 6) hx hb hts hin_X8 hown hK hP hm_2 rfl 3 (by decide) l_23 (fun _ h9 => h9) rfl dX8_complain_84 ?_
                have hC0 := hC
                refine va_new (ci := 5) (fs := [.int (nI 0), .null, .int (nI 0), .int (nI 0), .int (nI 0), .int (nI 0)]) hx hb hts hin_X3 tyX3 tyX3_ok hown (hts (.classLink RX8 191 RX3) (List.mem_of_getElem? (i := 9) rfl)) (hts (.instantiable RX3 6) (List.mem_of_getElem? (i := 10) rfl)) (hts (.initialized RX3) (List.mem_of_getElem? (i := 11) rfl)) hK hP hD hS hA rfl (fun j9 h9 => by rcases j9 with _ | _ | _ | _ | _ | _ | j9 <;> first | rfl | omega) (Nat.le_of_ble_eq_true rfl) (Nat.le_of_ble_eq_true rfl) dX8_complain_87 (fun q H hP hD hS => ?_)
                have hq0 := hC0.fresh hD
                have hC := hC0.app (ws2 := [(q, .inr (5, [.int (nI 0), .null, .int (nI 0), .int (nI 0), .int (nI 0), .int (nI 0)]))])
                have hq1 : (q, .inr (5, [.int (nI 0), .null, .int (nI 0), .int (nI 0), .int (nI 0), .int (nI 0)])) ∈ (ws ++ [(q, .inr (5, [.int (nI 0), .null, .int (nI 0), .int (nI 0), .int (nI 0), .int (nI 0)]))]) := List.mem_append_right _ (List.mem_singleton.mpr rfl)
                refine lv_dup hx hb dX8_complain_90 rfl ?_
                refine lv_iload_n hx hb dX8_complain_91 rfl (lv_at hl 3 rfl) ?_
                refine lv_aload hx hb dX8_complain_92 (lv_at hl 1 rfl) ?_
                refine lv_iload_n hx hb dX8_complain_94 rfl (lv_at hl 5 rfl) ?_
                refine va_callv (va_runI (As := [.int (nI j), .ref (ga (L (F 2 h)) i), .int (nI x)]) (rest := [.ref q, .ref (F 3 h)]) ⟨hx, hb, hml, hown, hts⟩ (ci_X3 l D cI cO cb eA mi st (ws ++ [(q, .inr (5, [.int (nI 0), .null, .int (nI 0), .int (nI 0), .int (nI 0), .int (nI 0)]))]) hD q hq1 j (ga (L (F 2 h)) i) x) (cwI 3 hts ggX8_complain_X3_init rfl rfl rfl (hts (.initialized RX3) (List.mem_of_getElem? (i := 11) rfl)) (hts (.methodLink RX8 193 yX3_init) (List.mem_of_getElem? (i := 76) rfl)) (hts (.instanceMethod yX3_init) (List.mem_of_getElem? (i := 77) rfl)) rfl kd_X3_init ⟨Nat.le_of_ble_eq_true rfl, Nat.le_of_ble_eq_true rfl⟩) ⟨cB_blind, cB_pre hK hG hA hS hP _⟩ rfl rfl hl.1 rfl (lv_room (Nat.le_of_ble_eq_true rfl)) dX8_complain_95 ⟨Nat.le_of_ble_eq_true rfl, Nat.le_of_ble_eq_true rfl⟩) hS (fun _ _ h => h) (fun _ h => h) (fun u U8 H1 locs1 ht hvm hu hB hz1 hk1 hS1 => ?_)
                obtain ⟨hD1, hB⟩ := hB
                rw [ht] at hB
                clear hS
                have hS := hS1
                replace hP := hB
                replace hD := hD1
                generalize H1 = H at hP hS ⊢
                rw [wup_app hD] at hP hD
                have hC := hC0.new (k := 5) (vals := [j, ga (L (F 2 h)) i, x, 0, 0, 0]) hD (by decide) (by simp [ent, FN])
                have hr9 : ∀ f9, rg 5 f9 = 0 ∨ ([j, ga (L (F 2 h)) i, x, 0, 0, 0] : List Nat).getD f9 0 < rg 5 f9 := by
                  intro f9
                  rcases f9 with _ | _ | _ | _ | _ | _ | f9
                  · exact Or.inr (show j < 8 by omega)
                  · exact Or.inl rfl
                  · exact Or.inr (show x < 3 by omega)
                  · exact Or.inr (show 0 < 4 by omega)
                  · exact Or.inr (show 0 < 2001 by omega)
                  · exact Or.inr (show 0 < 2 by omega)
                  · exact Or.inl rfl
                have hr8 : ∀ f9, rk 5 f9 = 0 ∨ kd (([j, ga (L (F 2 h)) i, x, 0, 0, 0] : List Nat).getD f9 0) = rk 5 f9 := by
                  intro f9
                  rcases f9 with _ | _ | _ | _ | _ | _ | f9
                  · exact Or.inl rfl
                  · exact Or.inr (show kd (ga (L (F 2 h)) i) = 2 from hk_4)
                  · exact Or.inl rfl
                  · exact Or.inl rfl
                  · exact Or.inl rfl
                  · exact Or.inl rfl
                  · exact Or.inl rfl
                have hW := hW.new (k := 5) hq0 (by decide) hr9 hr8
                obtain ⟨fs_hm_20, hm_20⟩ := hC.obj (kdN_old hq0 hk_7 (by decide)) (by decide)
                refine va_calli (va_runV (As := [.ref q]) (rest := []) ⟨hx, hb, hml, hown, hts⟩ (cl_add l D cI cO cb eA mi st (ws ++ [(q, .inr (5, [.int (nI j), .ref (ga (L (F 2 h)) i), .int (nI x), .int (nI 0), .int (nI 0), .int (nI 0)]))]) hD (F 3 h) (L (F 3 h)) q (hC.lst (kdN_old hq0 hk_7 (by decide)) (by decide)) (hC.els hW (kdN_old hq0 hk_7 (by decide)) (by decide)) (hC.elt (by rw [kdN_eq]; decide) (by rw [kdN_eq]; decide)) (by omega)) (cwV 1 hts gX8_complain_Jx4a65c_add_9ea2d rfl rfl rfl kd_Jx4a65c_add_9ea2d ⟨Nat.le_of_ble_eq_true rfl, Nat.le_of_ble_eq_true rfl⟩) ⟨cB_blind, c_recv hK hP rfl hm_20, cB_pre hK hG hA hS hP _⟩ rfl rfl hl.1 rfl (lv_room (Nat.le_of_ble_eq_true rfl)) dX8_complain_98 ⟨Nat.le_of_ble_eq_true rfl, Nat.le_of_ble_eq_true rfl⟩) hS (fun _ _ h => h) (fun _ h => h) (fun ri u U8 H1 locs1 ht hvm hu hB hz1 hk1 hS1 => ?_)
                obtain ⟨hri, hu1, hu2, hD⟩ := hu
                subst hri
                rw [ht] at hB
                clear hS
                have hS := hS1
                replace hP := hB
                generalize H1 = H at hP hS ⊢
                have hC := hC.setL hu2 hu1
                have hW := hW.setL (kdN_old hq0 hk_7 (by decide)) (show (L (F 3 h) ++ [q]).length ≤ 60 by rw [List.length_append]; show _ + 1 ≤ 60; omega) (els_add (fun x9 h9 => by rw [(hW.2.2 _ (by rw [(kdN_old hq0 hk_7 (by decide))]; decide)).2.2.2 x9 h9]; exact (kdN_old hq0 hk_7 (by decide))) (by rw [kdN_eq]))
                refine lv_pop hx hb dX8_complain_101 rfl ?_
                refine lv_iload hx hb dX8_complain_102 (lv_at hl 0 rfl) ?_
                refine W.widen (k := 4) (n := 114) (by omega) (by omega) ?_
                refine vx_ret ?_
                have hk9 : ks (kIx (nI j) 8) (ks (kIx i (L (F 2 h)).length) (ks (kArg (nI x) (nI 0) (nI 2)) (if kCmpC F L h j (ga (L (F 2 h)) i) x then 0 else 3))) = 0 := by exact (ks_r hk0_1).trans ((ks_r hk0_3).trans ((ks_r (if_neg dd_c_6)).trans (if_pos ⟨by omega, by omega, by assumption, by omega⟩)))
                exact W.iret (v := nI ((L (F 3 h)).length)) hx hb hr (fun U9 ht hW9 => ⟨⟨_, (u.1, u.2, q), rfl, ⟨hk9, (show nI ((L (F 3 h)).length) = nI ((L (F 3 h)).length) from by rfl), hC, hW, hq0, hD⟩, by show va_P D vwCl _ U9.heap; rw [ht]; exact hP⟩, hS.F ht⟩) hS.2.2 dX8_complain_104
              · have hkx : ks (kIx (nI j) 8) (ks (kIx i (L (F 2 h)).length) (ks (kArg (nI x) (nI 0) (nI 2)) (if kCmpC F L h j (ga (L (F 2 h)) i) x then 0 else 3))) = 3 := by exact (ks_r hk0_1).trans ((ks_r hk0_3).trans ((ks_r (if_neg dd_c_6)).trans (if_neg (by rintro ⟨q1, q2, q3, q4⟩; first | omega | (rw [show kMay F L h j (ga (L (F 2 h)) i) (nI x) = false by assumption] at q3; cases q3)))))
                exact vx_throw0 (A := A) (own := RX8) (cls := "java/lang/IllegalStateException") (names := ["java/lang/RuntimeException", "java/lang/Exception"]) (ik := 44) (ic := 46) hx hb hst hown (by decide +kernel) (by decide +kernel) (hts (.classLink RX8 44 "java/lang/IllegalStateException") (List.mem_of_getElem? (i := 3) rfl)) (hts (.initialized "java/lang/IllegalStateException") (List.mem_of_getElem? (i := 4) rfl)) (vx_hat (L := vx_at0 RX8 46 "java/lang/IllegalStateException" ["java/lang/RuntimeException", "java/lang/Exception"]) (fun w9 h9 => hts w9 (List.mem_cons_of_mem _ (List.mem_append_left _ (List.mem_append_right _ h9)))) gB3 (gB_of (by decide +kernel) hG.2.2.2.2.2.2.1)) (by decide +kernel) hG.1 hG.2.1 hS (hl.1.trans hml.symm) dX8_complain_75 dX8_complain_78 dX8_complain_79 dX8_complain_82 (fun z9 h9 => (htab z9 h9).elim) (by decide) (Nat.le_of_ble_eq_true rfl) (Nat.le_of_ble_eq_true rfl) (Nat.le_of_ble_eq_true rfl) hlocks (fun t9 _ g2 g3 => ⟨(), trivial, ⟨by rw [hkx]; rfl, by rw [hkx]; decide, (x_keep hS hP g2 g3).1⟩, (x_keep hS hP g2 g3).2⟩) hS.2.2 (Nat.le_of_ble_eq_true rfl) (Nat.le_of_ble_eq_true rfl)
      · have dd_c_6 := of_decide_eq_true c_6
        have hkx : ks (kIx (nI j) 8) (ks (kIx i (L (F 2 h)).length) (ks (kArg g (nI 0) (nI 2)) (if kCmpC F L h j (ga (L (F 2 h)) i) g.toNatClampNeg then 0 else 3))) = 2 := by exact (ks_r hk0_1).trans ((ks_r hk0_3).trans ((ks_l (by rw [kArg, if_pos dd_c_6]; decide)).trans (if_pos dd_c_6)))
        exact vx_throw0 (A := A) (own := RX8) (cls := "java/lang/IllegalArgumentException") (names := ["java/lang/RuntimeException", "java/lang/Exception"]) (ik := 37) (ic := 39) hx hb hst hown (by decide +kernel) (by decide +kernel) (hts (.classLink RX8 37 "java/lang/IllegalArgumentException") (List.mem_of_getElem? (i := 1) rfl)) (hts (.initialized "java/lang/IllegalArgumentException") (List.mem_of_getElem? (i := 2) rfl)) (vx_hat (L := vx_at0 RX8 39 "java/lang/IllegalArgumentException" ["java/lang/RuntimeException", "java/lang/Exception"]) (fun w9 h9 => hts w9 (List.mem_cons_of_mem _ (List.mem_append_left _ (List.mem_append_left _ (List.mem_append_right _ h9))))) gB2 (gB_of (by decide +kernel) hG.2.2.2.2.2.2.1)) (by decide +kernel) hG.1 hG.2.1 hS (hl.1.trans hml.symm) dX8_complain_20 dX8_complain_23 dX8_complain_24 dX8_complain_27 (fun z9 h9 => (htab z9 h9).elim) (by decide) (Nat.le_of_ble_eq_true rfl) (Nat.le_of_ble_eq_true rfl) (Nat.le_of_ble_eq_true rfl) hlocks (fun t9 _ g2 g3 => ⟨(), trivial, ⟨by rw [hkx]; rfl, by rw [hkx]; decide, (x_keep hS hP g2 g3).1⟩, (x_keep hS hP g2 g3).2⟩) hS.2.2 (Nat.le_of_ble_eq_true rfl) (Nat.le_of_ble_eq_true rfl)
