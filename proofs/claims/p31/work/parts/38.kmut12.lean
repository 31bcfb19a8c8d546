/-! the class: paper -/
def kSlot (b k : Int32) : Int32 := if isIx b 8 = true ∧ isIx k 6 = true then nI (b.toNatClampNeg * 6 + k.toNatClampNeg) else -1
theorem isIx_out {b : Int32} {n n1 : Nat} (hn : n < 2 ^ 31) (h1 : n = n1 + 1) (h : b < nI 0 ∨ nI n1 < b) : ¬ isIx b n = true := by
  intro q
  obtain ⟨j, hj, rfl⟩ := isIx_of hn q
  rcases h with h | h
  · exact nI_nlt (Nat.zero_le _) (by omega) h
  · exact nI_nlt (by omega) (by omega) h
theorem kSlot_in {b k : Nat} (hb : b < 8) (hk : k < 6) : kSlot (nI b) (nI k) = nI (b * 6 + k) := by
  unfold kSlot
  rw [if_pos ⟨isIx_nI (by decide) hb, isIx_nI (by decide) hk⟩, nI_clamp (by omega), nI_clamp (by omega)]
theorem kSlot_of {b k : Int32} (h : ¬ kSlot b k = -1) : ∃ x y : Nat, x < 8 ∧ y < 6 ∧ b = nI x ∧ k = nI y := by
  unfold kSlot at h
  by_cases q : isIx b 8 = true ∧ isIx k 6 = true
  · obtain ⟨x, hx, rfl⟩ := isIx_of (by decide) q.1
    obtain ⟨y, hy, rfl⟩ := isIx_of (by decide) q.2
    exact ⟨x, y, hx, hy, rfl, rfl⟩
  · exact absurd (if_neg q) h
def kPapK (b k : Int32) : Nat := if isIx b 8 = true ∧ isIx k 6 = true then 0 else 1
theorem kPapK_in {b k : Nat} (hb : b < 8) (hk : k < 6) : kPapK (nI b) (nI k) = 0 := if_pos ⟨isIx_nI (by decide) hb, isIx_nI (by decide) hk⟩
theorem kPapK_out {b k : Int32} (h : kSlot b k = -1) : kPapK b k = 1 := by
  unfold kPapK
  by_cases q : isIx b 8 = true ∧ isIx k 6 = true
  · exfalso
    obtain ⟨x, hx, rfl⟩ := isIx_of (by decide) q.1
    obtain ⟨y, hy, rfl⟩ := isIx_of (by decide) q.2
    rw [kSlot_in hx hy] at h
    exact nI_nem1 (by omega) h
  · exact if_neg q
theorem pap_of {x : Int32} (h : ¬ (x < -1 ∨ nI 2000 < x)) : ∃ j : Nat, j ≤ 2001 ∧ x = nI j - nI 1 := by
  refine i_in_m1 (b := 2000) (by decide) ?_
  simp only [i_in, Bool.and_eq_true, Bool.not_eq_true', decide_eq_false_iff_not]
  exact not_or.mp h
theorem pap_back {w : Nat} (hw : w ≤ 2001) : (nI w - nI 1 + 1).toNatClampNeg = w := by
  rw [show (1 : Int32) = nI 1 from rfl, n_sub_add1, nI_clamp (by omega)]
theorem ent_pap (st : Nat → Nat) (cI : ClassId) {F : Nat → Nat → Nat} {f a w : Nat} : ent st cI 11 (up2 F f a w) a = .inl (cI, 48, .inl (upd (fun i => nI (F i a) - 1) f (nI w - nI 1))) := by
  have h : (fun i => nI (up2 F f a w i a) - 1) = upd (fun i => nI (F i a) - 1) f (nI w - nI 1) := by
    funext i
    unfold up2 upd
    by_cases q : i = f
    · rw [if_pos ⟨q, rfl⟩, if_pos q]; rfl
    · rw [if_neg (fun z => q z.1), if_neg q]
  show Sum.inl _ = _
  rw [h]
set_option maxHeartbeats 4000000 in
set_option maxRecDepth 100000 in
theorem ck_paperSlotG (l : Launch)   (b : Int32) (k : Int32) : Met l yX8_paperSlot wsX8_paperSlot ({ frames := 1, cells := 0, slots := 0, locals := 22 }) (va_Pc [.int b, .int k] (fun _ => True)) (vp_Si (fun ri => ri = kSlot b k)) 0 0 (fun _ => False) := by
  refine Met.ofW (cc := cX8_paperSlot) (maxL := 2) (ret := (some .int)) (by decide) rfl ?_
  intro p e s m args below meth c s₁ B hml hv
  obtain ⟨rfl, -⟩ := hv
  have hx := B.exec
  have hb := B.bytes
  have hr := B.returns
  have hts := atoms_spec (ws := wsX8_paperSlot) B.pre
  have hown : s.vm.findClass RX8 = some m.cls := findClass_of_methodNamed B.named
  have hlocks := B.notSynchronized
  have hl := lv_entry ([.int b, .int k]) (n := 2) (Nat.le_of_ble_eq_true rfl)
  rw [lg_entry_eq]
  generalize (lg_sl ([.int b, .int k]) ++ List.replicate (2 - (lg_sl ([.int b, .int k])).length) Slot.unset).toArray = ls at hl ⊢
  have hl : lv_has ls 2 [(0, .int b), (1, .int k)] := hl
  refine lv_iload_n hx hb dX8_paperSlot_0 rfl (lv_at hl 0 rfl) ?_
  refine lv_iconst (v := nI 0) hx hb dX8_paperSlot_1 (by decide) ?_
  refine lv_bipush (v := nI 7) hx hb dX8_paperSlot_2 (by decide) ?_
  refine vp_callSi (W.runS (As := [.int b, .int (nI 0), .int (nI 7)]) (rest := []) ⟨hx, hb, hml, hown, hts⟩ (ck_isOutside l b (nI 0) (nI 7)) (va_cwS 3 hts gX8_paperSlot_X8_isOutside rfl rfl rfl kd_X8_isOutside ⟨Nat.le_of_ble_eq_true rfl, Nat.le_of_ble_eq_true rfl⟩) ⟨fun _ _ _ _ q => q, fun U hU hW => ⟨rfl, trivial⟩⟩ rfl rfl hl.1 rfl (lv_room (Nat.le_of_ble_eq_true rfl)) dX8_paperSlot_4 ⟨Nat.le_of_ble_eq_true rfl, Nat.le_of_ble_eq_true rfl⟩) (fun r_1 hr_1 => ?_)
  subst hr_1
  refine b_if_ne (tgt := 19) hx hb dX8_paperSlot_7 (by decide)  (fun c_2 => ?_) (fun c_2 => ?_)
  · have dd_c_2 := of_decide_eq_true c_2
    refine lv_iconst (v := (-1)) hx hb dX8_paperSlot_19 (by decide) ?_
    exact W.iret (v := (-1)) hx hb hr (fun U9 ht hW9 => ⟨_, rfl, (show (-1) = kSlot b k from by unfold kSlot; rw [if_neg (by first | exact fun q9 => isIx_out (by decide) rfl (by assumption) q9.1 | exact fun q9 => isIx_out (by decide) rfl (by assumption) q9.2)]), ht⟩) (fun _ h => by cases h) dX8_paperSlot_20
  · have dd_c_2 := of_decide_eq_false c_2
    obtain ⟨x, hlo_x, hhi_x, rfl⟩ := out_nat (by decide) (by decide) dd_c_2
    refine lv_iload_n hx hb dX8_paperSlot_10 rfl (lv_at hl 1 rfl) ?_
    refine lv_iconst (v := nI 0) hx hb dX8_paperSlot_11 (by decide) ?_
    refine lv_iconst (v := nI 5) hx hb dX8_paperSlot_12 (by decide) ?_
    refine vp_callSi (W.runS (As := [.int k, .int (nI 0), .int (nI 5)]) (rest := []) ⟨hx, hb, hml, hown, hts⟩ (ck_isOutside l k (nI 0) (nI 5)) (va_cwS 3 hts gX8_paperSlot_X8_isOutside rfl rfl rfl kd_X8_isOutside ⟨Nat.le_of_ble_eq_true rfl, Nat.le_of_ble_eq_true rfl⟩) ⟨fun _ _ _ _ q => q, fun U hU hW => ⟨rfl, trivial⟩⟩ rfl rfl hl.1 rfl (lv_room (Nat.le_of_ble_eq_true rfl)) dX8_paperSlot_13 ⟨Nat.le_of_ble_eq_true rfl, Nat.le_of_ble_eq_true rfl⟩) (fun r_3 hr_3 => ?_)
    subst hr_3
    refine b_if_eq (tgt := 21) hx hb dX8_paperSlot_16 (by decide)  (fun c_4 => ?_) (fun c_4 => ?_)
    · have dd_c_4 := of_decide_eq_false c_4
      obtain ⟨y, hlo_y, hhi_y, rfl⟩ := out_nat (by decide) (by decide) dd_c_4
      refine lv_iload_n hx hb dX8_paperSlot_21 rfl (lv_at hl 0 rfl) ?_
      refine lv_bipush (v := nI 6) hx hb dX8_paperSlot_22 (by decide) ?_
      refine n_imul hx hb dX8_paperSlot_24 (z := x * 6) rfl ?_
      refine lv_iload_n hx hb dX8_paperSlot_25 rfl (lv_at hl 1 rfl) ?_
      refine n_iadd hx hb dX8_paperSlot_26 (z := (x * 6) + y) rfl ?_
      exact W.iret (v := nI ((x * 6) + y)) hx hb hr (fun U9 ht hW9 => ⟨_, rfl, (kSlot_in (by omega) (by omega)).symm, ht⟩) (fun _ h => by cases h) dX8_paperSlot_27
    · have dd_c_4 := of_decide_eq_true c_4
      refine lv_iconst (v := (-1)) hx hb dX8_paperSlot_19 (by decide) ?_
      exact W.iret (v := (-1)) hx hb hr (fun U9 ht hW9 => ⟨_, rfl, (show (-1) = kSlot (nI x) k from by unfold kSlot; rw [if_neg (by first | exact fun q9 => isIx_out (by decide) rfl (by assumption) q9.1 | exact fun q9 => isIx_out (by decide) rfl (by assumption) q9.2)]), ht⟩) (fun _ h => by cases h) dX8_paperSlot_20
set_option maxHeartbeats 4000000 in
set_option maxRecDepth 100000 in
theorem cm_paper (l : Launch) (hst : l.stackTraces = false) (D : va_G) (cI cO cb : ClassId) (eA mi : Nat) (st : Nat → Nat) {A : Nat → Prop} (ws : va_W) (hD : va_D A ws) {own kd : Nat → Nat} {F : Nat → Nat → Nat} {L : Nat → List Nat} (hC : CW cI cO eA st own kd F L ws) (hW : WF kd F L) (hs : sInj st)  (h : Nat) (hk_h : kd h = 9) (b : Int32) (k : Int32) (uu : Int32) : vx_Met l yX8_paper wsX8_paper ({ frames := 6, cells := 1, slots := 6, locals := 81 }) (va_Pc [.ref h, .int b, .int k, .int uu] (cB D cI cO cb eA mi st A ws)) (va_Qi (fun (ri : Int32) (u : va_W) => ks (kPapK b k) (kArg uu (-1) (nI 2000)) = 0 ∧ ri = nI (F (b.toNatClampNeg * 6 + k.toNatClampNeg) (F 0 h)) - 1 ∧ CW cI cO eA st own kd (up2 F (b.toNatClampNeg * 6 + k.toNatClampNeg) (F 0 h) (uu + 1).toNatClampNeg) L u ∧ WF kd (up2 F (b.toNatClampNeg * 6 + k.toNatClampNeg) (F 0 h) (uu + 1).toNatClampNeg) L ∧ va_D A u) (fun u U9 => va_P D vwCl u U9.heap) A) (XK D ws A (ks (kPapK b k) (kArg uu (-1) (nI 2000)))) 1 6 A := by
  refine vx_ofW (cc := cX8_paper) (maxL := 6) (ret := (some .int)) (by decide) rfl ?_
  intro p e s m args below meth c s₁ B hml htab hv
  obtain ⟨rfl, hP, hK, hG, hA⟩ := hv
  have hx := B.exec
  have hb := B.bytes
  have hr := B.returns
  have hts := atoms_spec (ws := wsX8_paper) B.pre
  have hown : s.vm.findClass RX8 = some m.cls := findClass_of_methodNamed B.named
  have hlocks := B.notSynchronized
  have hin_X8 : ∀ w ∈ wsX80, w ∈ wsX8_paper := fun w h => List.mem_cons_of_mem _ (List.mem_append_left _ (List.mem_append_left _ (List.mem_append_right _ h)))
  have l_9 := (hts (.fieldLink RX8 9 "TenderHall" "paperUntil" "[I") (List.mem_of_getElem? (i := 5) rfl))
  have hS : va_S A s.heap s.heap [] := va_S.rf
  have hD0 := hD
  have hl := lv_entry ([.ref h, .int b, .int k, .int uu]) (n := 6) (Nat.le_of_ble_eq_true rfl)
  rw [lg_entry_eq]
  generalize (lg_sl ([.ref h, .int b, .int k, .int uu]) ++ List.replicate (6 - (lg_sl ([.ref h, .int b, .int k, .int uu])).length) Slot.unset).toArray = ls at hl ⊢
  have hl : lv_has ls 6 [(0, .ref h), (1, .int b), (2, .int k), (3, .int uu)] := hl
  refine lv_iload_n hx hb dX8_paper_0 rfl (lv_at hl 1 rfl) ?_
  refine lv_iload_n hx hb dX8_paper_1 rfl (lv_at hl 2 rfl) ?_
  refine vp_callSi (W.runS (As := [.int b, .int k]) (rest := []) ⟨hx, hb, hml, hown, hts⟩ (ck_paperSlotG l b k) (va_cwS 2 hts gX8_paper_X8_paperSlot rfl rfl rfl kd_X8_paperSlot ⟨Nat.le_of_ble_eq_true rfl, Nat.le_of_ble_eq_true rfl⟩) ⟨fun _ _ _ _ q => q, fun U hU hW => ⟨rfl, trivial⟩⟩ rfl rfl hl.1 rfl (lv_room (Nat.le_of_ble_eq_true rfl)) dX8_paper_2 ⟨Nat.le_of_ble_eq_true rfl, Nat.le_of_ble_eq_true rfl⟩) (fun r_1 hr_1 => ?_)
  subst hr_1
  refine lv_istore (lv' := [(4, .int (kSlot b k)), (0, .ref h), (1, .int b), (2, .int k), (3, .int uu)]) hx hb dX8_paper_5 hl (by decide) rfl (fun ls hl => ?_)
  refine lv_iload hx hb dX8_paper_7 (lv_at hl 0 rfl) ?_
  refine lv_iconst (v := (-1)) hx hb dX8_paper_9 (by decide) ?_
  refine lv_icmp_ne (tgt := 21) hx hb dX8_paper_10 (by decide)  (fun c_2 => ?_) (fun c_2 => ?_)
  · obtain ⟨x, y, hx8, hy6, rfl, rfl⟩ := kSlot_of c_2
    have hsl := kSlot_in hx8 hy6
    rw [hsl] at hl
    have hcx : (nI x).toNatClampNeg = x := nI_clamp (by omega)
    have hcy : (nI y).toNatClampNeg = y := nI_clamp (by omega)
    rw [hcx, hcy]
    refine lv_iload_n hx hb dX8_paper_21 rfl (lv_at hl 4 rfl) ?_
    refine lv_iconst (v := (-1)) hx hb dX8_paper_22 (by decide) ?_
    refine lv_sipush (v := nI 2000) hx hb dX8_paper_23 (by decide) ?_
    refine vp_callSi (W.runS (As := [.int uu, .int (-1), .int (nI 2000)]) (rest := []) ⟨hx, hb, hml, hown, hts⟩ (ck_isOutside l uu (-1) (nI 2000)) (va_cwS 3 hts gX8_paper_X8_isOutside rfl rfl rfl kd_X8_isOutside ⟨Nat.le_of_ble_eq_true rfl, Nat.le_of_ble_eq_true rfl⟩) ⟨fun _ _ _ _ q => q, fun U hU hW => ⟨rfl, trivial⟩⟩ rfl rfl hl.1 rfl (lv_room (Nat.le_of_ble_eq_true rfl)) dX8_paper_26 ⟨Nat.le_of_ble_eq_true rfl, Nat.le_of_ble_eq_true rfl⟩) (fun r_3 hr_3 => ?_)
    subst hr_3
    refine b_if_eq (tgt := 40) hx hb dX8_paper_29 (by decide)  (fun c_4 => ?_) (fun c_4 => ?_)
    · have dd_c_4 := of_decide_eq_false c_4
      obtain ⟨v9, hv9, rfl⟩ := pap_of dd_c_4
      have hcv := pap_back hv9
      rw [hcv]
      refine lv_aload_n hx hb dX8_paper_40 rfl (lv_at hl 1 rfl) ?_
      have hm_5 : (h, .inr (9, [.ref (F 0 h), .ref (F 1 h), .ref (F 2 h), .ref (F 3 h), .ref (F 4 h), .int (nI (F 5 h))])) ∈ ws := hC.at hk_h (by decide) (by decide)
      refine c_get (C := RX8) (T := TX8) (N := 6) hx hb hts hin_X8 hown hK hP hm_5 rfl 0 (by decide) l_9 (fun _ h9 => h9) rfl dX8_paper_41 ?_
      have hk_6 : kd (F 0 h) = 11 := hW.ref (f := 0) hk_h rfl (by decide)
      refine lv_iload hx hb dX8_paper_44 (lv_at hl 0 rfl) ?_
      have hm_7 : ((F 0 h), .inl (cI, 48, .inl (fun i => nI (F i (F 0 h)) - 1))) ∈ ws := hC.at hk_6 (by decide) (by decide)
      have hn_8 : F (x * 6 + y) (F 0 h) < 2002 := hW.num hk_6 rfl (by decide)
      refine c_iald hx hb hK hP 0 hm_7 rfl (by omega) (by decide) dX8_paper_46 ?_
      refine lv_istore (lv' := [(5, .int (nI (F (x * 6 + y) (F 0 h)) - 1)), (4, .int (nI (x * 6 + y))), (0, .ref h), (1, .int (nI x)), (2, .int (nI y)), (3, .int (nI v9 - nI 1))]) hx hb dX8_paper_47 hl (by decide) rfl (fun ls hl => ?_)
      refine lv_aload_n hx hb dX8_paper_49 rfl (lv_at hl 2 rfl) ?_
      refine c_get (C := RX8) (T := TX8) (N := 6) hx hb hts hin_X8 hown hK hP hm_5 rfl 0 (by decide) l_9 (fun _ h9 => h9) rfl dX8_paper_50 ?_
      refine lv_iload hx hb dX8_paper_53 (lv_at hl 1 rfl) ?_
      refine lv_iload_n hx hb dX8_paper_55 rfl (lv_at hl 5 rfl) ?_
      have hm_9 : ((F 0 h), .inl (cI, 48, .inl (fun i => nI (F i (F 0 h)) - 1))) ∈ ws := hC.at hk_6 (by decide) (by decide)
      have hC9 := hC.put (f := (x * 6 + y)) (v := v9) (x := .inl (cI, 48, .inl (upd (fun i => nI (F i (F 0 h)) - 1) (x * 6 + y) (nI v9 - nI 1)))) hD hk_6 (by decide) (by decide) (ent_pap st cI)
      have hW9 := hW.put (f := (x * 6 + y)) (v := v9) hk_6 (Or.inr (by show v9 < 2002; omega)) (Or.inl rfl)
      refine c_iast (n := 48) (x := nI v9 - nI 1) hx hb hK hP hD hS 0 hm_9 rfl (by omega) (by decide) dX8_paper_56 (fun H locs hP hD hS => ?_)
      replace hC := hC9
      replace hW := hW9
      clear hC9 hW9
      refine lv_iload hx hb dX8_paper_57 (lv_at hl 0 rfl) ?_
      refine W.widen (k := 1) (n := 6) (by omega) (by omega) ?_
      refine vx_ret ?_
      have hk9 : ks (kPapK (nI x) (nI y)) (kArg (nI v9 - nI 1) (-1) (nI 2000)) = 0 := by exact (ks_r (kPapK_in hx8 hy6)).trans (if_neg dd_c_4)
      exact W.iret (v := (nI (F (x * 6 + y) (F 0 h)) - 1)) hx hb hr (fun U9 ht hW9 => ⟨⟨_, (wup ws (F 0 h) (.inl (cI, 48, .inl (upd (fun i => nI (F i (F 0 h)) - 1) (x * 6 + y) (nI v9 - nI 1))))), rfl, ⟨hk9, rfl, hC, hW, hD⟩, by show va_P D vwCl _ U9.heap; rw [ht]; exact hP⟩, hS.F ht⟩) hS.2.2 dX8_paper_59
    · have dd_c_4 := of_decide_eq_true c_4
      have hkx : ks (kPapK (nI x) (nI y)) (kArg uu (-1) (nI 2000)) = 2 := by exact (ks_r (kPapK_in hx8 hy6)).trans (if_pos dd_c_4)
      exact vx_throw0 (A := A) (own := RX8) (cls := "java/lang/IllegalArgumentException") (names := ["java/lang/RuntimeException", "java/lang/Exception"]) (ik := 37) (ic := 39) hx hb hst hown (by decide +kernel) (by decide +kernel) (hts (.classLink RX8 37 "java/lang/IllegalArgumentException") (List.mem_of_getElem? (i := 3) rfl)) (hts (.initialized "java/lang/IllegalArgumentException") (List.mem_of_getElem? (i := 4) rfl)) (vx_hat (L := vx_at0 RX8 39 "java/lang/IllegalArgumentException" ["java/lang/RuntimeException", "java/lang/Exception"]) (fun w9 h9 => hts w9 (List.mem_cons_of_mem _ (List.mem_append_right _ h9))) gB2 (gB_of (by decide +kernel) hG.2.2.2.2.2.2.1)) (by decide +kernel) hG.1 hG.2.1 hS (hl.1.trans hml.symm) dX8_paper_32 dX8_paper_35 dX8_paper_36 dX8_paper_39 (fun z9 h9 => (htab z9 h9).elim) (by decide) (Nat.le_of_ble_eq_true rfl) (Nat.le_of_ble_eq_true rfl) (Nat.le_of_ble_eq_true rfl) hlocks (fun t9 _ g2 g3 => ⟨(), trivial, ⟨by rw [hkx]; rfl, by rw [hkx]; decide, (x_keep hS hP g2 g3).1⟩, (x_keep hS hP g2 g3).2⟩) hS.2.2 (Nat.le_of_ble_eq_true rfl) (Nat.le_of_ble_eq_true rfl)
  · have hkx : ks (kPapK b k) (kArg uu (-1) (nI 2000)) = 1 := by rw [ks_l (by rw [kPapK_out (by assumption)]; decide)]; exact kPapK_out (by assumption)
    exact vx_throw0 (A := A) (own := RX8) (cls := "java/lang/IndexOutOfBoundsException") (names := ["java/lang/RuntimeException", "java/lang/Exception"]) (ik := 76) (ic := 78) hx hb hst hown (by decide +kernel) (by decide +kernel) (hts (.classLink RX8 76 "java/lang/IndexOutOfBoundsException") (List.mem_of_getElem? (i := 1) rfl)) (hts (.initialized "java/lang/IndexOutOfBoundsException") (List.mem_of_getElem? (i := 2) rfl)) (vx_hat (L := vx_at0 RX8 78 "java/lang/IndexOutOfBoundsException" ["java/lang/RuntimeException", "java/lang/Exception"]) (fun w9 h9 => hts w9 (List.mem_cons_of_mem _ (List.mem_append_left _ (List.mem_append_right _ h9)))) gB1 (gB_of (by decide +kernel) hG.2.2.2.2.2.2.1)) (by decide +kernel) hG.1 hG.2.1 hS (hl.1.trans hml.symm) dX8_paper_13 dX8_paper_16 dX8_paper_17 dX8_paper_20 (fun z9 h9 => (htab z9 h9).elim) (by decide) (Nat.le_of_ble_eq_true rfl) (Nat.le_of_ble_eq_true rfl) (Nat.le_of_ble_eq_true rfl) hlocks (fun t9 _ g2 g3 => ⟨(), trivial, ⟨by rw [hkx]; rfl, by rw [hkx]; decide, (x_keep hS hP g2 g3).1⟩, (x_keep hS hP g2 g3).2⟩) hS.2.2 (Nat.le_of_ble_eq_true rfl) (Nat.le_of_ble_eq_true rfl)
