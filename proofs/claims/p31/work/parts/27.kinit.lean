/-! the class's constructors -/
set_option maxHeartbeats 4000000 in
set_option maxRecDepth 100000 in
theorem ci_X0 (l : Launch) (D : va_G) (cI cO cb : ClassId) (eA mi : Nat) (st : Nat → Nat) {A : Nat → Prop} (ws : va_W) (hD : va_D A ws) (q : Nat) (ha : (q, .inr (2, [.int (nI 0), .null, .null, .int (nI 0), .int (nI 0), .int (nI 0), .int (nI 0)])) ∈ ws) (nu : Nat) (lo : Nat) (bi9 : Nat) (ff : Nat) : Met l yX0_init wsX0_init ({ frames := 1, cells := 0, slots := 0, locals := 12 }) (va_Pc [.ref q, .int (nI nu), .ref lo, .ref bi9, .int (nI ff)] (cB D cI cO cb eA mi st A ws)) (va_Qv (fun _ : Unit => True) (fun _ U9 => va_D A (wup ws q (.inr (2, [.int (nI nu), .ref lo, .ref bi9, .int (nI ff), .int (nI 0), .int (nI 0), .int (nI 0)]))) ∧ va_P D vwCl (wup ws q (.inr (2, [.int (nI nu), .ref lo, .ref bi9, .int (nI ff), .int (nI 0), .int (nI 0), .int (nI 0)]))) U9.heap) A) 0 0 A := by
  refine Met.ofW (cc := cX0_init) (maxL := 5) (ret := none) (by decide) rfl ?_
  intro p e s m args below meth c s₁ B hml hv
  obtain ⟨rfl, hP, hK, hG, hA⟩ := hv
  have hx := B.exec
  have hb := B.bytes
  have hr := B.returns
  have hts := atoms_spec (ws := wsX0_init) B.pre
  have hown : s.vm.findClass RX0 = some m.cls := findClass_of_methodNamed B.named
  have hlocks := B.notSynchronized
  have hin2 : meth.name = "<init>" := (name_of_methodNamed B.named B.method).1
  have hin_X0 : ∀ w ∈ wsX00, w ∈ wsX0_init := fun w h => List.mem_cons_of_mem _ (List.mem_append_right _ h)
  have l_7 := (hts (.fieldLink RX0 7 "TenderHall$Award" "number" "I") (List.mem_of_getElem? (i := 4) rfl))
  have l_13 := (hts (.fieldLink RX0 13 "TenderHall$Award" "lot" "LTenderHall$Lot;") (List.mem_of_getElem? (i := 5) rfl))
  have l_17 := (hts (.fieldLink RX0 17 "TenderHall$Award" "bid" "LTenderHall$Bid;") (List.mem_of_getElem? (i := 6) rfl))
  have l_21 := (hts (.fieldLink RX0 21 "TenderHall$Award" "finalFrom" "I") (List.mem_of_getElem? (i := 7) rfl))
  have hS : va_S A s.heap s.heap [] := va_S.rf
  have hD0 := hD
  have hl := lv_entry ([.ref q, .int (nI nu), .ref lo, .ref bi9, .int (nI ff)]) (n := 5) (Nat.le_of_ble_eq_true rfl)
  rw [lg_entry_eq]
  generalize (lg_sl ([.ref q, .int (nI nu), .ref lo, .ref bi9, .int (nI ff)]) ++ List.replicate (5 - (lg_sl ([.ref q, .int (nI nu), .ref lo, .ref bi9, .int (nI ff)])).length) Slot.unset).toArray = ls at hl ⊢
  have hl : lv_has ls 5 [(0, .ref q), (1, .int (nI nu)), (2, .ref lo), (3, .ref bi9), (4, .int (nI ff))] := hl
  refine lv_aload_n hx hb dX0_init_0 rfl (lv_at hl 0 rfl) ?_
  refine W.objInit hx hb hown (hts (.methodLink RX0 1 objectInit) (List.mem_of_getElem? (i := 1) rfl)) (hts (.instanceMethod objectInit) (List.mem_of_getElem? (i := 2) rfl)) (hts (.code objectInit ⟨#[0xb1]⟩ 1 none) (List.mem_of_getElem? (i := 3) rfl)) rfl (hl.1.trans hml.symm) rfl dX0_init_1 (Nat.le_of_ble_eq_true rfl) (Nat.le_of_ble_eq_true rfl) ?_
  refine lv_aload_n hx hb dX0_init_4 rfl (lv_at hl 0 rfl) ?_
  refine lv_iload_n hx hb dX0_init_5 rfl (lv_at hl 1 rfl) ?_
  have hm_1 := wup_eq (x := .inr (2, [.int (nI nu), .null, .null, .int (nI 0), .int (nI 0), .int (nI 0), .int (nI 0)])) ha
  refine c_putF (C := RX0) (T := TX0) (N := 7) (v := .int (nI nu)) (ty := .int) (fs2 := [.int (nI nu), .null, .null, .int (nI 0), .int (nI 0), .int (nI 0), .int (nI 0)]) hx hb hts hin_X0 tyX0 tyX0_ok nmX0 hown hK hP hD hS ha rfl 0 (by decide) l_7 (fun _ h9 => h9) rfl hin2 rfl (by decide +kernel) rfl rfl (Nat.le_of_ble_eq_true rfl) rfl dX0_init_6 (fun H locs hP hD hS => ?_)
  refine lv_aload_n hx hb dX0_init_9 rfl (lv_at hl 0 rfl) ?_
  refine lv_aload_n hx hb dX0_init_10 rfl (lv_at hl 2 rfl) ?_
  have hm_2 := wup_eq (x := .inr (2, [.int (nI nu), .ref lo, .null, .int (nI 0), .int (nI 0), .int (nI 0), .int (nI 0)])) hm_1
  refine c_putF (C := RX0) (T := TX0) (N := 7) (v := .ref lo) (ty := (.object "TenderHall$Lot")) (fs2 := [.int (nI nu), .ref lo, .null, .int (nI 0), .int (nI 0), .int (nI 0), .int (nI 0)]) hx hb hts hin_X0 tyX0 tyX0_ok nmX0 hown hK hP hD hS hm_1 rfl 1 (by decide) l_13 (fun _ h9 => h9) rfl hin2 rfl (by decide +kernel) rfl rfl (Nat.le_of_ble_eq_true rfl) rfl dX0_init_11 (fun H locs hP hD hS => ?_)
  refine lv_aload_n hx hb dX0_init_14 rfl (lv_at hl 0 rfl) ?_
  refine lv_aload_n hx hb dX0_init_15 rfl (lv_at hl 3 rfl) ?_
  have hm_3 := wup_eq (x := .inr (2, [.int (nI nu), .ref lo, .ref bi9, .int (nI 0), .int (nI 0), .int (nI 0), .int (nI 0)])) hm_2
  refine c_putF (C := RX0) (T := TX0) (N := 7) (v := .ref bi9) (ty := (.object "TenderHall$Bid")) (fs2 := [.int (nI nu), .ref lo, .ref bi9, .int (nI 0), .int (nI 0), .int (nI 0), .int (nI 0)]) hx hb hts hin_X0 tyX0 tyX0_ok nmX0 hown hK hP hD hS hm_2 rfl 2 (by decide) l_17 (fun _ h9 => h9) rfl hin2 rfl (by decide +kernel) rfl rfl (Nat.le_of_ble_eq_true rfl) rfl dX0_init_16 (fun H locs hP hD hS => ?_)
  refine lv_aload_n hx hb dX0_init_19 rfl (lv_at hl 0 rfl) ?_
  refine lv_iload hx hb dX0_init_20 (lv_at hl 4 rfl) ?_
  have hm_4 := wup_eq (x := .inr (2, [.int (nI nu), .ref lo, .ref bi9, .int (nI ff), .int (nI 0), .int (nI 0), .int (nI 0)])) hm_3
  refine c_putF (C := RX0) (T := TX0) (N := 7) (v := .int (nI ff)) (ty := .int) (fs2 := [.int (nI nu), .ref lo, .ref bi9, .int (nI ff), .int (nI 0), .int (nI 0), .int (nI 0)]) hx hb hts hin_X0 tyX0 tyX0_ok nmX0 hown hK hP hD hS hm_3 rfl 3 (by decide) l_21 (fun _ h9 => h9) rfl hin2 rfl (by decide +kernel) rfl rfl (Nat.le_of_ble_eq_true rfl) rfl dX0_init_22 (fun H locs hP hD hS => ?_)
  try simp only [wup_wup] at hP hD
  exact W.vret hx hb hr (fun U9 ht hW9 => ⟨⟨(), rfl, trivial, ⟨hD, by rw [ht]; exact hP⟩⟩, hS.F ht⟩) hS.2.2 dX0_init_25
set_option maxHeartbeats 4000000 in
set_option maxRecDepth 100000 in
theorem ci_X1 (l : Launch) (D : va_G) (cI cO cb : ClassId) (eA mi : Nat) (st : Nat → Nat) {A : Nat → Prop} (ws : va_W) (hD : va_D A ws) (q : Nat) (ha : (q, .inr (3, [.int (nI 0), .int (nI 0), .int (nI 0), .int (nI 0), .null, .null])) ∈ ws) (bd : Nat) (pr : Nat) (ofr : Nat) : Met l yX1_init wsX1_init ({ frames := 1, cells := 0, slots := 0, locals := 12 }) (va_Pc [.ref q, .int (nI bd), .int (nI pr), .int (nI ofr)] (cB D cI cO cb eA mi st A ws)) (va_Qv (fun _ : Unit => True) (fun _ U9 => va_D A (wup ws q (.inr (3, [.int (nI bd), .int (nI pr), .int (nI ofr), .int (nI ofr), .ref (st 0), .ref (st 0)]))) ∧ va_P D vwCl (wup ws q (.inr (3, [.int (nI bd), .int (nI pr), .int (nI ofr), .int (nI ofr), .ref (st 0), .ref (st 0)]))) U9.heap) A) 0 0 A := by
  refine Met.ofW (cc := cX1_init) (maxL := 4) (ret := none) (by decide) rfl ?_
  intro p e s m args below meth c s₁ B hml hv
  obtain ⟨rfl, hP, hK, hG, hA⟩ := hv
  have hx := B.exec
  have hb := B.bytes
  have hr := B.returns
  have hts := atoms_spec (ws := wsX1_init) B.pre
  have hown : s.vm.findClass RX1 = some m.cls := findClass_of_methodNamed B.named
  have hlocks := B.notSynchronized
  have hin2 : meth.name = "<init>" := (name_of_methodNamed B.named B.method).1
  have hin_X1 : ∀ w ∈ wsX10, w ∈ wsX1_init := fun w h => List.mem_cons_of_mem _ (List.mem_append_right _ h)
  have l_7 := (hts (.fieldLink RX1 7 "TenderHall$Status" "SEALED" "LTenderHall$Status;") (List.mem_of_getElem? (i := 4) rfl))
  have l_13 := (hts (.fieldLink RX1 13 "TenderHall$Bid" "statusAtOpening" "LTenderHall$Status;") (List.mem_of_getElem? (i := 5) rfl))
  have l_18 := (hts (.fieldLink RX1 18 "TenderHall$Bid" "status" "LTenderHall$Status;") (List.mem_of_getElem? (i := 6) rfl))
  have l_21 := (hts (.fieldLink RX1 21 "TenderHall$Bid" "bidder" "I") (List.mem_of_getElem? (i := 7) rfl))
  have l_25 := (hts (.fieldLink RX1 25 "TenderHall$Bid" "price" "I") (List.mem_of_getElem? (i := 8) rfl))
  have l_28 := (hts (.fieldLink RX1 28 "TenderHall$Bid" "offered" "I") (List.mem_of_getElem? (i := 9) rfl))
  have l_31 := (hts (.fieldLink RX1 31 "TenderHall$Bid" "quality" "I") (List.mem_of_getElem? (i := 10) rfl))
  have hS : va_S A s.heap s.heap [] := va_S.rf
  have hD0 := hD
  have hl := lv_entry ([.ref q, .int (nI bd), .int (nI pr), .int (nI ofr)]) (n := 4) (Nat.le_of_ble_eq_true rfl)
  rw [lg_entry_eq]
  generalize (lg_sl ([.ref q, .int (nI bd), .int (nI pr), .int (nI ofr)]) ++ List.replicate (4 - (lg_sl ([.ref q, .int (nI bd), .int (nI pr), .int (nI ofr)])).length) Slot.unset).toArray = ls at hl ⊢
  have hl : lv_has ls 4 [(0, .ref q), (1, .int (nI bd)), (2, .int (nI pr)), (3, .int (nI ofr))] := hl
  refine lv_aload_n hx hb dX1_init_0 rfl (lv_at hl 0 rfl) ?_
  refine W.objInit hx hb hown (hts (.methodLink RX1 1 objectInit) (List.mem_of_getElem? (i := 1) rfl)) (hts (.instanceMethod objectInit) (List.mem_of_getElem? (i := 2) rfl)) (hts (.code objectInit ⟨#[0xb1]⟩ 1 none) (List.mem_of_getElem? (i := 3) rfl)) rfl (hl.1.trans hml.symm) rfl dX1_init_1 (Nat.le_of_ble_eq_true rfl) (Nat.le_of_ble_eq_true rfl) ?_
  refine lv_aload_n hx hb dX1_init_4 rfl (lv_at hl 0 rfl) ?_
  refine va_gets hx hb hG.2.2.2.2.2.2.2.1 hS hown l_7 (fun _ h9 => h9) dX1_init_5 ?_
  have hm_1 := wup_eq (x := .inr (3, [.int (nI 0), .int (nI 0), .int (nI 0), .int (nI 0), .ref (st 0), .null])) ha
  refine c_put (C := RX1) (T := TX1) (N := 6) (v := .ref (st 0)) (ty := (.object "TenderHall$Status")) (fs2 := [.int (nI 0), .int (nI 0), .int (nI 0), .int (nI 0), .ref (st 0), .null]) hx hb hts hin_X1 tyX1 tyX1_ok nmX1 hown hK hP hD hS ha rfl 4 (by decide) l_13 (fun _ h9 => h9) rfl (by decide +kernel) rfl rfl (Nat.le_of_ble_eq_true rfl) rfl dX1_init_8 (fun H locs hP hD hS => ?_)
  refine lv_aload_n hx hb dX1_init_11 rfl (lv_at hl 0 rfl) ?_
  refine va_gets hx hb hG.2.2.2.2.2.2.2.1 hS hown l_7 (fun _ h9 => h9) dX1_init_12 ?_
  have hm_2 := wup_eq (x := .inr (3, [.int (nI 0), .int (nI 0), .int (nI 0), .int (nI 0), .ref (st 0), .ref (st 0)])) hm_1
  refine c_put (C := RX1) (T := TX1) (N := 6) (v := .ref (st 0)) (ty := (.object "TenderHall$Status")) (fs2 := [.int (nI 0), .int (nI 0), .int (nI 0), .int (nI 0), .ref (st 0), .ref (st 0)]) hx hb hts hin_X1 tyX1 tyX1_ok nmX1 hown hK hP hD hS hm_1 rfl 5 (by decide) l_18 (fun _ h9 => h9) rfl (by decide +kernel) rfl rfl (Nat.le_of_ble_eq_true rfl) rfl dX1_init_15 (fun H locs hP hD hS => ?_)
  refine lv_aload_n hx hb dX1_init_18 rfl (lv_at hl 0 rfl) ?_
  refine lv_iload_n hx hb dX1_init_19 rfl (lv_at hl 1 rfl) ?_
  have hm_3 := wup_eq (x := .inr (3, [.int (nI bd), .int (nI 0), .int (nI 0), .int (nI 0), .ref (st 0), .ref (st 0)])) hm_2
  refine c_putF (C := RX1) (T := TX1) (N := 6) (v := .int (nI bd)) (ty := .int) (fs2 := [.int (nI bd), .int (nI 0), .int (nI 0), .int (nI 0), .ref (st 0), .ref (st 0)]) hx hb hts hin_X1 tyX1 tyX1_ok nmX1 hown hK hP hD hS hm_2 rfl 0 (by decide) l_21 (fun _ h9 => h9) rfl hin2 rfl (by decide +kernel) rfl rfl (Nat.le_of_ble_eq_true rfl) rfl dX1_init_20 (fun H locs hP hD hS => ?_)
  refine lv_aload_n hx hb dX1_init_23 rfl (lv_at hl 0 rfl) ?_
  refine lv_iload_n hx hb dX1_init_24 rfl (lv_at hl 2 rfl) ?_
  have hm_4 := wup_eq (x := .inr (3, [.int (nI bd), .int (nI pr), .int (nI 0), .int (nI 0), .ref (st 0), .ref (st 0)])) hm_3
  refine c_putF (C := RX1) (T := TX1) (N := 6) (v := .int (nI pr)) (ty := .int) (fs2 := [.int (nI bd), .int (nI pr), .int (nI 0), .int (nI 0), .ref (st 0), .ref (st 0)]) hx hb hts hin_X1 tyX1 tyX1_ok nmX1 hown hK hP hD hS hm_3 rfl 1 (by decide) l_25 (fun _ h9 => h9) rfl hin2 rfl (by decide +kernel) rfl rfl (Nat.le_of_ble_eq_true rfl) rfl dX1_init_25 (fun H locs hP hD hS => ?_)
  refine lv_aload_n hx hb dX1_init_28 rfl (lv_at hl 0 rfl) ?_
  refine lv_iload_n hx hb dX1_init_29 rfl (lv_at hl 3 rfl) ?_
  have hm_5 := wup_eq (x := .inr (3, [.int (nI bd), .int (nI pr), .int (nI ofr), .int (nI 0), .ref (st 0), .ref (st 0)])) hm_4
  refine c_putF (C := RX1) (T := TX1) (N := 6) (v := .int (nI ofr)) (ty := .int) (fs2 := [.int (nI bd), .int (nI pr), .int (nI ofr), .int (nI 0), .ref (st 0), .ref (st 0)]) hx hb hts hin_X1 tyX1 tyX1_ok nmX1 hown hK hP hD hS hm_4 rfl 2 (by decide) l_28 (fun _ h9 => h9) rfl hin2 rfl (by decide +kernel) rfl rfl (Nat.le_of_ble_eq_true rfl) rfl dX1_init_30 (fun H locs hP hD hS => ?_)
  refine lv_aload_n hx hb dX1_init_33 rfl (lv_at hl 0 rfl) ?_
  refine lv_iload_n hx hb dX1_init_34 rfl (lv_at hl 3 rfl) ?_
  have hm_6 := wup_eq (x := .inr (3, [.int (nI bd), .int (nI pr), .int (nI ofr), .int (nI ofr), .ref (st 0), .ref (st 0)])) hm_5
  refine c_put (C := RX1) (T := TX1) (N := 6) (v := .int (nI ofr)) (ty := .int) (fs2 := [.int (nI bd), .int (nI pr), .int (nI ofr), .int (nI ofr), .ref (st 0), .ref (st 0)]) hx hb hts hin_X1 tyX1 tyX1_ok nmX1 hown hK hP hD hS hm_5 rfl 3 (by decide) l_31 (fun _ h9 => h9) rfl (by decide +kernel) rfl rfl (Nat.le_of_ble_eq_true rfl) rfl dX1_init_35 (fun H locs hP hD hS => ?_)
  try simp only [wup_wup] at hP hD
  exact W.vret hx hb hr (fun U9 ht hW9 => ⟨⟨(), rfl, trivial, ⟨hD, by rw [ht]; exact hP⟩⟩, hS.F ht⟩) hS.2.2 dX1_init_38
set_option maxHeartbeats 4000000 in
set_option maxRecDepth 100000 in
theorem ci_X2 (l : Launch) (D : va_G) (cI cO cb : ClassId) (eA mi : Nat) (st : Nat → Nat) {A : Nat → Prop} (ws : va_W) (hD : va_D A ws) (q : Nat) (ha : (q, .inr (4, [.int (nI 0), .int (nI 0), .int (nI 0)])) ∈ ws) (gr : Nat) (bd : Nat) (qu : Nat) : Met l yX2_init wsX2_init ({ frames := 1, cells := 0, slots := 0, locals := 12 }) (va_Pc [.ref q, .int (nI gr), .int (nI bd), .int (nI qu)] (cB D cI cO cb eA mi st A ws)) (va_Qv (fun _ : Unit => True) (fun _ U9 => va_D A (wup ws q (.inr (4, [.int (nI gr), .int (nI bd), .int (nI qu)]))) ∧ va_P D vwCl (wup ws q (.inr (4, [.int (nI gr), .int (nI bd), .int (nI qu)]))) U9.heap) A) 0 0 A := by
  refine Met.ofW (cc := cX2_init) (maxL := 4) (ret := none) (by decide) rfl ?_
  intro p e s m args below meth c s₁ B hml hv
  obtain ⟨rfl, hP, hK, hG, hA⟩ := hv
  have hx := B.exec
  have hb := B.bytes
  have hr := B.returns
  have hts := atoms_spec (ws := wsX2_init) B.pre
  have hown : s.vm.findClass RX2 = some m.cls := findClass_of_methodNamed B.named
  have hlocks := B.notSynchronized
  have hin2 : meth.name = "<init>" := (name_of_methodNamed B.named B.method).1
  have hin_X2 : ∀ w ∈ wsX20, w ∈ wsX2_init := fun w h => List.mem_cons_of_mem _ (List.mem_append_right _ h)
  have l_7 := (hts (.fieldLink RX2 7 "TenderHall$Change" "ground" "I") (List.mem_of_getElem? (i := 4) rfl))
  have l_13 := (hts (.fieldLink RX2 13 "TenderHall$Change" "bidder" "I") (List.mem_of_getElem? (i := 5) rfl))
  have l_16 := (hts (.fieldLink RX2 16 "TenderHall$Change" "quality" "I") (List.mem_of_getElem? (i := 6) rfl))
  have hS : va_S A s.heap s.heap [] := va_S.rf
  have hD0 := hD
  have hl := lv_entry ([.ref q, .int (nI gr), .int (nI bd), .int (nI qu)]) (n := 4) (Nat.le_of_ble_eq_true rfl)
  rw [lg_entry_eq]
  generalize (lg_sl ([.ref q, .int (nI gr), .int (nI bd), .int (nI qu)]) ++ List.replicate (4 - (lg_sl ([.ref q, .int (nI gr), .int (nI bd), .int (nI qu)])).length) Slot.unset).toArray = ls at hl ⊢
  have hl : lv_has ls 4 [(0, .ref q), (1, .int (nI gr)), (2, .int (nI bd)), (3, .int (nI qu))] := hl
  refine lv_aload_n hx hb dX2_init_0 rfl (lv_at hl 0 rfl) ?_
  refine W.objInit hx hb hown (hts (.methodLink RX2 1 objectInit) (List.mem_of_getElem? (i := 1) rfl)) (hts (.instanceMethod objectInit) (List.mem_of_getElem? (i := 2) rfl)) (hts (.code objectInit ⟨#[0xb1]⟩ 1 none) (List.mem_of_getElem? (i := 3) rfl)) rfl (hl.1.trans hml.symm) rfl dX2_init_1 (Nat.le_of_ble_eq_true rfl) (Nat.le_of_ble_eq_true rfl) ?_
  refine lv_aload_n hx hb dX2_init_4 rfl (lv_at hl 0 rfl) ?_
  refine lv_iload_n hx hb dX2_init_5 rfl (lv_at hl 1 rfl) ?_
  have hm_1 := wup_eq (x := .inr (4, [.int (nI gr), .int (nI 0), .int (nI 0)])) ha
  refine c_putF (C := RX2) (T := TX2) (N := 3) (v := .int (nI gr)) (ty := .int) (fs2 := [.int (nI gr), .int (nI 0), .int (nI 0)]) hx hb hts hin_X2 tyX2 tyX2_ok nmX2 hown hK hP hD hS ha rfl 0 (by decide) l_7 (fun _ h9 => h9) rfl hin2 rfl (by decide +kernel) rfl rfl (Nat.le_of_ble_eq_true rfl) rfl dX2_init_6 (fun H locs hP hD hS => ?_)
  refine lv_aload_n hx hb dX2_init_9 rfl (lv_at hl 0 rfl) ?_
  refine lv_iload_n hx hb dX2_init_10 rfl (lv_at hl 2 rfl) ?_
  have hm_2 := wup_eq (x := .inr (4, [.int (nI gr), .int (nI bd), .int (nI 0)])) hm_1
  refine c_putF (C := RX2) (T := TX2) (N := 3) (v := .int (nI bd)) (ty := .int) (fs2 := [.int (nI gr), .int (nI bd), .int (nI 0)]) hx hb hts hin_X2 tyX2 tyX2_ok nmX2 hown hK hP hD hS hm_1 rfl 1 (by decide) l_13 (fun _ h9 => h9) rfl hin2 rfl (by decide +kernel) rfl rfl (Nat.le_of_ble_eq_true rfl) rfl dX2_init_11 (fun H locs hP hD hS => ?_)
  refine lv_aload_n hx hb dX2_init_14 rfl (lv_at hl 0 rfl) ?_
  refine lv_iload_n hx hb dX2_init_15 rfl (lv_at hl 3 rfl) ?_
  have hm_3 := wup_eq (x := .inr (4, [.int (nI gr), .int (nI bd), .int (nI qu)])) hm_2
  refine c_putF (C := RX2) (T := TX2) (N := 3) (v := .int (nI qu)) (ty := .int) (fs2 := [.int (nI gr), .int (nI bd), .int (nI qu)]) hx hb hts hin_X2 tyX2 tyX2_ok nmX2 hown hK hP hD hS hm_2 rfl 2 (by decide) l_16 (fun _ h9 => h9) rfl hin2 rfl (by decide +kernel) rfl rfl (Nat.le_of_ble_eq_true rfl) rfl dX2_init_16 (fun H locs hP hD hS => ?_)
  try simp only [wup_wup] at hP hD
  exact W.vret hx hb hr (fun U9 ht hW9 => ⟨⟨(), rfl, trivial, ⟨hD, by rw [ht]; exact hP⟩⟩, hS.F ht⟩) hS.2.2 dX2_init_19
set_option maxHeartbeats 4000000 in
set_option maxRecDepth 100000 in
theorem ci_X4 (l : Launch) (D : va_G) (cI cO cb : ClassId) (eA mi : Nat) (st : Nat → Nat) {A : Nat → Prop} (ws : va_W) (hD : va_D A ws) (q : Nat) (ha : (q, .inr (6, [.null, .int (nI 0)])) ∈ ws) (aw : Nat) : Met l yX4_init wsX4_init ({ frames := 1, cells := 0, slots := 0, locals := 12 }) (va_Pc [.ref q, .ref aw] (cB D cI cO cb eA mi st A ws)) (va_Qv (fun _ : Unit => True) (fun _ U9 => va_D A (wup ws q (.inr (6, [.ref aw, .int (nI 0)]))) ∧ va_P D vwCl (wup ws q (.inr (6, [.ref aw, .int (nI 0)]))) U9.heap) A) 0 0 A := by
  refine Met.ofW (cc := cX4_init) (maxL := 2) (ret := none) (by decide) rfl ?_
  intro p e s m args below meth c s₁ B hml hv
  obtain ⟨rfl, hP, hK, hG, hA⟩ := hv
  have hx := B.exec
  have hb := B.bytes
  have hr := B.returns
  have hts := atoms_spec (ws := wsX4_init) B.pre
  have hown : s.vm.findClass RX4 = some m.cls := findClass_of_methodNamed B.named
  have hlocks := B.notSynchronized
  have hin2 : meth.name = "<init>" := (name_of_methodNamed B.named B.method).1
  have hin_X4 : ∀ w ∈ wsX40, w ∈ wsX4_init := fun w h => List.mem_cons_of_mem _ (List.mem_append_right _ h)
  have l_7 := (hts (.fieldLink RX4 7 "TenderHall$Contract" "award" "LTenderHall$Award;") (List.mem_of_getElem? (i := 4) rfl))
  have hS : va_S A s.heap s.heap [] := va_S.rf
  have hD0 := hD
  have hl := lv_entry ([.ref q, .ref aw]) (n := 2) (Nat.le_of_ble_eq_true rfl)
  rw [lg_entry_eq]
  generalize (lg_sl ([.ref q, .ref aw]) ++ List.replicate (2 - (lg_sl ([.ref q, .ref aw])).length) Slot.unset).toArray = ls at hl ⊢
  have hl : lv_has ls 2 [(0, .ref q), (1, .ref aw)] := hl
  refine lv_aload_n hx hb dX4_init_0 rfl (lv_at hl 0 rfl) ?_
  refine W.objInit hx hb hown (hts (.methodLink RX4 1 objectInit) (List.mem_of_getElem? (i := 1) rfl)) (hts (.instanceMethod objectInit) (List.mem_of_getElem? (i := 2) rfl)) (hts (.code objectInit ⟨#[0xb1]⟩ 1 none) (List.mem_of_getElem? (i := 3) rfl)) rfl (hl.1.trans hml.symm) rfl dX4_init_1 (Nat.le_of_ble_eq_true rfl) (Nat.le_of_ble_eq_true rfl) ?_
  refine lv_aload_n hx hb dX4_init_4 rfl (lv_at hl 0 rfl) ?_
  refine lv_aload_n hx hb dX4_init_5 rfl (lv_at hl 1 rfl) ?_
  have hm_1 := wup_eq (x := .inr (6, [.ref aw, .int (nI 0)])) ha
  refine c_putF (C := RX4) (T := TX4) (N := 2) (v := .ref aw) (ty := (.object "TenderHall$Award")) (fs2 := [.ref aw, .int (nI 0)]) hx hb hts hin_X4 tyX4 tyX4_ok nmX4 hown hK hP hD hS ha rfl 0 (by decide) l_7 (fun _ h9 => h9) rfl hin2 rfl (by decide +kernel) rfl rfl (Nat.le_of_ble_eq_true rfl) rfl dX4_init_6 (fun H locs hP hD hS => ?_)
  try simp only [wup_wup] at hP hD
  exact W.vret hx hb hr (fun U9 ht hW9 => ⟨⟨(), rfl, trivial, ⟨hD, by rw [ht]; exact hP⟩⟩, hS.F ht⟩) hS.2.2 dX4_init_9
set_option maxHeartbeats 4000000 in
set_option maxRecDepth 100000 in
theorem ci_X3 (l : Launch) (D : va_G) (cI cO cb : ClassId) (eA mi : Nat) (st : Nat → Nat) {A : Nat → Prop} (ws : va_W) (hD : va_D A ws) (q : Nat) (ha : (q, .inr (5, [.int (nI 0), .null, .int (nI 0), .int (nI 0), .int (nI 0), .int (nI 0)])) ∈ ws) (bd : Nat) (aw : Nat) (gr : Nat) : Met l yX3_init wsX3_init ({ frames := 1, cells := 0, slots := 0, locals := 12 }) (va_Pc [.ref q, .int (nI bd), .ref aw, .int (nI gr)] (cB D cI cO cb eA mi st A ws)) (va_Qv (fun _ : Unit => True) (fun _ U9 => va_D A (wup ws q (.inr (5, [.int (nI bd), .ref aw, .int (nI gr), .int (nI 0), .int (nI 0), .int (nI 0)]))) ∧ va_P D vwCl (wup ws q (.inr (5, [.int (nI bd), .ref aw, .int (nI gr), .int (nI 0), .int (nI 0), .int (nI 0)]))) U9.heap) A) 0 0 A := by
  refine Met.ofW (cc := cX3_init) (maxL := 4) (ret := none) (by decide) rfl ?_
  intro p e s m args below meth c s₁ B hml hv
  obtain ⟨rfl, hP, hK, hG, hA⟩ := hv
  have hx := B.exec
  have hb := B.bytes
  have hr := B.returns
  have hts := atoms_spec (ws := wsX3_init) B.pre
  have hown : s.vm.findClass RX3 = some m.cls := findClass_of_methodNamed B.named
  have hlocks := B.notSynchronized
  have hin2 : meth.name = "<init>" := (name_of_methodNamed B.named B.method).1
  have hin_X3 : ∀ w ∈ wsX30, w ∈ wsX3_init := fun w h => List.mem_cons_of_mem _ (List.mem_append_right _ h)
  have l_9 := (hts (.fieldLink RX3 9 "TenderHall$Complaint" "state" "I") (List.mem_of_getElem? (i := 4) rfl))
  have l_15 := (hts (.fieldLink RX3 15 "TenderHall$Complaint" "bidder" "I") (List.mem_of_getElem? (i := 5) rfl))
  have l_18 := (hts (.fieldLink RX3 18 "TenderHall$Complaint" "award" "LTenderHall$Award;") (List.mem_of_getElem? (i := 6) rfl))
  have l_22 := (hts (.fieldLink RX3 22 "TenderHall$Complaint" "ground" "I") (List.mem_of_getElem? (i := 7) rfl))
  have hS : va_S A s.heap s.heap [] := va_S.rf
  have hD0 := hD
  have hl := lv_entry ([.ref q, .int (nI bd), .ref aw, .int (nI gr)]) (n := 4) (Nat.le_of_ble_eq_true rfl)
  rw [lg_entry_eq]
  generalize (lg_sl ([.ref q, .int (nI bd), .ref aw, .int (nI gr)]) ++ List.replicate (4 - (lg_sl ([.ref q, .int (nI bd), .ref aw, .int (nI gr)])).length) Slot.unset).toArray = ls at hl ⊢
  have hl : lv_has ls 4 [(0, .ref q), (1, .int (nI bd)), (2, .ref aw), (3, .int (nI gr))] := hl
  refine lv_aload_n hx hb dX3_init_0 rfl (lv_at hl 0 rfl) ?_
  refine W.objInit hx hb hown (hts (.methodLink RX3 3 objectInit) (List.mem_of_getElem? (i := 1) rfl)) (hts (.instanceMethod objectInit) (List.mem_of_getElem? (i := 2) rfl)) (hts (.code objectInit ⟨#[0xb1]⟩ 1 none) (List.mem_of_getElem? (i := 3) rfl)) rfl (hl.1.trans hml.symm) rfl dX3_init_1 (Nat.le_of_ble_eq_true rfl) (Nat.le_of_ble_eq_true rfl) ?_
  refine lv_aload_n hx hb dX3_init_4 rfl (lv_at hl 0 rfl) ?_
  refine lv_iconst (v := nI 0) hx hb dX3_init_5 (by decide) ?_
  have hm_1 := wup_eq (x := .inr (5, [.int (nI 0), .null, .int (nI 0), .int (nI 0), .int (nI 0), .int (nI 0)])) ha
  refine c_put (C := RX3) (T := TX3) (N := 6) (v := .int (nI 0)) (ty := .int) (fs2 := [.int (nI 0), .null, .int (nI 0), .int (nI 0), .int (nI 0), .int (nI 0)]) hx hb hts hin_X3 tyX3 tyX3_ok nmX3 hown hK hP hD hS ha rfl 3 (by decide) l_9 (fun _ h9 => h9) rfl (by decide +kernel) rfl rfl (Nat.le_of_ble_eq_true rfl) rfl dX3_init_6 (fun H locs hP hD hS => ?_)
  refine lv_aload_n hx hb dX3_init_9 rfl (lv_at hl 0 rfl) ?_
  refine lv_iload_n hx hb dX3_init_10 rfl (lv_at hl 1 rfl) ?_
  have hm_2 := wup_eq (x := .inr (5, [.int (nI bd), .null, .int (nI 0), .int (nI 0), .int (nI 0), .int (nI 0)])) hm_1
  refine c_putF (C := RX3) (T := TX3) (N := 6) (v := .int (nI bd)) (ty := .int) (fs2 := [.int (nI bd), .null, .int (nI 0), .int (nI 0), .int (nI 0), .int (nI 0)]) hx hb hts hin_X3 tyX3 tyX3_ok nmX3 hown hK hP hD hS hm_1 rfl 0 (by decide) l_15 (fun _ h9 => h9) rfl hin2 rfl (by decide +kernel) rfl rfl (Nat.le_of_ble_eq_true rfl) rfl dX3_init_11 (fun H locs hP hD hS => ?_)
  refine lv_aload_n hx hb dX3_init_14 rfl (lv_at hl 0 rfl) ?_
  refine lv_aload_n hx hb dX3_init_15 rfl (lv_at hl 2 rfl) ?_
  have hm_3 := wup_eq (x := .inr (5, [.int (nI bd), .ref aw, .int (nI 0), .int (nI 0), .int (nI 0), .int (nI 0)])) hm_2
  refine c_putF (C := RX3) (T := TX3) (N := 6) (v := .ref aw) (ty := (.object "TenderHall$Award")) (fs2 := [.int (nI bd), .ref aw, .int (nI 0), .int (nI 0), .int (nI 0), .int (nI 0)]) hx hb hts hin_X3 tyX3 tyX3_ok nmX3 hown hK hP hD hS hm_2 rfl 1 (by decide) l_18 (fun _ h9 => h9) rfl hin2 rfl (by decide +kernel) rfl rfl (Nat.le_of_ble_eq_true rfl) rfl dX3_init_16 (fun H locs hP hD hS => ?_)
  refine lv_aload_n hx hb dX3_init_19 rfl (lv_at hl 0 rfl) ?_
  refine lv_iload_n hx hb dX3_init_20 rfl (lv_at hl 3 rfl) ?_
  have hm_4 := wup_eq (x := .inr (5, [.int (nI bd), .ref aw, .int (nI gr), .int (nI 0), .int (nI 0), .int (nI 0)])) hm_3
  refine c_putF (C := RX3) (T := TX3) (N := 6) (v := .int (nI gr)) (ty := .int) (fs2 := [.int (nI bd), .ref aw, .int (nI gr), .int (nI 0), .int (nI 0), .int (nI 0)]) hx hb hts hin_X3 tyX3 tyX3_ok nmX3 hown hK hP hD hS hm_3 rfl 2 (by decide) l_22 (fun _ h9 => h9) rfl hin2 rfl (by decide +kernel) rfl rfl (Nat.le_of_ble_eq_true rfl) rfl dX3_init_21 (fun H locs hP hD hS => ?_)
  try simp only [wup_wup] at hP hD
  exact W.vret hx hb hr (fun U9 ht hW9 => ⟨⟨(), rfl, trivial, ⟨hD, by rw [ht]; exact hP⟩⟩, hS.F ht⟩) hS.2.2 dX3_init_24
