/-! the class: a bid is opened -/
def kOpn (F : Nat → Nat → Nat) (o : Nat) (z : Bool) : Nat → Nat → Nat := up2 (up2 F 4 o (if z = true then 1 else 2)) 5 o (if z = true then 1 else 2)
set_option maxHeartbeats 4000000 in
set_option maxRecDepth 100000 in
theorem cv_open (l : Launch) (D : va_G) (cI cO cb : ClassId) (eA mi : Nat) (st : Nat → Nat) {A : Nat → Prop} (ws : va_W) (hD : va_D A ws) {own kd : Nat → Nat} {F : Nat → Nat → Nat} {L : Nat → List Nat} (hC : CW cI cO eA st own kd F L ws) (hW : WF kd F L) (hs : sInj st)  (o : Nat) (hk_o : kd o = 3) (z : Bool) : Met l yX1_open wsX1_open ({ frames := 0, cells := 0, slots := 0, locals := 0 }) (va_Pc [.ref o, .int (bi z)] (cB D cI cO cb eA mi st A ws)) (va_Qv (fun u : va_W => CW cI cO eA st own kd (kOpn F o z) L u ∧ WF kd (kOpn F o z) L ∧ va_D A u) (fun u U9 => va_P D vwCl u U9.heap) A) 0 0 A := by
  refine Met.ofW (cc := cX1_open) (maxL := 2) (ret := none) (by decide) rfl ?_
  intro p e s m args below meth c s₁ B hml hv
  obtain ⟨rfl, hP, hK, hG, hA⟩ := hv
  have hx := B.exec
  have hb := B.bytes
  have hr := B.returns
  have hts := atoms_spec (ws := wsX1_open) B.pre
  have hown : s.vm.findClass RX1 = some m.cls := findClass_of_methodNamed B.named
  have hlocks := B.notSynchronized
  have hin_X1 : ∀ w ∈ wsX10, w ∈ wsX1_open := fun w h => List.mem_cons_of_mem _ (List.mem_append_right _ h)
  have l_37 := (hts (.fieldLink RX1 37 "TenderHall$Status" "LACKS_PAPERS" "LTenderHall$Status;") (List.mem_of_getElem? (i := 2) rfl))
  have l_13 := (hts (.fieldLink RX1 13 "TenderHall$Bid" "statusAtOpening" "LTenderHall$Status;") (List.mem_of_getElem? (i := 3) rfl))
  have l_18 := (hts (.fieldLink RX1 18 "TenderHall$Bid" "status" "LTenderHall$Status;") (List.mem_of_getElem? (i := 4) rfl))
  have l_34 := (hts (.fieldLink RX1 34 "TenderHall$Status" "IN" "LTenderHall$Status;") (List.mem_of_getElem? (i := 1) rfl))
  have hS : va_S A s.heap s.heap [] := va_S.rf
  have hD0 := hD
  have hl := lv_entry ([.ref o, .int (bi z)]) (n := 2) (Nat.le_of_ble_eq_true rfl)
  rw [lg_entry_eq]
  generalize (lg_sl ([.ref o, .int (bi z)]) ++ List.replicate (2 - (lg_sl ([.ref o, .int (bi z)])).length) Slot.unset).toArray = ls at hl ⊢
  have hl : lv_has ls 2 [(0, .ref o), (1, .int (bi z))] := hl
  refine lv_aload_n hx hb dX1_open_0 rfl (lv_at hl 0 rfl) ?_
  refine lv_iload_n hx hb dX1_open_1 rfl (lv_at hl 1 rfl) ?_
  refine b_if_eq (tgt := 11) hx hb dX1_open_2 (by decide)  (fun c_1 => ?_) (fun c_1 => ?_)
  · refine va_gets hx hb hG.2.2.2.2.2.2.2.2.2.1 hS hown l_37 (fun _ h9 => h9) dX1_open_11 ?_
    have hm_2 : (o, .inr (3, [.int (nI (F 0 o)), .int (nI (F 1 o)), .int (nI (F 2 o)), .int (nI (F 3 o)), .ref (st (F 4 o)), .ref (st (F 5 o))])) ∈ ws := hC.at hk_o (by decide) (by decide)
    have hC9 := hC.put (f := 4) (v := 2) (x := .inr (3, [.int (nI (F 0 o)), .int (nI (F 1 o)), .int (nI (F 2 o)), .int (nI (F 3 o)), .ref (st 2), .ref (st (F 5 o))])) hD hk_o (by decide) (by decide) (by simp [ent, up2])
    have hW9 := hW.put (f := 4) (v := 2) hk_o (Or.inr (by show 2 < 4; omega)) (Or.inl rfl)
    refine c_put (C := RX1) (T := TX1) (N := 6) (v := .ref (st 2)) (ty := (.object "TenderHall$Status")) (fs2 := [.int (nI (F 0 o)), .int (nI (F 1 o)), .int (nI (F 2 o)), .int (nI (F 3 o)), .ref (st 2), .ref (st (F 5 o))]) hx hb hts hin_X1 tyX1 tyX1_ok nmX1 hown hK hP hD hS hm_2 rfl 4 (by decide) l_13 (fun _ h9 => h9) rfl (by decide +kernel) rfl rfl (Nat.le_of_ble_eq_true rfl) rfl dX1_open_14 (fun H locs hP hD hS => ?_)
    replace hC := hC9
    replace hW := hW9
    clear hC9 hW9
    refine lv_aload_n hx hb dX1_open_17 rfl (lv_at hl 0 rfl) ?_
    refine lv_aload_n hx hb dX1_open_18 rfl (lv_at hl 0 rfl) ?_
    have hm_3 : (o, .inr (3, [.int (nI (F 0 o)), .int (nI (F 1 o)), .int (nI (F 2 o)), .int (nI (F 3 o)), .ref (st ((up2 F 4 o 2) 4 o)), .ref (st (F 5 o))])) ∈ wup ws o (.inr (3, [.int (nI (F 0 o)), .int (nI (F 1 o)), .int (nI (F 2 o)), .int (nI (F 3 o)), .ref (st 2), .ref (st (F 5 o))])) := hC.at hk_o (by decide) (by decide)
    refine c_get (C := RX1) (T := TX1) (N := 6) hx hb hts hin_X1 hown hK hP hm_3 rfl 4 (by decide) l_13 (fun _ h9 => h9) rfl dX1_open_19 ?_
    have hn_4 : (up2 F 4 o 2) 4 o < 4 := hW.num (f := 4) hk_o rfl (by decide)
    have hC9 := hC.put (f := 5) (v := ((up2 F 4 o 2) 4 o)) (x := .inr (3, [.int (nI (F 0 o)), .int (nI (F 1 o)), .int (nI (F 2 o)), .int (nI (F 3 o)), .ref (st ((up2 F 4 o 2) 4 o)), .ref (st ((up2 F 4 o 2) 4 o))])) hD hk_o (by decide) (by decide) (by simp [ent, up2])
    have hW9 := hW.put (f := 5) (v := ((up2 F 4 o 2) 4 o)) hk_o (Or.inr (by show ((up2 F 4 o 2) 4 o) < 4; omega)) (Or.inl rfl)
    refine c_put (C := RX1) (T := TX1) (N := 6) (v := .ref (st ((up2 F 4 o 2) 4 o))) (ty := (.object "TenderHall$Status")) (fs2 := [.int (nI (F 0 o)), .int (nI (F 1 o)), .int (nI (F 2 o)), .int (nI (F 3 o)), .ref (st ((up2 F 4 o 2) 4 o)), .ref (st ((up2 F 4 o 2) 4 o))]) hx hb hts hin_X1 tyX1 tyX1_ok nmX1 hown hK hP hD hS hm_3 rfl 5 (by decide) l_18 (fun _ h9 => h9) rfl (by decide +kernel) rfl rfl (Nat.le_of_ble_eq_true rfl) rfl dX1_open_22 (fun H locs hP hD hS => ?_)
    replace hC := hC9
    replace hW := hW9
    clear hC9 hW9
    have eF : kOpn F o z = up2 (up2 F 4 o 2) 5 o ((up2 F 4 o 2) 4 o) := by unfold kOpn; rw [up2_eq, c_1]; try rfl
    exact W.vret hx hb hr (fun U9 ht hW9 => ⟨⟨(wup (wup ws o (.inr (3, [.int (nI (F 0 o)), .int (nI (F 1 o)), .int (nI (F 2 o)), .int (nI (F 3 o)), .ref (st 2), .ref (st (F 5 o))]))) o (.inr (3, [.int (nI (F 0 o)), .int (nI (F 1 o)), .int (nI (F 2 o)), .int (nI (F 3 o)), .ref (st ((up2 F 4 o 2) 4 o)), .ref (st ((up2 F 4 o 2) 4 o))]))), rfl, ⟨by rw [eF]; exact hC, by rw [eF]; exact hW, hD⟩, by show va_P D vwCl _ U9.heap; rw [ht]; exact hP⟩, hS.F ht⟩) hS.2.2 dX1_open_25
  · refine va_gets hx hb hG.2.2.2.2.2.2.2.2.1 hS hown l_34 (fun _ h9 => h9) dX1_open_5 ?_
    refine lv_goto (tgt := 14) hx hb dX1_open_8 (by decide) ?_
    have hm_5 : (o, .inr (3, [.int (nI (F 0 o)), .int (nI (F 1 o)), .int (nI (F 2 o)), .int (nI (F 3 o)), .ref (st (F 4 o)), .ref (st (F 5 o))])) ∈ ws := hC.at hk_o (by decide) (by decide)
    have hC9 := hC.put (f := 4) (v := 1) (x := .inr (3, [.int (nI (F 0 o)), .int (nI (F 1 o)), .int (nI (F 2 o)), .int (nI (F 3 o)), .ref (st 1), .ref (st (F 5 o))])) hD hk_o (by decide) (by decide) (by simp [ent, up2])
    have hW9 := hW.put (f := 4) (v := 1) hk_o (Or.inr (by show 1 < 4; omega)) (Or.inl rfl)
    refine c_put (C := RX1) (T := TX1) (N := 6) (v := .ref (st 1)) (ty := (.object "TenderHall$Status")) (fs2 := [.int (nI (F 0 o)), .int (nI (F 1 o)), .int (nI (F 2 o)), .int (nI (F 3 o)), .ref (st 1), .ref (st (F 5 o))]) hx hb hts hin_X1 tyX1 tyX1_ok nmX1 hown hK hP hD hS hm_5 rfl 4 (by decide) l_13 (fun _ h9 => h9) rfl (by decide +kernel) rfl rfl (Nat.le_of_ble_eq_true rfl) rfl dX1_open_14 (fun H locs hP hD hS => ?_)
    replace hC := hC9
    replace hW := hW9
    clear hC9 hW9
    refine lv_aload_n hx hb dX1_open_17 rfl (lv_at hl 0 rfl) ?_
    refine lv_aload_n hx hb dX1_open_18 rfl (lv_at hl 0 rfl) ?_
    have hm_6 : (o, .inr (3, [.int (nI (F 0 o)), .int (nI (F 1 o)), .int (nI (F 2 o)), .int (nI (F 3 o)), .ref (st ((up2 F 4 o 1) 4 o)), .ref (st (F 5 o))])) ∈ wup ws o (.inr (3, [.int (nI (F 0 o)), .int (nI (F 1 o)), .int (nI (F 2 o)), .int (nI (F 3 o)), .ref (st 1), .ref (st (F 5 o))])) := hC.at hk_o (by decide) (by decide)
    refine c_get (C := RX1) (T := TX1) (N := 6) hx hb hts hin_X1 hown hK hP hm_6 rfl 4 (by decide) l_13 (fun _ h9 => h9) rfl dX1_open_19 ?_
    have hn_7 : (up2 F 4 o 1) 4 o < 4 := hW.num (f := 4) hk_o rfl (by decide)
    have hC9 := hC.put (f := 5) (v := ((up2 F 4 o 1) 4 o)) (x := .inr (3, [.int (nI (F 0 o)), .int (nI (F 1 o)), .int (nI (F 2 o)), .int (nI (F 3 o)), .ref (st ((up2 F 4 o 1) 4 o)), .ref (st ((up2 F 4 o 1) 4 o))])) hD hk_o (by decide) (by decide) (by simp [ent, up2])
    have hW9 := hW.put (f := 5) (v := ((up2 F 4 o 1) 4 o)) hk_o (Or.inr (by show ((up2 F 4 o 1) 4 o) < 4; omega)) (Or.inl rfl)
    refine c_put (C := RX1) (T := TX1) (N := 6) (v := .ref (st ((up2 F 4 o 1) 4 o))) (ty := (.object "TenderHall$Status")) (fs2 := [.int (nI (F 0 o)), .int (nI (F 1 o)), .int (nI (F 2 o)), .int (nI (F 3 o)), .ref (st ((up2 F 4 o 1) 4 o)), .ref (st ((up2 F 4 o 1) 4 o))]) hx hb hts hin_X1 tyX1 tyX1_ok nmX1 hown hK hP hD hS hm_6 rfl 5 (by decide) l_18 (fun _ h9 => h9) rfl (by decide +kernel) rfl rfl (Nat.le_of_ble_eq_true rfl) rfl dX1_open_22 (fun H locs hP hD hS => ?_)
    replace hC := hC9
    replace hW := hW9
    clear hC9 hW9
    have eF : kOpn F o z = up2 (up2 F 4 o 1) 5 o ((up2 F 4 o 1) 4 o) := by unfold kOpn; rw [up2_eq, c_1]; try rfl
    exact W.vret hx hb hr (fun U9 ht hW9 => ⟨⟨(wup (wup ws o (.inr (3, [.int (nI (F 0 o)), .int (nI (F 1 o)), .int (nI (F 2 o)), .int (nI (F 3 o)), .ref (st 1), .ref (st (F 5 o))]))) o (.inr (3, [.int (nI (F 0 o)), .int (nI (F 1 o)), .int (nI (F 2 o)), .int (nI (F 3 o)), .ref (st ((up2 F 4 o 1) 4 o)), .ref (st ((up2 F 4 o 1) 4 o))]))), rfl, ⟨by rw [eF]; exact hC, by rw [eF]; exact hW, hD⟩, by show va_P D vwCl _ U9.heap; rw [ht]; exact hP⟩, hS.F ht⟩) hS.2.2 dX1_open_25
