set_option maxHeartbeats 4000000 in
set_option maxRecDepth 100000 in
theorem c9_in (l : Launch) (x : Int32) (lo : Int32) (hi : Int32) : Met l yX9_in wsX9_in ({ frames := 0, cells := 0, slots := 0, locals := 0 }) (va_Pc [.int x, .int lo, .int hi] (fun _ => True)) (vp_Si (fun r => r = bi (i_in x lo hi))) 0 0 (fun _ => False) := by
  refine Met.ofW (cc := cX9_in) (maxL := 3) (ret := (some .boolean)) (by decide) rfl ?_
  intro p e s m args below meth c s₁ B hml hv
  obtain ⟨rfl, -⟩ := hv
  have hx := B.exec
  have hb := B.bytes
  have hr := B.returns
  have hts := atoms_spec (ws := wsX9_in) B.pre
  have hown : s.vm.findClass RX9 = some m.cls := findClass_of_methodNamed B.named
  have hlocks := B.notSynchronized
  have hl := lv_entry ([.int x, .int lo, .int hi]) (n := 3) (Nat.le_of_ble_eq_true rfl)
  rw [lg_entry_eq]
  generalize (lg_sl ([.int x, .int lo, .int hi]) ++ List.replicate (3 - (lg_sl ([.int x, .int lo, .int hi])).length) Slot.unset).toArray = ls at hl ⊢
  have hl : lv_has ls 3 [(0, .int x), (1, .int lo), (2, .int hi)] := hl
  refine lv_iload_n hx hb dX9_in_0 rfl (lv_at hl 0 rfl) ?_
  refine lv_iload_n hx hb dX9_in_1 rfl (lv_at hl 1 rfl) ?_
  refine lv_icmp_lt (tgt := 14) hx hb dX9_in_2 (by decide)  (fun c_1 => ?_) (fun c_1 => ?_)
  · refine lv_iconst (v := nI 0) hx hb dX9_in_14 (by decide) ?_
    exact W.zret (v := nI 0) hx hb hr rfl (fun U9 ht hW => ⟨_, rfl, bi_zero (by simp [i_in, c_1]), ht⟩) (fun _ h => by cases h) dX9_in_15
  · refine lv_iload_n hx hb dX9_in_5 rfl (lv_at hl 0 rfl) ?_
    refine lv_iload_n hx hb dX9_in_6 rfl (lv_at hl 2 rfl) ?_
    refine lv_icmp_gt (tgt := 14) hx hb dX9_in_7 (by decide)  (fun c_2 => ?_) (fun c_2 => ?_)
    · refine lv_iconst (v := nI 0) hx hb dX9_in_14 (by decide) ?_
      exact W.zret (v := nI 0) hx hb hr rfl (fun U9 ht hW => ⟨_, rfl, bi_zero (by simp [i_in, c_1, c_2]), ht⟩) (fun _ h => by cases h) dX9_in_15
    · refine lv_iconst (v := nI 1) hx hb dX9_in_10 (by decide) ?_
      refine lv_goto (tgt := 15) hx hb dX9_in_11 (by decide) ?_
      exact W.zret (v := nI 1) hx hb hr rfl (fun U9 ht hW => ⟨_, rfl, bi_one (by simp [i_in, c_1, c_2]), ht⟩) (fun _ h => by cases h) dX9_in_15
set_option maxHeartbeats 4000000 in
set_option maxRecDepth 100000 in
theorem c9_isBidder (l : Launch) (x : Int32) : Met l yX9_isBidder wsX9_isBidder ({ frames := 1, cells := 0, slots := 0, locals := 22 }) (va_Pc [.int x] (fun _ => True)) (vp_Si (fun r => r = bi (isIx x 8))) 0 0 (fun _ => False) := by
  refine Met.ofW (cc := cX9_isBidder) (maxL := 1) (ret := (some .boolean)) (by decide) rfl ?_
  intro p e s m args below meth c s₁ B hml hv
  obtain ⟨rfl, -⟩ := hv
  have hx := B.exec
  have hb := B.bytes
  have hr := B.returns
  have hts := atoms_spec (ws := wsX9_isBidder) B.pre
  have hown : s.vm.findClass RX9 = some m.cls := findClass_of_methodNamed B.named
  have hlocks := B.notSynchronized
  have hl := lv_entry ([.int x]) (n := 1) (Nat.le_of_ble_eq_true rfl)
  rw [lg_entry_eq]
  generalize (lg_sl ([.int x]) ++ List.replicate (1 - (lg_sl ([.int x])).length) Slot.unset).toArray = ls at hl ⊢
  have hl : lv_has ls 1 [(0, .int x)] := hl
  refine lv_iload_n hx hb dX9_isBidder_0 rfl (lv_at hl 0 rfl) ?_
  refine lv_iconst (v := nI 0) hx hb dX9_isBidder_1 (by decide) ?_
  refine lv_bipush (v := nI 7) hx hb dX9_isBidder_2 (by decide) ?_
  refine vp_callSi (W.runS (As := [.int x, .int (nI 0), .int (nI 7)]) (rest := []) ⟨hx, hb, hml, hown, hts⟩ (c9_in l  x (nI 0) (nI 7)) (va_cwS 3 hts gX9_isBidder_X9_in rfl rfl rfl kd_X9_in ⟨Nat.le_of_ble_eq_true rfl, Nat.le_of_ble_eq_true rfl⟩) ⟨fun _ _ _ _ q => q, fun U hU hW => ⟨rfl, trivial⟩⟩ rfl rfl hl.1 rfl (lv_room (Nat.le_of_ble_eq_true rfl)) dX9_isBidder_4 ⟨Nat.le_of_ble_eq_true rfl, Nat.le_of_ble_eq_true rfl⟩) (fun r_1 hr_1 => ?_)
  subst hr_1
  exact W.zret (v := bi (i_in x (nI 0) (nI 7))) hx hb hr (bi_nar _) (fun U9 ht hW => ⟨_, rfl, congrArg bi (show i_in x (nI 0) (nI 7) = isIx x 8 from by rfl), ht⟩) (fun _ h => by cases h) dX9_isBidder_7
set_option maxHeartbeats 4000000 in
set_option maxRecDepth 100000 in
theorem c9_isTender (l : Launch) (D : va_G) (ad : Nat → Nat) (cI cZ cC : ClassId) (th : Nat) (M : MS) (hM : MI M) (x : Int32) : Met l yX9_isTender wsX9_isTender ({ frames := 1, cells := 0, slots := 0, locals := 22 }) (va_Pc [.ref (ad 0), .int x] (mB D ad cI cZ cC th M)) (vp_Si (fun r => r = bi (isIx x (M 3 0)))) 0 0 (fun _ => False) := by
  refine Met.ofW (cc := cX9_isTender) (maxL := 2) (ret := (some .boolean)) (by decide) rfl ?_
  intro p e s m args below meth c s₁ B hml hv
  obtain ⟨rfl, hP, hK⟩ := hv
  have hx := B.exec
  have hb := B.bytes
  have hr := B.returns
  have hts := atoms_spec (ws := wsX9_isTender) B.pre
  have hown : s.vm.findClass RX9 = some m.cls := findClass_of_methodNamed B.named
  have hlocks := B.notSynchronized
  have hin : ∀ w ∈ wsX90, w ∈ wsX9_isTender := fun w h => List.mem_cons_of_mem _ (List.mem_append_right _ h)
  have l_tenders := (hts (.fieldLink RX9 101 "TenderHallModel" "tenders" "I") (List.mem_of_getElem? (i := 1) rfl))
  have hl := lv_entry ([.ref (ad 0), .int x]) (n := 2) (Nat.le_of_ble_eq_true rfl)
  rw [lg_entry_eq]
  generalize (lg_sl ([.ref (ad 0), .int x]) ++ List.replicate (2 - (lg_sl ([.ref (ad 0), .int x])).length) Slot.unset).toArray = ls at hl ⊢
  have hl : lv_has ls 2 [(0, .ref (ad 0)), (1, .int x)] := hl
  refine lv_iload_n hx hb dX9_isTender_0 rfl (lv_at hl 1 rfl) ?_
  refine lv_iconst (v := nI 0) hx hb dX9_isTender_1 (by decide) ?_
  refine lv_aload_n hx hb dX9_isTender_2 rfl (lv_at hl 0 rfl) ?_
  refine m_get (v := .int (nI (M 3 0))) hx hb hts hin hown hK hP 3 (by decide) l_tenders rfl dX9_isTender_3 ?_
  refine lv_iconst (v := nI 1) hx hb dX9_isTender_6 (by decide) ?_
  refine lv_isub hx hb dX9_isTender_7 ?_
  refine vp_callSi (W.runS (As := [.int x, .int (nI 0), .int ((nI (M 3 0)) - (nI 1))]) (rest := []) ⟨hx, hb, hml, hown, hts⟩ (c9_in l  x (nI 0) ((nI (M 3 0)) - (nI 1))) (va_cwS 3 hts gX9_isTender_X9_in rfl rfl rfl kd_X9_in ⟨Nat.le_of_ble_eq_true rfl, Nat.le_of_ble_eq_true rfl⟩) ⟨fun _ _ _ _ q => q, fun U hU hW => ⟨rfl, trivial⟩⟩ rfl rfl hl.1 rfl (lv_room (Nat.le_of_ble_eq_true rfl)) dX9_isTender_8 ⟨Nat.le_of_ble_eq_true rfl, Nat.le_of_ble_eq_true rfl⟩) (fun r_1 hr_1 => ?_)
  subst hr_1
  exact W.zret (v := bi (i_in x (nI 0) ((nI (M 3 0)) - (nI 1)))) hx hb hr (bi_nar _) (fun U9 ht hW => ⟨_, rfl, congrArg bi (show i_in x (nI 0) ((nI (M 3 0)) - (nI 1)) = isIx x (M 3 0) from by rfl), ht⟩) (fun _ h => by cases h) dX9_isTender_11
set_option maxHeartbeats 4000000 in
set_option maxRecDepth 100000 in
theorem c9_isComplaint (l : Launch) (D : va_G) (ad : Nat → Nat) (cI cZ cC : ClassId) (th : Nat) (M : MS) (hM : MI M) (x : Int32) : Met l yX9_isComplaint wsX9_isComplaint ({ frames := 1, cells := 0, slots := 0, locals := 22 }) (va_Pc [.ref (ad 0), .int x] (mB D ad cI cZ cC th M)) (vp_Si (fun r => r = bi (isIx x (M 22 0)))) 0 0 (fun _ => False) := by
  refine Met.ofW (cc := cX9_isComplaint) (maxL := 2) (ret := (some .boolean)) (by decide) rfl ?_
  intro p e s m args below meth c s₁ B hml hv
  obtain ⟨rfl, hP, hK⟩ := hv
  have hx := B.exec
  have hb := B.bytes
  have hr := B.returns
  have hts := atoms_spec (ws := wsX9_isComplaint) B.pre
  have hown : s.vm.findClass RX9 = some m.cls := findClass_of_methodNamed B.named
  have hlocks := B.notSynchronized
  have hin : ∀ w ∈ wsX90, w ∈ wsX9_isComplaint := fun w h => List.mem_cons_of_mem _ (List.mem_append_right _ h)
  have l_complaints := (hts (.fieldLink RX9 148 "TenderHallModel" "complaints" "I") (List.mem_of_getElem? (i := 1) rfl))
  have hl := lv_entry ([.ref (ad 0), .int x]) (n := 2) (Nat.le_of_ble_eq_true rfl)
  rw [lg_entry_eq]
  generalize (lg_sl ([.ref (ad 0), .int x]) ++ List.replicate (2 - (lg_sl ([.ref (ad 0), .int x])).length) Slot.unset).toArray = ls at hl ⊢
  have hl : lv_has ls 2 [(0, .ref (ad 0)), (1, .int x)] := hl
  refine lv_iload_n hx hb dX9_isComplaint_0 rfl (lv_at hl 1 rfl) ?_
  refine lv_iconst (v := nI 0) hx hb dX9_isComplaint_1 (by decide) ?_
  refine lv_aload_n hx hb dX9_isComplaint_2 rfl (lv_at hl 0 rfl) ?_
  refine m_get (v := .int (nI (M 22 0))) hx hb hts hin hown hK hP 22 (by decide) l_complaints rfl dX9_isComplaint_3 ?_
  refine lv_iconst (v := nI 1) hx hb dX9_isComplaint_6 (by decide) ?_
  refine lv_isub hx hb dX9_isComplaint_7 ?_
  refine vp_callSi (W.runS (As := [.int x, .int (nI 0), .int ((nI (M 22 0)) - (nI 1))]) (rest := []) ⟨hx, hb, hml, hown, hts⟩ (c9_in l  x (nI 0) ((nI (M 22 0)) - (nI 1))) (va_cwS 3 hts gX9_isComplaint_X9_in rfl rfl rfl kd_X9_in ⟨Nat.le_of_ble_eq_true rfl, Nat.le_of_ble_eq_true rfl⟩) ⟨fun _ _ _ _ q => q, fun U hU hW => ⟨rfl, trivial⟩⟩ rfl rfl hl.1 rfl (lv_room (Nat.le_of_ble_eq_true rfl)) dX9_isComplaint_8 ⟨Nat.le_of_ble_eq_true rfl, Nat.le_of_ble_eq_true rfl⟩) (fun r_1 hr_1 => ?_)
  subst hr_1
  exact W.zret (v := bi (i_in x (nI 0) ((nI (M 22 0)) - (nI 1)))) hx hb hr (bi_nar _) (fun U9 ht hW => ⟨_, rfl, congrArg bi (show i_in x (nI 0) ((nI (M 22 0)) - (nI 1)) = isIx x (M 22 0) from by rfl), ht⟩) (fun _ h => by cases h) dX9_isComplaint_11
set_option maxHeartbeats 4000000 in
set_option maxRecDepth 100000 in
theorem c9_isContract (l : Launch) (D : va_G) (ad : Nat → Nat) (cI cZ cC : ClassId) (th : Nat) (M : MS) (hM : MI M) (x : Int32) : Met l yX9_isContract wsX9_isContract ({ frames := 1, cells := 0, slots := 0, locals := 22 }) (va_Pc [.ref (ad 0), .int x] (mB D ad cI cZ cC th M)) (vp_Si (fun r => r = bi (isIx x (M 29 0)))) 0 0 (fun _ => False) := by
  refine Met.ofW (cc := cX9_isContract) (maxL := 2) (ret := (some .boolean)) (by decide) rfl ?_
  intro p e s m args below meth c s₁ B hml hv
  obtain ⟨rfl, hP, hK⟩ := hv
  have hx := B.exec
  have hb := B.bytes
  have hr := B.returns
  have hts := atoms_spec (ws := wsX9_isContract) B.pre
  have hown : s.vm.findClass RX9 = some m.cls := findClass_of_methodNamed B.named
  have hlocks := B.notSynchronized
  have hin : ∀ w ∈ wsX90, w ∈ wsX9_isContract := fun w h => List.mem_cons_of_mem _ (List.mem_append_right _ h)
  have l_contracts := (hts (.fieldLink RX9 198 "TenderHallModel" "contracts" "I") (List.mem_of_getElem? (i := 1) rfl))
  have hl := lv_entry ([.ref (ad 0), .int x]) (n := 2) (Nat.le_of_ble_eq_true rfl)
  rw [lg_entry_eq]
  generalize (lg_sl ([.ref (ad 0), .int x]) ++ List.replicate (2 - (lg_sl ([.ref (ad 0), .int x])).length) Slot.unset).toArray = ls at hl ⊢
  have hl : lv_has ls 2 [(0, .ref (ad 0)), (1, .int x)] := hl
  refine lv_iload_n hx hb dX9_isContract_0 rfl (lv_at hl 1 rfl) ?_
  refine lv_iconst (v := nI 0) hx hb dX9_isContract_1 (by decide) ?_
  refine lv_aload_n hx hb dX9_isContract_2 rfl (lv_at hl 0 rfl) ?_
  refine m_get (v := .int (nI (M 29 0))) hx hb hts hin hown hK hP 29 (by decide) l_contracts rfl dX9_isContract_3 ?_
  refine lv_iconst (v := nI 1) hx hb dX9_isContract_6 (by decide) ?_
  refine lv_isub hx hb dX9_isContract_7 ?_
  refine vp_callSi (W.runS (As := [.int x, .int (nI 0), .int ((nI (M 29 0)) - (nI 1))]) (rest := []) ⟨hx, hb, hml, hown, hts⟩ (c9_in l  x (nI 0) ((nI (M 29 0)) - (nI 1))) (va_cwS 3 hts gX9_isContract_X9_in rfl rfl rfl kd_X9_in ⟨Nat.le_of_ble_eq_true rfl, Nat.le_of_ble_eq_true rfl⟩) ⟨fun _ _ _ _ q => q, fun U hU hW => ⟨rfl, trivial⟩⟩ rfl rfl hl.1 rfl (lv_room (Nat.le_of_ble_eq_true rfl)) dX9_isContract_8 ⟨Nat.le_of_ble_eq_true rfl, Nat.le_of_ble_eq_true rfl⟩) (fun r_1 hr_1 => ?_)
  subst hr_1
  exact W.zret (v := bi (i_in x (nI 0) ((nI (M 29 0)) - (nI 1)))) hx hb hr (bi_nar _) (fun U9 ht hW => ⟨_, rfl, congrArg bi (show i_in x (nI 0) ((nI (M 29 0)) - (nI 1)) = isIx x (M 29 0) from by rfl), ht⟩) (fun _ h => by cases h) dX9_isContract_11
set_option maxHeartbeats 4000000 in
set_option maxRecDepth 100000 in
theorem c9_isLot (l : Launch) (D : va_G) (ad : Nat → Nat) (cI cZ cC : ClassId) (th : Nat) (M : MS) (hM : MI M) (x : Int32) (y : Int32) : Met l yX9_isLot wsX9_isLot ({ frames := 2, cells := 0, slots := 0, locals := 43 }) (va_Pc [.ref (ad 0), .int x, .int y] (mB D ad cI cZ cC th M)) (vp_Si (fun r => r = bi (m_isLot M x y))) 0 0 (fun _ => False) := by
  refine Met.ofW (cc := cX9_isLot) (maxL := 3) (ret := (some .boolean)) (by decide) rfl ?_
  intro p e s m args below meth c s₁ B hml hv
  obtain ⟨rfl, hP, hK⟩ := hv
  have hx := B.exec
  have hb := B.bytes
  have hr := B.returns
  have hts := atoms_spec (ws := wsX9_isLot) B.pre
  have hown : s.vm.findClass RX9 = some m.cls := findClass_of_methodNamed B.named
  have hlocks := B.notSynchronized
  have hin : ∀ w ∈ wsX90, w ∈ wsX9_isLot := fun w h => List.mem_cons_of_mem _ (List.mem_append_right _ h)
  have l_lots := (hts (.fieldLink RX9 25 "TenderHallModel" "lots" "[I") (List.mem_of_getElem? (i := 1) rfl))
  have hl := lv_entry ([.ref (ad 0), .int x, .int y]) (n := 3) (Nat.le_of_ble_eq_true rfl)
  rw [lg_entry_eq]
  generalize (lg_sl ([.ref (ad 0), .int x, .int y]) ++ List.replicate (3 - (lg_sl ([.ref (ad 0), .int x, .int y])).length) Slot.unset).toArray = ls at hl ⊢
  have hl : lv_has ls 3 [(0, .ref (ad 0)), (1, .int x), (2, .int y)] := hl
  refine lv_aload_n hx hb dX9_isLot_0 rfl (lv_at hl 0 rfl) ?_
  refine lv_iload_n hx hb dX9_isLot_1 rfl (lv_at hl 1 rfl) ?_
  refine vp_callSi (W.runV (As := [.int x]) (rest := []) ⟨hx, hb, hml, hown, hts⟩ (c9_isTender l D ad cI cZ cC th M hM  x) (cwV 1 hts gX9_isLot_X9_isTender rfl rfl rfl kd_X9_isTender ⟨Nat.le_of_ble_eq_true rfl, Nat.le_of_ble_eq_true rfl⟩) ⟨mB_blind, m_recv hK hP, m_pre hK hP _⟩ rfl rfl hl.1 rfl (lv_room (Nat.le_of_ble_eq_true rfl)) dX9_isLot_2 ⟨Nat.le_of_ble_eq_true rfl, Nat.le_of_ble_eq_true rfl⟩) (fun r_1 hr_1 => ?_)
  subst hr_1
  refine b_if_eq (tgt := 28) hx hb dX9_isLot_5 (by decide)  (fun c_2 => ?_) (fun c_2 => ?_)
  · refine lv_iconst (v := nI 0) hx hb dX9_isLot_28 (by decide) ?_
    exact W.zret (v := nI 0) hx hb hr rfl (fun U9 ht hW => ⟨_, rfl, bi_zero (by first | (simp [m_isLot, c_2]; done) | (rw [m_isLot, nI_clamp (by have := hM 3 0; simp only [mcap] at this; omega), c_2, Bool.true_and]; exact rfl)), ht⟩) (fun _ h => by cases h) dX9_isLot_29
  · obtain ⟨t, ht, rfl⟩ := isIx_of (by have := hM 3 0; simp only [mcap] at this; omega) c_2
    have kt9 : (nI t).toNatClampNeg = t := nI_clamp (by have := hM 3 0; simp only [mcap] at this; omega)
    refine lv_iload_n hx hb dX9_isLot_8 rfl (lv_at hl 2 rfl) ?_
    refine lv_iconst (v := nI 0) hx hb dX9_isLot_9 (by decide) ?_
    refine lv_aload_n hx hb dX9_isLot_10 rfl (lv_at hl 0 rfl) ?_
    refine m_get hx hb hts hin hown hK hP 8 (by decide) l_lots rfl dX9_isLot_11 ?_
    refine lv_iload_n hx hb dX9_isLot_14 rfl (lv_at hl 1 rfl) ?_
    refine m_iald (f := 8) hx hb hK hP 6 rfl (by have := hM 3 0; simp only [mcap] at this; omega) (by decide) dX9_isLot_15 ?_
    refine lv_iconst (v := nI 1) hx hb dX9_isLot_16 (by decide) ?_
    refine lv_isub hx hb dX9_isLot_17 ?_
    refine vp_callSi (W.runS (As := [.int y, .int (nI 0), .int ((nI (M 8 t)) - (nI 1))]) (rest := []) ⟨hx, hb, hml, hown, hts⟩ (c9_in l  y (nI 0) ((nI (M 8 t)) - (nI 1))) (va_cwS 3 hts gX9_isLot_X9_in rfl rfl rfl kd_X9_in ⟨Nat.le_of_ble_eq_true rfl, Nat.le_of_ble_eq_true rfl⟩) ⟨fun _ _ _ _ q => q, fun U hU hW => ⟨rfl, trivial⟩⟩ rfl rfl hl.1 rfl (lv_room (Nat.le_of_ble_eq_true rfl)) dX9_isLot_18 ⟨Nat.le_of_ble_eq_true rfl, Nat.le_of_ble_eq_true rfl⟩) (fun r_3 hr_3 => ?_)
    subst hr_3
    refine b_if_eq (tgt := 28) hx hb dX9_isLot_21 (by decide)  (fun c_4 => ?_) (fun c_4 => ?_)
    · refine lv_iconst (v := nI 0) hx hb dX9_isLot_28 (by decide) ?_
      exact W.zret (v := nI 0) hx hb hr rfl (fun U9 ht hW => ⟨_, rfl, bi_zero (by first | (simp [m_isLot, c_2, kt9, c_4]; done) | (rw [m_isLot, nI_clamp (by have := hM 3 0; simp only [mcap] at this; omega), c_2, Bool.true_and]; exact c_4)), ht⟩) (fun _ h => by cases h) dX9_isLot_29
    · refine lv_iconst (v := nI 1) hx hb dX9_isLot_24 (by decide) ?_
      refine lv_goto (tgt := 29) hx hb dX9_isLot_25 (by decide) ?_
      exact W.zret (v := nI 1) hx hb hr rfl (fun U9 ht hW => ⟨_, rfl, bi_one (by first | (simp [m_isLot, c_2, kt9, c_4]; done) | (rw [m_isLot, nI_clamp (by have := hM 3 0; simp only [mcap] at this; omega), c_2, Bool.true_and]; exact c_4)), ht⟩) (fun _ h => by cases h) dX9_isLot_29
set_option maxHeartbeats 4000000 in
set_option maxRecDepth 100000 in
theorem c9_isOpened (l : Launch) (D : va_G) (ad : Nat → Nat) (cI cZ cC : ClassId) (th : Nat) (M : MS) (hM : MI M) (t : Nat) (ht : t < 6) : Met l yX9_isOpened wsX9_isOpened ({ frames := 0, cells := 0, slots := 0, locals := 0 }) (va_Pc [.ref (ad 0), .int (nI t)] (mB D ad cI cZ cC th M)) (vp_Si (fun r => r = bi (m_op M t))) 0 0 (fun _ => False) := by
  refine Met.ofW (cc := cX9_isOpened) (maxL := 2) (ret := (some .boolean)) (by decide) rfl ?_
  intro p e s m args below meth c s₁ B hml hv
  obtain ⟨rfl, hP, hK⟩ := hv
  have hx := B.exec
  have hb := B.bytes
  have hr := B.returns
  have hts := atoms_spec (ws := wsX9_isOpened) B.pre
  have hown : s.vm.findClass RX9 = some m.cls := findClass_of_methodNamed B.named
  have hlocks := B.notSynchronized
  have hin : ∀ w ∈ wsX90, w ∈ wsX9_isOpened := fun w h => List.mem_cons_of_mem _ (List.mem_append_right _ h)
  have l_today := (hts (.fieldLink RX9 108 "TenderHallModel" "today" "I") (List.mem_of_getElem? (i := 1) rfl))
  have l_closing := (hts (.fieldLink RX9 13 "TenderHallModel" "closing" "[I") (List.mem_of_getElem? (i := 2) rfl))
  have hl := lv_entry ([.ref (ad 0), .int (nI t)]) (n := 2) (Nat.le_of_ble_eq_true rfl)
  rw [lg_entry_eq]
  generalize (lg_sl ([.ref (ad 0), .int (nI t)]) ++ List.replicate (2 - (lg_sl ([.ref (ad 0), .int (nI t)])).length) Slot.unset).toArray = ls at hl ⊢
  have hl : lv_has ls 2 [(0, .ref (ad 0)), (1, .int (nI t))] := hl
  refine lv_aload_n hx hb dX9_isOpened_0 rfl (lv_at hl 0 rfl) ?_
  refine m_get (v := .int (nI (M 1 0))) hx hb hts hin hown hK hP 1 (by decide) l_today rfl dX9_isOpened_1 ?_
  refine lv_aload_n hx hb dX9_isOpened_4 rfl (lv_at hl 0 rfl) ?_
  refine m_get hx hb hts hin hown hK hP 4 (by decide) l_closing rfl dX9_isOpened_5 ?_
  refine lv_iload_n hx hb dX9_isOpened_8 rfl (lv_at hl 1 rfl) ?_
  refine m_iald (f := 4) hx hb hK hP 2 rfl (by omega) (by decide) dX9_isOpened_9 ?_
  refine n_icmp_lt (tgt := 17) hx hb dX9_isOpened_10 (by decide) (by have f1 : M 1 0 ≤ 2000 := hM 1 0; omega) (by have f1 : M 4 t ≤ 1000 := hM 4 t; omega) (fun c_1 => ?_) (fun c_1 => ?_)
  · refine lv_iconst (v := nI 0) hx hb dX9_isOpened_17 (by decide) ?_
    exact W.zret (v := nI 0) hx hb hr rfl (fun U9 ht hW => ⟨_, rfl, bi_zero (by (simp only [m_op, decide_eq_true_eq, decide_eq_false_iff_not]; omega)), ht⟩) (fun _ h => by cases h) dX9_isOpened_18
  · refine lv_iconst (v := nI 1) hx hb dX9_isOpened_13 (by decide) ?_
    refine lv_goto (tgt := 18) hx hb dX9_isOpened_14 (by decide) ?_
    exact W.zret (v := nI 1) hx hb hr rfl (fun U9 ht hW => ⟨_, rfl, bi_one (by (simp only [m_op, decide_eq_true_eq, decide_eq_false_iff_not]; omega)), ht⟩) (fun _ h => by cases h) dX9_isOpened_18
set_option maxHeartbeats 4000000 in
set_option maxRecDepth 100000 in
theorem c9_takesPart (l : Launch) (D : va_G) (ad : Nat → Nat) (cI cZ cC : ClassId) (th : Nat) (M : MS) (hM : MI M) (a : Nat) (ha : a < 144) : Met l yX9_takesPart wsX9_takesPart ({ frames := 1, cells := 0, slots := 0, locals := 21 }) (va_Pc [.ref (ad 0), .int (nI a)] (mB D ad cI cZ cC th M)) (vp_Si (fun r => r = bi (m_tp M a))) 0 0 (fun _ => False) := by
  refine Met.ofW (cc := cX9_takesPart) (maxL := 2) (ret := (some .boolean)) (by decide) rfl ?_
  intro p e s m args below meth c s₁ B hml hv
  obtain ⟨rfl, hP, hK⟩ := hv
  have hx := B.exec
  have hb := B.bytes
  have hr := B.returns
  have hts := atoms_spec (ws := wsX9_takesPart) B.pre
  have hown : s.vm.findClass RX9 = some m.cls := findClass_of_methodNamed B.named
  have hlocks := B.notSynchronized
  have hin : ∀ w ∈ wsX90, w ∈ wsX9_takesPart := fun w h => List.mem_cons_of_mem _ (List.mem_append_right _ h)
  have l_price := (hts (.fieldLink RX9 31 "TenderHallModel" "price" "[I") (List.mem_of_getElem? (i := 1) rfl))
  have l_lacks := (hts (.fieldLink RX9 40 "TenderHallModel" "lacks" "[Z") (List.mem_of_getElem? (i := 2) rfl))
  have l_isOut := (hts (.fieldLink RX9 44 "TenderHallModel" "isOut" "[Z") (List.mem_of_getElem? (i := 3) rfl))
  have hl := lv_entry ([.ref (ad 0), .int (nI a)]) (n := 2) (Nat.le_of_ble_eq_true rfl)
  rw [lg_entry_eq]
  generalize (lg_sl ([.ref (ad 0), .int (nI a)]) ++ List.replicate (2 - (lg_sl ([.ref (ad 0), .int (nI a)])).length) Slot.unset).toArray = ls at hl ⊢
  have hl : lv_has ls 2 [(0, .ref (ad 0)), (1, .int (nI a))] := hl
  refine lv_aload_n hx hb dX9_takesPart_0 rfl (lv_at hl 0 rfl) ?_
  refine lv_iload_n hx hb dX9_takesPart_1 rfl (lv_at hl 1 rfl) ?_
  refine lv_bipush (v := nI 8) hx hb dX9_takesPart_2 (by decide) ?_
  refine n_idiv hx hb dX9_takesPart_4 (z := a / 8) (by omega) (by decide) (by decide) rfl ?_
  refine lv_iconst (v := nI 3) hx hb dX9_takesPart_5 (by decide) ?_
  refine n_idiv hx hb dX9_takesPart_6 (z := (a / 8) / 3) (by omega) (by decide) (by decide) rfl ?_
  refine vp_callSi (W.runV (As := [.int (nI ((a / 8) / 3))]) (rest := []) ⟨hx, hb, hml, hown, hts⟩ (c9_isOpened l D ad cI cZ cC th M hM  ((a / 8) / 3) (by omega)) (cwV 1 hts gX9_takesPart_X9_isOpened rfl rfl rfl kd_X9_isOpened ⟨Nat.le_of_ble_eq_true rfl, Nat.le_of_ble_eq_true rfl⟩) ⟨mB_blind, m_recv hK hP, m_pre hK hP _⟩ rfl rfl hl.1 rfl (lv_room (Nat.le_of_ble_eq_true rfl)) dX9_takesPart_7 ⟨Nat.le_of_ble_eq_true rfl, Nat.le_of_ble_eq_true rfl⟩) (fun r_1 hr_1 => ?_)
  subst hr_1
  refine b_if_eq (tgt := 44) hx hb dX9_takesPart_10 (by decide)  (fun c_2 => ?_) (fun c_2 => ?_)
  · refine lv_iconst (v := nI 0) hx hb dX9_takesPart_44 (by decide) ?_
    exact W.zret (v := nI 0) hx hb hr rfl (fun U9 ht hW => ⟨_, rfl, bi_zero (by first | (simp [m_tp, c_2]; done) | (simp [m_tp, c_2]; omega)), ht⟩) (fun _ h => by cases h) dX9_takesPart_45
  · refine lv_aload_n hx hb dX9_takesPart_13 rfl (lv_at hl 0 rfl) ?_
    refine m_get hx hb hts hin hown hK hP 10 (by decide) l_price rfl dX9_takesPart_14 ?_
    refine lv_iload_n hx hb dX9_takesPart_17 rfl (lv_at hl 1 rfl) ?_
    refine m_iald (f := 10) hx hb hK hP 8 rfl (by omega) (by decide) dX9_takesPart_18 ?_
    refine n_if_le (tgt := 44) hx hb dX9_takesPart_19 (by decide) (by have f1 : M 10 a ≤ 100000 := hM 10 a; omega) (fun c_3 => ?_) (fun c_3 => ?_)
    · refine lv_iconst (v := nI 0) hx hb dX9_takesPart_44 (by decide) ?_
      exact W.zret (v := nI 0) hx hb hr rfl (fun U9 ht hW => ⟨_, rfl, bi_zero (by first | (simp [m_tp, c_2, c_3]; done) | (simp [m_tp, c_2, c_3]; omega)), ht⟩) (fun _ h => by cases h) dX9_takesPart_45
    · refine lv_aload_n hx hb dX9_takesPart_22 rfl (lv_at hl 0 rfl) ?_
      refine m_get hx hb hts hin hown hK hP 13 (by decide) l_lacks rfl dX9_takesPart_23 ?_
      refine lv_iload_n hx hb dX9_takesPart_26 rfl (lv_at hl 1 rfl) ?_
      refine m_zald (f := 13) hx hb hK hP 11 rfl (by omega) (by decide) dX9_takesPart_27 ?_
      refine n_if_ne (tgt := 44) hx hb dX9_takesPart_28 (by decide) (by have f1 : M 13 a ≤ 1 := hM 13 a; omega) (fun c_4 => ?_) (fun c_4 => ?_)
      · refine lv_iconst (v := nI 0) hx hb dX9_takesPart_44 (by decide) ?_
        exact W.zret (v := nI 0) hx hb hr rfl (fun U9 ht hW => ⟨_, rfl, bi_zero (by first | (simp [m_tp, c_2, c_3, c_4]; done) | (simp [m_tp, c_2, c_3, c_4]; omega)), ht⟩) (fun _ h => by cases h) dX9_takesPart_45
      · refine lv_aload_n hx hb dX9_takesPart_31 rfl (lv_at hl 0 rfl) ?_
        refine m_get hx hb hts hin hown hK hP 14 (by decide) l_isOut rfl dX9_takesPart_32 ?_
        refine lv_iload_n hx hb dX9_takesPart_35 rfl (lv_at hl 1 rfl) ?_
        refine m_zald (f := 14) hx hb hK hP 12 rfl (by omega) (by decide) dX9_takesPart_36 ?_
        refine n_if_ne (tgt := 44) hx hb dX9_takesPart_37 (by decide) (by have f1 : M 14 a ≤ 1 := hM 14 a; omega) (fun c_5 => ?_) (fun c_5 => ?_)
        · refine lv_iconst (v := nI 0) hx hb dX9_takesPart_44 (by decide) ?_
          exact W.zret (v := nI 0) hx hb hr rfl (fun U9 ht hW => ⟨_, rfl, bi_zero (by first | (simp [m_tp, c_2, c_3, c_4, c_5]; done) | (simp [m_tp, c_2, c_3, c_4, c_5]; omega)), ht⟩) (fun _ h => by cases h) dX9_takesPart_45
        · refine lv_iconst (v := nI 1) hx hb dX9_takesPart_40 (by decide) ?_
          refine lv_goto (tgt := 45) hx hb dX9_takesPart_41 (by decide) ?_
          exact W.zret (v := nI 1) hx hb hr rfl (fun U9 ht hW => ⟨_, rfl, bi_one (by first | (simp [m_tp, c_2, c_3, c_4, c_5]; done) | (simp [m_tp, c_2, c_3, c_4, c_5]; omega)), ht⟩) (fun _ h => by cases h) dX9_takesPart_45
set_option maxHeartbeats 4000000 in
set_option maxRecDepth 100000 in
theorem c9_scoreOf (l : Launch) (D : va_G) (ad : Nat → Nat) (cI cZ cC : ClassId) (th : Nat) (M : MS) (hM : MI M) (a : Nat) (ha : a < 144) (hp : 0 < M 10 a) : Met l yX9_scoreOf wsX9_scoreOf ({ frames := 2, cells := 0, slots := 0, locals := 42 }) (va_Pc [.ref (ad 0), .int (nI a)] (mB D ad cI cZ cC th M)) (vp_Si (fun r => r = nI (m_sc M a))) 0 0 (fun _ => False) := by
  refine Met.ofW (cc := cX9_scoreOf) (maxL := 6) (ret := (some .int)) (by decide) rfl ?_
  intro p e s m args below meth c s₁ B hml hv
  obtain ⟨rfl, hP, hK⟩ := hv
  have hx := B.exec
  have hb := B.bytes
  have hr := B.returns
  have hts := atoms_spec (ws := wsX9_scoreOf) B.pre
  have hown : s.vm.findClass RX9 = some m.cls := findClass_of_methodNamed B.named
  have hlocks := B.notSynchronized
  have hin : ∀ w ∈ wsX90, w ∈ wsX9_scoreOf := fun w h => List.mem_cons_of_mem _ (List.mem_append_right _ h)
  have l_price := (hts (.fieldLink RX9 31 "TenderHallModel" "price" "[I") (List.mem_of_getElem? (i := 1) rfl))
  have l_weight := (hts (.fieldLink RX9 19 "TenderHallModel" "weight" "[I") (List.mem_of_getElem? (i := 2) rfl))
  have l_quality := (hts (.fieldLink RX9 34 "TenderHallModel" "quality" "[I") (List.mem_of_getElem? (i := 3) rfl))
  have hl := lv_entry ([.ref (ad 0), .int (nI a)]) (n := 6) (Nat.le_of_ble_eq_true rfl)
  rw [lg_entry_eq]
  generalize (lg_sl ([.ref (ad 0), .int (nI a)]) ++ List.replicate (6 - (lg_sl ([.ref (ad 0), .int (nI a)])).length) Slot.unset).toArray = ls at hl ⊢
  have hl : lv_has ls 6 [(0, .ref (ad 0)), (1, .int (nI a))] := hl
  refine lv_iload_n hx hb dX9_scoreOf_0 rfl (lv_at hl 1 rfl) ?_
  refine lv_bipush (v := nI 8) hx hb dX9_scoreOf_1 (by decide) ?_
  refine n_idiv hx hb dX9_scoreOf_3 (z := a / 8) (by omega) (by decide) (by decide) rfl ?_
  refine lv_istore_n (lv' := [(2, .int (nI (a / 8))), (0, .ref (ad 0)), (1, .int (nI a))]) hx hb dX9_scoreOf_4 rfl hl (by decide) rfl (fun ls hl => ?_)
  refine lv_aload_n hx hb dX9_scoreOf_5 rfl (lv_at hl 1 rfl) ?_
  refine m_get hx hb hts hin hown hK hP 10 (by decide) l_price rfl dX9_scoreOf_6 ?_
  refine lv_iload_n hx hb dX9_scoreOf_9 rfl (lv_at hl 2 rfl) ?_
  refine m_iald (f := 10) hx hb hK hP 8 rfl (by omega) (by decide) dX9_scoreOf_10 ?_
  refine lv_istore_n (lv' := [(3, .int (nI (M 10 a))), (2, .int (nI (a / 8))), (0, .ref (ad 0)), (1, .int (nI a))]) hx hb dX9_scoreOf_11 rfl hl (by decide) rfl (fun ls hl => ?_)
  refine lv_iconst (v := nI 0) hx hb dX9_scoreOf_12 (by decide) ?_
  refine lv_istore (lv' := [(4, .int (nI 0)), (3, .int (nI (M 10 a))), (2, .int (nI (a / 8))), (0, .ref (ad 0)), (1, .int (nI a))]) hx hb dX9_scoreOf_13 hl (by decide) rfl (fun ls hl => ?_)
  refine w_loop (e := 8) (nL := 6) (fun b => [(0, .ref (ad 0)), (1, .int (nI a)), (2, .int (nI (a / 8))), (4, .int (nI b)), (3, .int (nI (m_lst M a b)))]) (fun b hb_2 ih_1 ls hl => ?_) 0 (by omega) ls (lv_sub hl [3, 4, 2, 0, 1] rfl)
  refine lv_iload hx hb dX9_scoreOf_15 (lv_at hl 3 rfl) ?_
  refine lv_bipush (v := nI 8) hx hb dX9_scoreOf_17 (by decide) ?_
  refine n_icmp_ge (tgt := 69) hx hb dX9_scoreOf_19 (by decide) (by omega) (by decide) (fun c_3 => ?_) (fun c_3 => ?_)
  · obtain rfl : 8 = b := by omega
    refine lv_aload_n hx hb dX9_scoreOf_69 rfl (lv_at hl 0 rfl) ?_
    refine m_get hx hb hts hin hown hK hP 6 (by decide) l_weight rfl dX9_scoreOf_70 ?_
    refine lv_iload_n hx hb dX9_scoreOf_73 rfl (lv_at hl 2 rfl) ?_
    refine lv_iconst (v := nI 3) hx hb dX9_scoreOf_74 (by decide) ?_
    refine n_idiv hx hb dX9_scoreOf_75 (z := (a / 8) / 3) (by omega) (by decide) (by decide) rfl ?_
    refine m_iald (f := 6) hx hb hK hP 4 rfl (by omega) (by decide) dX9_scoreOf_76 ?_
    refine lv_istore (lv' := [(4, .int (nI (M 6 ((a / 8) / 3)))), (0, .ref (ad 0)), (1, .int (nI a)), (2, .int (nI (a / 8))), (3, .int (nI (m_lst M a 8)))]) hx hb dX9_scoreOf_77 hl (by decide) rfl (fun ls hl => ?_)
    refine lv_iload_n hx hb dX9_scoreOf_79 rfl (lv_at hl 4 rfl) ?_
    refine lv_sipush (v := nI 1000) hx hb dX9_scoreOf_80 (by decide) ?_
    refine n_imul hx hb dX9_scoreOf_83 (z := (m_lst M a 8) * 1000) rfl ?_
    refine lv_aload_n hx hb dX9_scoreOf_84 rfl (lv_at hl 1 rfl) ?_
    refine m_get hx hb hts hin hown hK hP 10 (by decide) l_price rfl dX9_scoreOf_85 ?_
    refine lv_iload_n hx hb dX9_scoreOf_88 rfl (lv_at hl 2 rfl) ?_
    refine m_iald (f := 10) hx hb hK hP 8 rfl (by omega) (by decide) dX9_scoreOf_89 ?_
    refine n_idiv hx hb dX9_scoreOf_90 (z := ((m_lst M a 8) * 1000) / (M 10 a)) (by have f1 := (m_lst_le M a 8); have f2 : M 10 a ≤ 100000 := hM 10 a; omega) (by have f1 : M 10 a ≤ 100000 := hM 10 a; omega) (by have f1 : M 10 a ≤ 100000 := hM 10 a; omega) rfl ?_
    refine lv_iload hx hb dX9_scoreOf_91 (lv_at hl 0 rfl) ?_
    refine n_imul hx hb dX9_scoreOf_93 (z := (((m_lst M a 8) * 1000) / (M 10 a)) * (M 6 ((a / 8) / 3))) rfl ?_
    refine lv_bipush (v := nI 10) hx hb dX9_scoreOf_94 (by decide) ?_
    refine lv_aload_n hx hb dX9_scoreOf_96 rfl (lv_at hl 1 rfl) ?_
    refine m_get hx hb hts hin hown hK hP 11 (by decide) l_quality rfl dX9_scoreOf_97 ?_
    refine lv_iload_n hx hb dX9_scoreOf_100 rfl (lv_at hl 2 rfl) ?_
    refine m_iald (f := 11) hx hb hK hP 9 rfl (by omega) (by decide) dX9_scoreOf_101 ?_
    refine n_imul hx hb dX9_scoreOf_102 (z := 10 * (M 11 a)) rfl ?_
    refine lv_bipush (v := nI 100) hx hb dX9_scoreOf_103 (by decide) ?_
    refine lv_iload hx hb dX9_scoreOf_105 (lv_at hl 0 rfl) ?_
    refine n_isub hx hb dX9_scoreOf_107 (z := 100 - (M 6 ((a / 8) / 3))) (by have f1 : M 6 ((a / 8) / 3) ≤ 100 := hM 6 ((a / 8) / 3); have f2 : M 6 (a / 8 / 3) ≤ 100 := hM 6 (a / 8 / 3); omega) rfl ?_
    refine n_imul hx hb dX9_scoreOf_108 (z := (10 * (M 11 a)) * (100 - (M 6 ((a / 8) / 3)))) rfl ?_
    refine n_iadd hx hb dX9_scoreOf_109 (z := ((((m_lst M a 8) * 1000) / (M 10 a)) * (M 6 ((a / 8) / 3))) + ((10 * (M 11 a)) * (100 - (M 6 ((a / 8) / 3))))) rfl ?_
    exact W.iret (v := nI (((((m_lst M a 8) * 1000) / (M 10 a)) * (M 6 ((a / 8) / 3))) + ((10 * (M 11 a)) * (100 - (M 6 ((a / 8) / 3)))))) hx hb hr (fun U9 ht hW => ⟨_, rfl, congrArg nI (show ((((m_lst M a 8) * 1000) / (M 10 a)) * (M 6 ((a / 8) / 3))) + ((10 * (M 11 a)) * (100 - (M 6 ((a / 8) / 3)))) = m_sc M a from by rfl), ht⟩) (fun _ h => by cases h) dX9_scoreOf_110
  · refine lv_bipush (v := nI 8) hx hb dX9_scoreOf_22 (by decide) ?_
    refine lv_iload_n hx hb dX9_scoreOf_24 rfl (lv_at hl 2 rfl) ?_
    refine n_imul hx hb dX9_scoreOf_25 (z := 8 * (a / 8)) rfl ?_
    refine lv_iload hx hb dX9_scoreOf_26 (lv_at hl 3 rfl) ?_
    refine n_iadd hx hb dX9_scoreOf_28 (z := (8 * (a / 8)) + b) rfl ?_
    refine lv_istore (lv' := [(5, .int (nI ((8 * (a / 8)) + b))), (0, .ref (ad 0)), (1, .int (nI a)), (2, .int (nI (a / 8))), (4, .int (nI b)), (3, .int (nI (m_lst M a b)))]) hx hb dX9_scoreOf_29 hl (by decide) rfl (fun ls hl => ?_)
    refine lv_aload_n hx hb dX9_scoreOf_31 rfl (lv_at hl 1 rfl) ?_
    refine lv_iload hx hb dX9_scoreOf_32 (lv_at hl 0 rfl) ?_
    refine vp_callSi (W.runV (As := [.int (nI ((8 * (a / 8)) + b))]) (rest := []) ⟨hx, hb, hml, hown, hts⟩ (c9_takesPart l D ad cI cZ cC th M hM  ((8 * (a / 8)) + b) (by omega)) (cwV 1 hts gX9_scoreOf_X9_takesPart rfl rfl rfl kd_X9_takesPart ⟨Nat.le_of_ble_eq_true rfl, Nat.le_of_ble_eq_true rfl⟩) ⟨mB_blind, m_recv hK hP, m_pre hK hP _⟩ rfl rfl hl.1 rfl (lv_room (Nat.le_of_ble_eq_true rfl)) dX9_scoreOf_34 ⟨Nat.le_of_ble_eq_true rfl, Nat.le_of_ble_eq_true rfl⟩) (fun r_4 hr_4 => ?_)
    subst hr_4
    refine b_if_eq (tgt := 61) hx hb dX9_scoreOf_37 (by decide)  (fun c_5 => ?_) (fun c_5 => ?_)
    · refine lv_iload_n hx hb dX9_scoreOf_61 rfl (lv_at hl 5 rfl) ?_
      refine lv_istore_n (lv' := [(3, .int (nI (m_lst M a b))), (5, .int (nI ((8 * (a / 8)) + b))), (0, .ref (ad 0)), (1, .int (nI a)), (2, .int (nI (a / 8))), (4, .int (nI b))]) hx hb dX9_scoreOf_62 rfl hl (by decide) rfl (fun ls hl => ?_)
      refine n_iinc (k := 5) (lv' := [(4, .int (nI (b + 1))), (3, .int (nI (m_lst M a b))), (5, .int (nI ((8 * (a / 8)) + b))), (0, .ref (ad 0)), (1, .int (nI a)), (2, .int (nI (a / 8)))]) hx hb dX9_scoreOf_63 hl rfl (by decide) rfl (fun ls hl => ?_)
      refine lv_goto (tgt := 15) hx hb dX9_scoreOf_66 (by decide) ?_
      have e_6 : m_lst M a (b + 1) = m_lst M a b := by first | (simp [m_lst, c_3, c_5]; done) | (rw [m_lst, if_neg (by omega)]) | (rw [m_lst, if_neg (fun q => absurd q.2 (by omega))])
      refine ih_1 (by omega) ls ?_
      show lv_has ls 6 [(0, .ref (ad 0)), (1, .int (nI a)), (2, .int (nI (a / 8))), (4, .int (nI (b + 1))), (3, .int (nI (m_lst M a (b + 1))))]
      rw [e_6]
      exact lv_sub hl [3, 4, 5, 0, 1] rfl
    · refine lv_aload_n hx hb dX9_scoreOf_40 rfl (lv_at hl 1 rfl) ?_
      refine m_get hx hb hts hin hown hK hP 10 (by decide) l_price rfl dX9_scoreOf_41 ?_
      refine lv_iload hx hb dX9_scoreOf_44 (lv_at hl 0 rfl) ?_
      refine m_iald (f := 10) hx hb hK hP 8 rfl (by omega) (by decide) dX9_scoreOf_46 ?_
      refine lv_iload_n hx hb dX9_scoreOf_47 rfl (lv_at hl 5 rfl) ?_
      refine n_icmp_ge (tgt := 61) hx hb dX9_scoreOf_48 (by decide) (by have f1 : M 10 ((8 * (a / 8)) + b) ≤ 100000 := hM 10 ((8 * (a / 8)) + b); omega) (by have f1 := (m_lst_le M a b); have f2 : M 10 a ≤ 100000 := hM 10 a; omega) (fun c_7 => ?_) (fun c_7 => ?_)
      · refine lv_iload_n hx hb dX9_scoreOf_61 rfl (lv_at hl 5 rfl) ?_
        refine lv_istore_n (lv' := [(3, .int (nI (m_lst M a b))), (5, .int (nI ((8 * (a / 8)) + b))), (0, .ref (ad 0)), (1, .int (nI a)), (2, .int (nI (a / 8))), (4, .int (nI b))]) hx hb dX9_scoreOf_62 rfl hl (by decide) rfl (fun ls hl => ?_)
        refine n_iinc (k := 5) (lv' := [(4, .int (nI (b + 1))), (3, .int (nI (m_lst M a b))), (5, .int (nI ((8 * (a / 8)) + b))), (0, .ref (ad 0)), (1, .int (nI a)), (2, .int (nI (a / 8)))]) hx hb dX9_scoreOf_63 hl rfl (by decide) rfl (fun ls hl => ?_)
        refine lv_goto (tgt := 15) hx hb dX9_scoreOf_66 (by decide) ?_
        have e_8 : m_lst M a (b + 1) = m_lst M a b := by first | (simp [m_lst, c_3, c_5, c_7]; done) | (rw [m_lst, if_neg (by omega)]) | (rw [m_lst, if_neg (fun q => absurd q.2 (by omega))])
        refine ih_1 (by omega) ls ?_
        show lv_has ls 6 [(0, .ref (ad 0)), (1, .int (nI a)), (2, .int (nI (a / 8))), (4, .int (nI (b + 1))), (3, .int (nI (m_lst M a (b + 1))))]
        rw [e_8]
        exact lv_sub hl [3, 4, 5, 0, 1] rfl
      · refine lv_aload_n hx hb dX9_scoreOf_51 rfl (lv_at hl 1 rfl) ?_
        refine m_get hx hb hts hin hown hK hP 10 (by decide) l_price rfl dX9_scoreOf_52 ?_
        refine lv_iload hx hb dX9_scoreOf_55 (lv_at hl 0 rfl) ?_
        refine m_iald (f := 10) hx hb hK hP 8 rfl (by omega) (by decide) dX9_scoreOf_57 ?_
        refine lv_goto (tgt := 62) hx hb dX9_scoreOf_58 (by decide) ?_
        refine lv_istore_n (lv' := [(3, .int (nI (M 10 ((8 * (a / 8)) + b)))), (5, .int (nI ((8 * (a / 8)) + b))), (0, .ref (ad 0)), (1, .int (nI a)), (2, .int (nI (a / 8))), (4, .int (nI b))]) hx hb dX9_scoreOf_62 rfl hl (by decide) rfl (fun ls hl => ?_)
        refine n_iinc (k := 5) (lv' := [(4, .int (nI (b + 1))), (3, .int (nI (M 10 ((8 * (a / 8)) + b)))), (5, .int (nI ((8 * (a / 8)) + b))), (0, .ref (ad 0)), (1, .int (nI a)), (2, .int (nI (a / 8)))]) hx hb dX9_scoreOf_63 hl rfl (by decide) rfl (fun ls hl => ?_)
        refine lv_goto (tgt := 15) hx hb dX9_scoreOf_66 (by decide) ?_
        have e_9 : m_lst M a (b + 1) = M 10 ((8 * (a / 8)) + b) := by first | (simp [m_lst, c_3, c_5, c_7]; done) | (rw [m_lst, if_neg (by omega)]) | (rw [m_lst, if_neg (fun q => absurd q.2 (by omega))])
        refine ih_1 (by omega) ls ?_
        show lv_has ls 6 [(0, .ref (ad 0)), (1, .int (nI a)), (2, .int (nI (a / 8))), (4, .int (nI (b + 1))), (3, .int (nI (m_lst M a (b + 1))))]
        rw [e_9]
        exact lv_sub hl [3, 4, 5, 0, 1] rfl
set_option maxHeartbeats 4000000 in
set_option maxRecDepth 100000 in
theorem c9_isBetter (l : Launch) (D : va_G) (ad : Nat → Nat) (cI cZ cC : ClassId) (th : Nat) (M : MS) (hM : MI M) (a : Nat) (b : Nat) (ha : a < 144) (hb9 : b < 144) (hp : 0 < M 10 a) (hq : 0 < M 10 b) : Met l yX9_isBetter wsX9_isBetter ({ frames := 3, cells := 0, slots := 0, locals := 67 }) (va_Pc [.ref (ad 0), .int (nI a), .int (nI b)] (mB D ad cI cZ cC th M)) (vp_Si (fun r => r = bi (m_bt M a b))) 0 0 (fun _ => False) := by
  refine Met.ofW (cc := cX9_isBetter) (maxL := 5) (ret := (some .boolean)) (by decide) rfl ?_
  intro p e s m args below meth c s₁ B hml hv
  obtain ⟨rfl, hP, hK⟩ := hv
  have hx := B.exec
  have hb := B.bytes
  have hr := B.returns
  have hts := atoms_spec (ws := wsX9_isBetter) B.pre
  have hown : s.vm.findClass RX9 = some m.cls := findClass_of_methodNamed B.named
  have hlocks := B.notSynchronized
  have hin : ∀ w ∈ wsX90, w ∈ wsX9_isBetter := fun w h => List.mem_cons_of_mem _ (List.mem_append_right _ h)
  have l_price := (hts (.fieldLink RX9 31 "TenderHallModel" "price" "[I") (List.mem_of_getElem? (i := 1) rfl))
  have l_made := (hts (.fieldLink RX9 37 "TenderHallModel" "made" "[I") (List.mem_of_getElem? (i := 2) rfl))
  have hl := lv_entry ([.ref (ad 0), .int (nI a), .int (nI b)]) (n := 5) (Nat.le_of_ble_eq_true rfl)
  rw [lg_entry_eq]
  generalize (lg_sl ([.ref (ad 0), .int (nI a), .int (nI b)]) ++ List.replicate (5 - (lg_sl ([.ref (ad 0), .int (nI a), .int (nI b)])).length) Slot.unset).toArray = ls at hl ⊢
  have hl : lv_has ls 5 [(0, .ref (ad 0)), (1, .int (nI a)), (2, .int (nI b))] := hl
  refine lv_aload_n hx hb dX9_isBetter_0 rfl (lv_at hl 0 rfl) ?_
  refine lv_iload_n hx hb dX9_isBetter_1 rfl (lv_at hl 1 rfl) ?_
  refine vp_callSi (W.runV (As := [.int (nI a)]) (rest := []) ⟨hx, hb, hml, hown, hts⟩ (c9_scoreOf l D ad cI cZ cC th M hM  a (by omega) (by omega)) (cwV 1 hts gX9_isBetter_X9_scoreOf rfl rfl rfl kd_X9_scoreOf ⟨Nat.le_of_ble_eq_true rfl, Nat.le_of_ble_eq_true rfl⟩) ⟨mB_blind, m_recv hK hP, m_pre hK hP _⟩ rfl rfl hl.1 rfl (lv_room (Nat.le_of_ble_eq_true rfl)) dX9_isBetter_2 ⟨Nat.le_of_ble_eq_true rfl, Nat.le_of_ble_eq_true rfl⟩) (fun r_1 hr_1 => ?_)
  subst hr_1
  refine lv_istore_n (lv' := [(3, .int (nI (m_sc M a))), (0, .ref (ad 0)), (1, .int (nI a)), (2, .int (nI b))]) hx hb dX9_isBetter_5 rfl hl (by decide) rfl (fun ls hl => ?_)
  refine lv_aload_n hx hb dX9_isBetter_6 rfl (lv_at hl 1 rfl) ?_
  refine lv_iload_n hx hb dX9_isBetter_7 rfl (lv_at hl 3 rfl) ?_
  refine vp_callSi (W.runV (As := [.int (nI b)]) (rest := []) ⟨hx, hb, hml, hown, hts⟩ (c9_scoreOf l D ad cI cZ cC th M hM  b (by omega) (by omega)) (cwV 1 hts gX9_isBetter_X9_scoreOf rfl rfl rfl kd_X9_scoreOf ⟨Nat.le_of_ble_eq_true rfl, Nat.le_of_ble_eq_true rfl⟩) ⟨mB_blind, m_recv hK hP, m_pre hK hP _⟩ rfl rfl hl.1 rfl (lv_room (Nat.le_of_ble_eq_true rfl)) dX9_isBetter_8 ⟨Nat.le_of_ble_eq_true rfl, Nat.le_of_ble_eq_true rfl⟩) (fun r_2 hr_2 => ?_)
  subst hr_2
  refine lv_istore (lv' := [(4, .int (nI (m_sc M b))), (3, .int (nI (m_sc M a))), (0, .ref (ad 0)), (1, .int (nI a)), (2, .int (nI b))]) hx hb dX9_isBetter_11 hl (by decide) rfl (fun ls hl => ?_)
  refine lv_iload_n hx hb dX9_isBetter_13 rfl (lv_at hl 1 rfl) ?_
  refine lv_iload hx hb dX9_isBetter_14 (lv_at hl 0 rfl) ?_
  refine n_icmp_ne (tgt := 34) hx hb dX9_isBetter_16 (by decide) (by have f1 := (m_sc_le hM a); omega) (by have f1 := (m_sc_le hM b); omega) (fun c_3 => ?_) (fun c_3 => ?_)
  · refine lv_iload_n hx hb dX9_isBetter_34 rfl (lv_at hl 1 rfl) ?_
    refine lv_iload hx hb dX9_isBetter_35 (lv_at hl 0 rfl) ?_
    refine n_icmp_eq (tgt := 54) hx hb dX9_isBetter_37 (by decide) (by have f1 := (m_sc_le hM a); omega) (by have f1 := (m_sc_le hM b); omega) (fun c_4 => ?_) (fun c_4 => ?_)
    · refine lv_aload_n hx hb dX9_isBetter_54 rfl (lv_at hl 2 rfl) ?_
      refine m_get hx hb hts hin hown hK hP 10 (by decide) l_price rfl dX9_isBetter_55 ?_
      refine lv_iload_n hx hb dX9_isBetter_58 rfl (lv_at hl 3 rfl) ?_
      refine m_iald (f := 10) hx hb hK hP 8 rfl (by omega) (by decide) dX9_isBetter_59 ?_
      refine lv_aload_n hx hb dX9_isBetter_60 rfl (lv_at hl 2 rfl) ?_
      refine m_get hx hb hts hin hown hK hP 10 (by decide) l_price rfl dX9_isBetter_61 ?_
      refine lv_iload_n hx hb dX9_isBetter_64 rfl (lv_at hl 4 rfl) ?_
      refine m_iald (f := 10) hx hb hK hP 8 rfl (by omega) (by decide) dX9_isBetter_65 ?_
      refine n_icmp_ge (tgt := 73) hx hb dX9_isBetter_66 (by decide) (by have f1 : M 10 a ≤ 100000 := hM 10 a; omega) (by have f1 : M 10 b ≤ 100000 := hM 10 b; omega) (fun c_5 => ?_) (fun c_5 => ?_)
      · refine lv_iconst (v := nI 0) hx hb dX9_isBetter_73 (by decide) ?_
        exact W.zret (v := nI 0) hx hb hr rfl (fun U9 ht hW => ⟨_, rfl, bi_zero (by first | (simp [m_bt, c_3, c_4, c_5]; done) | (simp [m_bt, c_3, c_4, c_5]; omega) | (unfold m_bt; split <;> (try split) <;> simp <;> omega)), ht⟩) (fun _ h => by cases h) dX9_isBetter_74
      · refine lv_iconst (v := nI 1) hx hb dX9_isBetter_69 (by decide) ?_
        refine lv_goto (tgt := 74) hx hb dX9_isBetter_70 (by decide) ?_
        exact W.zret (v := nI 1) hx hb hr rfl (fun U9 ht hW => ⟨_, rfl, bi_one (by first | (simp [m_bt, c_3, c_4, c_5]; done) | (simp [m_bt, c_3, c_4, c_5]; omega) | (unfold m_bt; split <;> (try split) <;> simp <;> omega)), ht⟩) (fun _ h => by cases h) dX9_isBetter_74
    · refine lv_iload_n hx hb dX9_isBetter_40 rfl (lv_at hl 1 rfl) ?_
      refine lv_iload hx hb dX9_isBetter_41 (lv_at hl 0 rfl) ?_
      refine n_icmp_le (tgt := 50) hx hb dX9_isBetter_43 (by decide) (by have f1 := (m_sc_le hM a); omega) (by have f1 := (m_sc_le hM b); omega) (fun c_6 => ?_) (fun c_6 => ?_)
      · refine lv_iconst (v := nI 0) hx hb dX9_isBetter_50 (by decide) ?_
        refine lv_goto (tgt := 74) hx hb dX9_isBetter_51 (by decide) ?_
        exact W.zret (v := nI 0) hx hb hr rfl (fun U9 ht hW => ⟨_, rfl, bi_zero (by first | (simp [m_bt, c_3, c_4, c_6]; done) | (simp [m_bt, c_3, c_4, c_6]; omega) | (unfold m_bt; split <;> (try split) <;> simp <;> omega)), ht⟩) (fun _ h => by cases h) dX9_isBetter_74
      · refine lv_iconst (v := nI 1) hx hb dX9_isBetter_46 (by decide) ?_
        refine lv_goto (tgt := 74) hx hb dX9_isBetter_47 (by decide) ?_
        exact W.zret (v := nI 1) hx hb hr rfl (fun U9 ht hW => ⟨_, rfl, bi_one (by first | (simp [m_bt, c_3, c_4, c_6]; done) | (simp [m_bt, c_3, c_4, c_6]; omega) | (unfold m_bt; split <;> (try split) <;> simp <;> omega)), ht⟩) (fun _ h => by cases h) dX9_isBetter_74
  · refine lv_aload_n hx hb dX9_isBetter_19 rfl (lv_at hl 2 rfl) ?_
    refine m_get hx hb hts hin hown hK hP 10 (by decide) l_price rfl dX9_isBetter_20 ?_
    refine lv_iload_n hx hb dX9_isBetter_23 rfl (lv_at hl 3 rfl) ?_
    refine m_iald (f := 10) hx hb hK hP 8 rfl (by omega) (by decide) dX9_isBetter_24 ?_
    refine lv_aload_n hx hb dX9_isBetter_25 rfl (lv_at hl 2 rfl) ?_
    refine m_get hx hb hts hin hown hK hP 10 (by decide) l_price rfl dX9_isBetter_26 ?_
    refine lv_iload_n hx hb dX9_isBetter_29 rfl (lv_at hl 4 rfl) ?_
    refine m_iald (f := 10) hx hb hK hP 8 rfl (by omega) (by decide) dX9_isBetter_30 ?_
    refine n_icmp_eq (tgt := 75) hx hb dX9_isBetter_31 (by decide) (by have f1 : M 10 a ≤ 100000 := hM 10 a; omega) (by have f1 : M 10 b ≤ 100000 := hM 10 b; omega) (fun c_7 => ?_) (fun c_7 => ?_)
    · refine lv_aload_n hx hb dX9_isBetter_75 rfl (lv_at hl 2 rfl) ?_
      refine m_get hx hb hts hin hown hK hP 12 (by decide) l_made rfl dX9_isBetter_76 ?_
      refine lv_iload_n hx hb dX9_isBetter_79 rfl (lv_at hl 3 rfl) ?_
      refine m_iald (f := 12) hx hb hK hP 10 rfl (by omega) (by decide) dX9_isBetter_80 ?_
      refine lv_aload_n hx hb dX9_isBetter_81 rfl (lv_at hl 2 rfl) ?_
      refine m_get hx hb hts hin hown hK hP 12 (by decide) l_made rfl dX9_isBetter_82 ?_
      refine lv_iload_n hx hb dX9_isBetter_85 rfl (lv_at hl 4 rfl) ?_
      refine m_iald (f := 12) hx hb hK hP 10 rfl (by omega) (by decide) dX9_isBetter_86 ?_
      refine n_icmp_ge (tgt := 94) hx hb dX9_isBetter_87 (by decide) (by have f1 : M 12 a ≤ 1000 := hM 12 a; omega) (by have f1 : M 12 b ≤ 1000 := hM 12 b; omega) (fun c_8 => ?_) (fun c_8 => ?_)
      · refine lv_iconst (v := nI 0) hx hb dX9_isBetter_94 (by decide) ?_
        exact W.zret (v := nI 0) hx hb hr rfl (fun U9 ht hW => ⟨_, rfl, bi_zero (by first | (simp [m_bt, c_3, c_7, c_8]; done) | (simp [m_bt, c_3, c_7, c_8]; omega) | (unfold m_bt; split <;> (try split) <;> simp <;> omega)), ht⟩) (fun _ h => by cases h) dX9_isBetter_95
      · refine lv_iconst (v := nI 1) hx hb dX9_isBetter_90 (by decide) ?_
        refine lv_goto (tgt := 95) hx hb dX9_isBetter_91 (by decide) ?_
        exact W.zret (v := nI 1) hx hb hr rfl (fun U9 ht hW => ⟨_, rfl, bi_one (by first | (simp [m_bt, c_3, c_7, c_8]; done) | (simp [m_bt, c_3, c_7, c_8]; omega) | (unfold m_bt; split <;> (try split) <;> simp <;> omega)), ht⟩) (fun _ h => by cases h) dX9_isBetter_95
    · refine lv_iload_n hx hb dX9_isBetter_34 rfl (lv_at hl 1 rfl) ?_
      refine lv_iload hx hb dX9_isBetter_35 (lv_at hl 0 rfl) ?_
      refine n_icmp_eq (tgt := 54) hx hb dX9_isBetter_37 (by decide) (by have f1 := (m_sc_le hM a); omega) (by have f1 := (m_sc_le hM b); omega) (fun c_9 => ?_) (fun c_9 => ?_)
      · refine lv_aload_n hx hb dX9_isBetter_54 rfl (lv_at hl 2 rfl) ?_
        refine m_get hx hb hts hin hown hK hP 10 (by decide) l_price rfl dX9_isBetter_55 ?_
        refine lv_iload_n hx hb dX9_isBetter_58 rfl (lv_at hl 3 rfl) ?_
        refine m_iald (f := 10) hx hb hK hP 8 rfl (by omega) (by decide) dX9_isBetter_59 ?_
        refine lv_aload_n hx hb dX9_isBetter_60 rfl (lv_at hl 2 rfl) ?_
        refine m_get hx hb hts hin hown hK hP 10 (by decide) l_price rfl dX9_isBetter_61 ?_
        refine lv_iload_n hx hb dX9_isBetter_64 rfl (lv_at hl 4 rfl) ?_
        refine m_iald (f := 10) hx hb hK hP 8 rfl (by omega) (by decide) dX9_isBetter_65 ?_
        refine n_icmp_ge (tgt := 73) hx hb dX9_isBetter_66 (by decide) (by have f1 : M 10 a ≤ 100000 := hM 10 a; omega) (by have f1 : M 10 b ≤ 100000 := hM 10 b; omega) (fun c_10 => ?_) (fun c_10 => ?_)
        · refine lv_iconst (v := nI 0) hx hb dX9_isBetter_73 (by decide) ?_
          exact W.zret (v := nI 0) hx hb hr rfl (fun U9 ht hW => ⟨_, rfl, bi_zero (by first | (simp [m_bt, c_3, c_7, c_9, c_10]; done) | (simp [m_bt, c_3, c_7, c_9, c_10]; omega) | (unfold m_bt; split <;> (try split) <;> simp <;> omega)), ht⟩) (fun _ h => by cases h) dX9_isBetter_74
        · refine lv_iconst (v := nI 1) hx hb dX9_isBetter_69 (by decide) ?_
          refine lv_goto (tgt := 74) hx hb dX9_isBetter_70 (by decide) ?_
          exact W.zret (v := nI 1) hx hb hr rfl (fun U9 ht hW => ⟨_, rfl, bi_one (by first | (simp [m_bt, c_3, c_7, c_9, c_10]; done) | (simp [m_bt, c_3, c_7, c_9, c_10]; omega) | (unfold m_bt; split <;> (try split) <;> simp <;> omega)), ht⟩) (fun _ h => by cases h) dX9_isBetter_74
      · refine lv_iload_n hx hb dX9_isBetter_40 rfl (lv_at hl 1 rfl) ?_
        refine lv_iload hx hb dX9_isBetter_41 (lv_at hl 0 rfl) ?_
        refine n_icmp_le (tgt := 50) hx hb dX9_isBetter_43 (by decide) (by have f1 := (m_sc_le hM a); omega) (by have f1 := (m_sc_le hM b); omega) (fun c_11 => ?_) (fun c_11 => ?_)
        · refine lv_iconst (v := nI 0) hx hb dX9_isBetter_50 (by decide) ?_
          refine lv_goto (tgt := 74) hx hb dX9_isBetter_51 (by decide) ?_
          exact W.zret (v := nI 0) hx hb hr rfl (fun U9 ht hW => ⟨_, rfl, bi_zero (by first | (simp [m_bt, c_3, c_7, c_9, c_11]; done) | (simp [m_bt, c_3, c_7, c_9, c_11]; omega) | (unfold m_bt; split <;> (try split) <;> simp <;> omega)), ht⟩) (fun _ h => by cases h) dX9_isBetter_74
        · refine lv_iconst (v := nI 1) hx hb dX9_isBetter_46 (by decide) ?_
          refine lv_goto (tgt := 74) hx hb dX9_isBetter_47 (by decide) ?_
          exact W.zret (v := nI 1) hx hb hr rfl (fun U9 ht hW => ⟨_, rfl, bi_one (by first | (simp [m_bt, c_3, c_7, c_9, c_11]; done) | (simp [m_bt, c_3, c_7, c_9, c_11]; omega) | (unfold m_bt; split <;> (try split) <;> simp <;> omega)), ht⟩) (fun _ h => by cases h) dX9_isBetter_74
set_option maxHeartbeats 4000000 in
set_option maxRecDepth 100000 in
theorem c9_rankedAt (l : Launch) (D : va_G) (ad : Nat → Nat) (cI cZ cC : ClassId) (th : Nat) (M : MS) (hM : MI M) (k : Nat) (q : Nat) (hk : k < 18) (hq : q < 2 ^ 31) : Met l yX9_rankedAt wsX9_rankedAt ({ frames := 4, cells := 0, slots := 0, locals := 91 }) (va_Pc [.ref (ad 0), .int (nI k), .int (nI q)] (mB D ad cI cZ cC th M)) (vp_Si (fun r => r = optI (m_rk M k q))) 0 0 (fun _ => False) := by
  refine Met.ofW (cc := cX9_rankedAt) (maxL := 8) (ret := (some .int)) (by decide) rfl ?_
  intro p e s m args below meth c s₁ B hml hv
  obtain ⟨rfl, hP, hK⟩ := hv
  have hx := B.exec
  have hb := B.bytes
  have hr := B.returns
  have hts := atoms_spec (ws := wsX9_rankedAt) B.pre
  have hown : s.vm.findClass RX9 = some m.cls := findClass_of_methodNamed B.named
  have hlocks := B.notSynchronized
  have hl := lv_entry ([.ref (ad 0), .int (nI k), .int (nI q)]) (n := 8) (Nat.le_of_ble_eq_true rfl)
  rw [lg_entry_eq]
  generalize (lg_sl ([.ref (ad 0), .int (nI k), .int (nI q)]) ++ List.replicate (8 - (lg_sl ([.ref (ad 0), .int (nI k), .int (nI q)])).length) Slot.unset).toArray = ls at hl ⊢
  have hl : lv_has ls 8 [(0, .ref (ad 0)), (1, .int (nI k)), (2, .int (nI q))] := hl
  refine lv_iconst (v := (-1)) hx hb dX9_rankedAt_0 (by decide) ?_
  refine lv_istore_n (lv' := [(3, .int (-1)), (0, .ref (ad 0)), (1, .int (nI k)), (2, .int (nI q))]) hx hb dX9_rankedAt_1 rfl hl (by decide) rfl (fun ls hl => ?_)
  refine lv_iconst (v := nI 0) hx hb dX9_rankedAt_2 (by decide) ?_
  refine lv_istore (lv' := [(4, .int (nI 0)), (3, .int (-1)), (0, .ref (ad 0)), (1, .int (nI k)), (2, .int (nI q))]) hx hb dX9_rankedAt_3 hl (by decide) rfl (fun ls hl => ?_)
  refine w_loop (e := 8) (nL := 8) (fun b => [(0, .ref (ad 0)), (1, .int (nI k)), (2, .int (nI q)), (4, .int (nI b)), (3, .int (optI (m_rkf M k q b)))]) (fun b hb_2 ih_1 ls hl => ?_) 0 (by omega) ls (lv_sub hl [2, 3, 4, 0, 1] rfl)
  refine lv_iload hx hb dX9_rankedAt_5 (lv_at hl 3 rfl) ?_
  refine lv_bipush (v := nI 8) hx hb dX9_rankedAt_7 (by decide) ?_
  refine n_icmp_ge (tgt := 142) hx hb dX9_rankedAt_9 (by decide) (by omega) (by decide) (fun c_3 => ?_) (fun c_3 => ?_)
  · obtain rfl : 8 = b := by omega
    refine lv_iload_n hx hb dX9_rankedAt_142 rfl (lv_at hl 4 rfl) ?_
    exact W.iret (v := optI (m_rkf M k q 8)) hx hb hr (fun U9 ht hW => ⟨_, rfl, (show optI (m_rkf M k q 8) = optI (m_rk M k q) from by rfl), ht⟩) (fun _ h => by cases h) dX9_rankedAt_143
  · refine lv_iconst (v := nI 0) hx hb dX9_rankedAt_12 (by decide) ?_
    refine lv_istore (lv' := [(5, .int (nI 0)), (0, .ref (ad 0)), (1, .int (nI k)), (2, .int (nI q)), (4, .int (nI b)), (3, .int (optI (m_rkf M k q b)))]) hx hb dX9_rankedAt_13 hl (by decide) rfl (fun ls hl => ?_)
    refine lv_iconst (v := nI 0) hx hb dX9_rankedAt_15 (by decide) ?_
    refine lv_istore (lv' := [(6, .int (nI 0)), (5, .int (nI 0)), (0, .ref (ad 0)), (1, .int (nI k)), (2, .int (nI q)), (4, .int (nI b)), (3, .int (optI (m_rkf M k q b)))]) hx hb dX9_rankedAt_16 hl (by decide) rfl (fun ls hl => ?_)
    refine w_loop (e := 8) (nL := 8) (fun o => [(0, .ref (ad 0)), (1, .int (nI k)), (2, .int (nI q)), (4, .int (nI b)), (3, .int (optI (m_rkf M k q b))), (6, .int (nI o)), (5, .int (nI (m_ah M k b o)))]) (fun o hb_5 ih_4 ls hl => ?_) 0 (by omega) ls (lv_sub hl [2, 3, 4, 5, 6, 0, 1] rfl)
    refine lv_iload hx hb dX9_rankedAt_18 (lv_at hl 5 rfl) ?_
    refine lv_bipush (v := nI 8) hx hb dX9_rankedAt_20 (by decide) ?_
    refine n_icmp_ge (tgt := 109) hx hb dX9_rankedAt_22 (by decide) (by omega) (by decide) (fun c_6 => ?_) (fun c_6 => ?_)
    · obtain rfl : 8 = o := by omega
      refine lv_aload_n hx hb dX9_rankedAt_109 rfl (lv_at hl 0 rfl) ?_
      refine lv_bipush (v := nI 8) hx hb dX9_rankedAt_110 (by decide) ?_
      refine lv_iload_n hx hb dX9_rankedAt_112 rfl (lv_at hl 1 rfl) ?_
      refine n_imul hx hb dX9_rankedAt_113 (z := 8 * k) rfl ?_
      refine lv_iload hx hb dX9_rankedAt_114 (lv_at hl 3 rfl) ?_
      refine n_iadd hx hb dX9_rankedAt_116 (z := (8 * k) + b) rfl ?_
      refine vp_callSi (W.runV (As := [.int (nI ((8 * k) + b))]) (rest := []) ⟨hx, hb, hml, hown, hts⟩ (c9_takesPart l D ad cI cZ cC th M hM  ((8 * k) + b) (by omega)) (cwV 1 hts gX9_rankedAt_X9_takesPart rfl rfl rfl kd_X9_takesPart ⟨Nat.le_of_ble_eq_true rfl, Nat.le_of_ble_eq_true rfl⟩) ⟨mB_blind, m_recv hK hP, m_pre hK hP _⟩ rfl rfl hl.1 rfl (lv_room (Nat.le_of_ble_eq_true rfl)) dX9_rankedAt_117 ⟨Nat.le_of_ble_eq_true rfl, Nat.le_of_ble_eq_true rfl⟩) (fun r_7 hr_7 => ?_)
      subst hr_7
      refine b_if_eq (tgt := 134) hx hb dX9_rankedAt_120 (by decide)  (fun c_8 => ?_) (fun c_8 => ?_)
      · refine lv_iload_n hx hb dX9_rankedAt_134 rfl (lv_at hl 4 rfl) ?_
        refine lv_istore_n (lv' := [(3, .int (optI (m_rkf M k q b))), (0, .ref (ad 0)), (1, .int (nI k)), (2, .int (nI q)), (4, .int (nI b)), (6, .int (nI 8)), (5, .int (nI (m_ah M k b 8)))]) hx hb dX9_rankedAt_135 rfl hl (by decide) rfl (fun ls hl => ?_)
        refine n_iinc (k := 4) (lv' := [(4, .int (nI (b + 1))), (3, .int (optI (m_rkf M k q b))), (0, .ref (ad 0)), (1, .int (nI k)), (2, .int (nI q)), (6, .int (nI 8)), (5, .int (nI (m_ah M k b 8)))]) hx hb dX9_rankedAt_136 hl rfl (by decide) rfl (fun ls hl => ?_)
        refine lv_goto (tgt := 5) hx hb dX9_rankedAt_139 (by decide) ?_
        have e_9 : optI (m_rkf M k q (b + 1)) = optI (m_rkf M k q b) := by first | (simp [m_rkf, optI, c_3, c_6, c_8]; done) | (rw [m_rkf, if_neg (by simp [c_3, c_6, c_8])]) | (rw [m_rkf, if_pos ⟨by assumption, by omega⟩]; rfl) | (rw [m_rkf, if_neg (by omega)])
        refine ih_1 (by omega) ls ?_
        show lv_has ls 8 [(0, .ref (ad 0)), (1, .int (nI k)), (2, .int (nI q)), (4, .int (nI (b + 1))), (3, .int (optI (m_rkf M k q (b + 1))))]
        rw [e_9]
        exact lv_sub hl [2, 3, 4, 0, 1] rfl
      · refine lv_iload hx hb dX9_rankedAt_123 (lv_at hl 6 rfl) ?_
        refine lv_iload_n hx hb dX9_rankedAt_125 rfl (lv_at hl 2 rfl) ?_
        refine n_icmp_ne (tgt := 134) hx hb dX9_rankedAt_126 (by decide) (by have f1 := (m_ah_le M k b 8); omega) (by omega) (fun c_10 => ?_) (fun c_10 => ?_)
        · refine lv_iload_n hx hb dX9_rankedAt_134 rfl (lv_at hl 4 rfl) ?_
          refine lv_istore_n (lv' := [(3, .int (optI (m_rkf M k q b))), (0, .ref (ad 0)), (1, .int (nI k)), (2, .int (nI q)), (4, .int (nI b)), (6, .int (nI 8)), (5, .int (nI (m_ah M k b 8)))]) hx hb dX9_rankedAt_135 rfl hl (by decide) rfl (fun ls hl => ?_)
          refine n_iinc (k := 4) (lv' := [(4, .int (nI (b + 1))), (3, .int (optI (m_rkf M k q b))), (0, .ref (ad 0)), (1, .int (nI k)), (2, .int (nI q)), (6, .int (nI 8)), (5, .int (nI (m_ah M k b 8)))]) hx hb dX9_rankedAt_136 hl rfl (by decide) rfl (fun ls hl => ?_)
          refine lv_goto (tgt := 5) hx hb dX9_rankedAt_139 (by decide) ?_
          have e_11 : optI (m_rkf M k q (b + 1)) = optI (m_rkf M k q b) := by first | (simp [m_rkf, optI, c_3, c_6, c_8, c_10]; done) | (rw [m_rkf, if_neg (by simp [c_3, c_6, c_8, c_10])]) | (rw [m_rkf, if_pos ⟨by assumption, by omega⟩]; rfl) | (rw [m_rkf, if_neg (by omega)])
          refine ih_1 (by omega) ls ?_
          show lv_has ls 8 [(0, .ref (ad 0)), (1, .int (nI k)), (2, .int (nI q)), (4, .int (nI (b + 1))), (3, .int (optI (m_rkf M k q (b + 1))))]
          rw [e_11]
          exact lv_sub hl [2, 3, 4, 0, 1] rfl
        · refine lv_iload hx hb dX9_rankedAt_129 (lv_at hl 3 rfl) ?_
          refine lv_goto (tgt := 135) hx hb dX9_rankedAt_131 (by decide) ?_
          refine lv_istore_n (lv' := [(3, .int (nI b)), (0, .ref (ad 0)), (1, .int (nI k)), (2, .int (nI q)), (4, .int (nI b)), (6, .int (nI 8)), (5, .int (nI (m_ah M k b 8)))]) hx hb dX9_rankedAt_135 rfl hl (by decide) rfl (fun ls hl => ?_)
          refine n_iinc (k := 4) (lv' := [(4, .int (nI (b + 1))), (3, .int (nI b)), (0, .ref (ad 0)), (1, .int (nI k)), (2, .int (nI q)), (6, .int (nI 8)), (5, .int (nI (m_ah M k b 8)))]) hx hb dX9_rankedAt_136 hl rfl (by decide) rfl (fun ls hl => ?_)
          refine lv_goto (tgt := 5) hx hb dX9_rankedAt_139 (by decide) ?_
          have e_12 : optI (m_rkf M k q (b + 1)) = nI b := by first | (simp [m_rkf, optI, c_3, c_6, c_8, c_10]; done) | (rw [m_rkf, if_neg (by simp [c_3, c_6, c_8, c_10])]) | (rw [m_rkf, if_pos ⟨by assumption, by omega⟩]; rfl) | (rw [m_rkf, if_neg (by omega)])
          refine ih_1 (by omega) ls ?_
          show lv_has ls 8 [(0, .ref (ad 0)), (1, .int (nI k)), (2, .int (nI q)), (4, .int (nI (b + 1))), (3, .int (optI (m_rkf M k q (b + 1))))]
          rw [e_12]
          exact lv_sub hl [2, 3, 4, 0, 1] rfl
    · refine lv_aload_n hx hb dX9_rankedAt_25 rfl (lv_at hl 0 rfl) ?_
      refine lv_bipush (v := nI 8) hx hb dX9_rankedAt_26 (by decide) ?_
      refine lv_iload_n hx hb dX9_rankedAt_28 rfl (lv_at hl 1 rfl) ?_
      refine n_imul hx hb dX9_rankedAt_29 (z := 8 * k) rfl ?_
      refine lv_iload hx hb dX9_rankedAt_30 (lv_at hl 3 rfl) ?_
      refine n_iadd hx hb dX9_rankedAt_32 (z := (8 * k) + b) rfl ?_
      refine vp_callSi (W.runV (As := [.int (nI ((8 * k) + b))]) (rest := []) ⟨hx, hb, hml, hown, hts⟩ (c9_takesPart l D ad cI cZ cC th M hM  ((8 * k) + b) (by omega)) (cwV 1 hts gX9_rankedAt_X9_takesPart rfl rfl rfl kd_X9_takesPart ⟨Nat.le_of_ble_eq_true rfl, Nat.le_of_ble_eq_true rfl⟩) ⟨mB_blind, m_recv hK hP, m_pre hK hP _⟩ rfl rfl hl.1 rfl (lv_room (Nat.le_of_ble_eq_true rfl)) dX9_rankedAt_33 ⟨Nat.le_of_ble_eq_true rfl, Nat.le_of_ble_eq_true rfl⟩) (fun r_13 hr_13 => ?_)
      subst hr_13
      refine b_if_eq (tgt := 64) hx hb dX9_rankedAt_36 (by decide)  (fun c_14 => ?_) (fun c_14 => ?_)
      · refine lv_iconst (v := nI 0) hx hb dX9_rankedAt_64 (by decide) ?_
        refine lv_istore (lv' := [(7, .int (nI 0)), (0, .ref (ad 0)), (1, .int (nI k)), (2, .int (nI q)), (4, .int (nI b)), (3, .int (optI (m_rkf M k q b))), (6, .int (nI o)), (5, .int (nI (m_ah M k b o)))]) hx hb dX9_rankedAt_65 hl (by decide) rfl (fun ls hl => ?_)
        refine lv_iload hx hb dX9_rankedAt_67 (lv_at hl 7 rfl) ?_
        refine lv_iload hx hb dX9_rankedAt_69 (lv_at hl 0 rfl) ?_
        refine n_if_eq (tgt := 99) hx hb dX9_rankedAt_71 (by decide) (by decide) (fun _ => ?_) (fun c9 => absurd c9 (by decide))
        refine lv_iconst (v := nI 0) hx hb dX9_rankedAt_99 (by decide) ?_
        refine n_iadd hx hb dX9_rankedAt_100 (z := (m_ah M k b o) + 0) rfl ?_
        refine lv_istore (lv' := [(5, .int (nI ((m_ah M k b o) + 0))), (7, .int (nI 0)), (0, .ref (ad 0)), (1, .int (nI k)), (2, .int (nI q)), (4, .int (nI b)), (3, .int (optI (m_rkf M k q b))), (6, .int (nI o))]) hx hb dX9_rankedAt_101 hl (by decide) rfl (fun ls hl => ?_)
        refine n_iinc (k := 7) (lv' := [(6, .int (nI (o + 1))), (5, .int (nI ((m_ah M k b o) + 0))), (7, .int (nI 0)), (0, .ref (ad 0)), (1, .int (nI k)), (2, .int (nI q)), (4, .int (nI b)), (3, .int (optI (m_rkf M k q b)))]) hx hb dX9_rankedAt_103 hl rfl (by decide) rfl (fun ls hl => ?_)
        refine lv_goto (tgt := 18) hx hb dX9_rankedAt_106 (by decide) ?_
        have e_15 : m_ah M k b (o + 1) = (m_ah M k b o) + 0 := by first | (simp [m_ah, c_3, c_6, c_14]; done) | (rw [m_ah, if_neg (by simp [c_3, c_6, c_14])])
        refine ih_4 (by omega) ls ?_
        show lv_has ls 8 [(0, .ref (ad 0)), (1, .int (nI k)), (2, .int (nI q)), (4, .int (nI b)), (3, .int (optI (m_rkf M k q b))), (6, .int (nI (o + 1))), (5, .int (nI (m_ah M k b (o + 1))))]
        rw [e_15]
        exact lv_sub hl [3, 4, 5, 6, 7, 0, 1] rfl
      · refine lv_aload_n hx hb dX9_rankedAt_39 rfl (lv_at hl 0 rfl) ?_
        refine lv_bipush (v := nI 8) hx hb dX9_rankedAt_40 (by decide) ?_
        refine lv_iload_n hx hb dX9_rankedAt_42 rfl (lv_at hl 1 rfl) ?_
        refine n_imul hx hb dX9_rankedAt_43 (z := 8 * k) rfl ?_
        refine lv_iload hx hb dX9_rankedAt_44 (lv_at hl 5 rfl) ?_
        refine n_iadd hx hb dX9_rankedAt_46 (z := (8 * k) + o) rfl ?_
        refine vp_callSi (W.runV (As := [.int (nI ((8 * k) + o))]) (rest := []) ⟨hx, hb, hml, hown, hts⟩ (c9_takesPart l D ad cI cZ cC th M hM  ((8 * k) + o) (by omega)) (cwV 1 hts gX9_rankedAt_X9_takesPart rfl rfl rfl kd_X9_takesPart ⟨Nat.le_of_ble_eq_true rfl, Nat.le_of_ble_eq_true rfl⟩) ⟨mB_blind, m_recv hK hP, m_pre hK hP _⟩ rfl rfl hl.1 rfl (lv_room (Nat.le_of_ble_eq_true rfl)) dX9_rankedAt_47 ⟨Nat.le_of_ble_eq_true rfl, Nat.le_of_ble_eq_true rfl⟩) (fun r_16 hr_16 => ?_)
        subst hr_16
        refine b_if_eq (tgt := 64) hx hb dX9_rankedAt_50 (by decide)  (fun c_17 => ?_) (fun c_17 => ?_)
        · refine lv_iconst (v := nI 0) hx hb dX9_rankedAt_64 (by decide) ?_
          refine lv_istore (lv' := [(7, .int (nI 0)), (0, .ref (ad 0)), (1, .int (nI k)), (2, .int (nI q)), (4, .int (nI b)), (3, .int (optI (m_rkf M k q b))), (6, .int (nI o)), (5, .int (nI (m_ah M k b o)))]) hx hb dX9_rankedAt_65 hl (by decide) rfl (fun ls hl => ?_)
          refine lv_iload hx hb dX9_rankedAt_67 (lv_at hl 7 rfl) ?_
          refine lv_iload hx hb dX9_rankedAt_69 (lv_at hl 0 rfl) ?_
          refine n_if_eq (tgt := 99) hx hb dX9_rankedAt_71 (by decide) (by decide) (fun _ => ?_) (fun c9 => absurd c9 (by decide))
          refine lv_iconst (v := nI 0) hx hb dX9_rankedAt_99 (by decide) ?_
          refine n_iadd hx hb dX9_rankedAt_100 (z := (m_ah M k b o) + 0) rfl ?_
          refine lv_istore (lv' := [(5, .int (nI ((m_ah M k b o) + 0))), (7, .int (nI 0)), (0, .ref (ad 0)), (1, .int (nI k)), (2, .int (nI q)), (4, .int (nI b)), (3, .int (optI (m_rkf M k q b))), (6, .int (nI o))]) hx hb dX9_rankedAt_101 hl (by decide) rfl (fun ls hl => ?_)
          refine n_iinc (k := 7) (lv' := [(6, .int (nI (o + 1))), (5, .int (nI ((m_ah M k b o) + 0))), (7, .int (nI 0)), (0, .ref (ad 0)), (1, .int (nI k)), (2, .int (nI q)), (4, .int (nI b)), (3, .int (optI (m_rkf M k q b)))]) hx hb dX9_rankedAt_103 hl rfl (by decide) rfl (fun ls hl => ?_)
          refine lv_goto (tgt := 18) hx hb dX9_rankedAt_106 (by decide) ?_
          have e_18 : m_ah M k b (o + 1) = (m_ah M k b o) + 0 := by first | (simp [m_ah, c_3, c_6, c_14, c_17]; done) | (rw [m_ah, if_neg (by simp [c_3, c_6, c_14, c_17])])
          refine ih_4 (by omega) ls ?_
          show lv_has ls 8 [(0, .ref (ad 0)), (1, .int (nI k)), (2, .int (nI q)), (4, .int (nI b)), (3, .int (optI (m_rkf M k q b))), (6, .int (nI (o + 1))), (5, .int (nI (m_ah M k b (o + 1))))]
          rw [e_18]
          exact lv_sub hl [3, 4, 5, 6, 7, 0, 1] rfl
        · refine lv_iload hx hb dX9_rankedAt_53 (lv_at hl 5 rfl) ?_
          refine lv_iload hx hb dX9_rankedAt_55 (lv_at hl 3 rfl) ?_
          refine n_icmp_eq (tgt := 64) hx hb dX9_rankedAt_57 (by decide) (by omega) (by omega) (fun c_19 => ?_) (fun c_19 => ?_)
          · refine lv_iconst (v := nI 0) hx hb dX9_rankedAt_64 (by decide) ?_
            refine lv_istore (lv' := [(7, .int (nI 0)), (0, .ref (ad 0)), (1, .int (nI k)), (2, .int (nI q)), (4, .int (nI b)), (3, .int (optI (m_rkf M k q b))), (6, .int (nI o)), (5, .int (nI (m_ah M k b o)))]) hx hb dX9_rankedAt_65 hl (by decide) rfl (fun ls hl => ?_)
            refine lv_iload hx hb dX9_rankedAt_67 (lv_at hl 7 rfl) ?_
            refine lv_iload hx hb dX9_rankedAt_69 (lv_at hl 0 rfl) ?_
            refine n_if_eq (tgt := 99) hx hb dX9_rankedAt_71 (by decide) (by decide) (fun _ => ?_) (fun c9 => absurd c9 (by decide))
            refine lv_iconst (v := nI 0) hx hb dX9_rankedAt_99 (by decide) ?_
            refine n_iadd hx hb dX9_rankedAt_100 (z := (m_ah M k b o) + 0) rfl ?_
            refine lv_istore (lv' := [(5, .int (nI ((m_ah M k b o) + 0))), (7, .int (nI 0)), (0, .ref (ad 0)), (1, .int (nI k)), (2, .int (nI q)), (4, .int (nI b)), (3, .int (optI (m_rkf M k q b))), (6, .int (nI o))]) hx hb dX9_rankedAt_101 hl (by decide) rfl (fun ls hl => ?_)
            refine n_iinc (k := 7) (lv' := [(6, .int (nI (o + 1))), (5, .int (nI ((m_ah M k b o) + 0))), (7, .int (nI 0)), (0, .ref (ad 0)), (1, .int (nI k)), (2, .int (nI q)), (4, .int (nI b)), (3, .int (optI (m_rkf M k q b)))]) hx hb dX9_rankedAt_103 hl rfl (by decide) rfl (fun ls hl => ?_)
            refine lv_goto (tgt := 18) hx hb dX9_rankedAt_106 (by decide) ?_
            have e_20 : m_ah M k b (o + 1) = (m_ah M k b o) + 0 := by first | (simp [m_ah, c_3, c_6, c_14, c_17, c_19]; done) | (rw [m_ah, if_neg (by simp [c_3, c_6, c_14, c_17, c_19])])
            refine ih_4 (by omega) ls ?_
            show lv_has ls 8 [(0, .ref (ad 0)), (1, .int (nI k)), (2, .int (nI q)), (4, .int (nI b)), (3, .int (optI (m_rkf M k q b))), (6, .int (nI (o + 1))), (5, .int (nI (m_ah M k b (o + 1))))]
            rw [e_20]
            exact lv_sub hl [3, 4, 5, 6, 7, 0, 1] rfl
          · refine lv_iconst (v := nI 1) hx hb dX9_rankedAt_60 (by decide) ?_
            refine lv_goto (tgt := 65) hx hb dX9_rankedAt_61 (by decide) ?_
            refine lv_istore (lv' := [(7, .int (nI 1)), (0, .ref (ad 0)), (1, .int (nI k)), (2, .int (nI q)), (4, .int (nI b)), (3, .int (optI (m_rkf M k q b))), (6, .int (nI o)), (5, .int (nI (m_ah M k b o)))]) hx hb dX9_rankedAt_65 hl (by decide) rfl (fun ls hl => ?_)
            refine lv_iload hx hb dX9_rankedAt_67 (lv_at hl 7 rfl) ?_
            refine lv_iload hx hb dX9_rankedAt_69 (lv_at hl 0 rfl) ?_
            refine n_if_eq (tgt := 99) hx hb dX9_rankedAt_71 (by decide) (by decide) (fun c9 => absurd c9 (by decide)) (fun _ => ?_)
            refine lv_aload_n hx hb dX9_rankedAt_74 rfl (lv_at hl 1 rfl) ?_
            refine lv_bipush (v := nI 8) hx hb dX9_rankedAt_75 (by decide) ?_
            refine lv_iload_n hx hb dX9_rankedAt_77 rfl (lv_at hl 2 rfl) ?_
            refine n_imul hx hb dX9_rankedAt_78 (z := 8 * k) rfl ?_
            refine lv_iload hx hb dX9_rankedAt_79 (lv_at hl 6 rfl) ?_
            refine n_iadd hx hb dX9_rankedAt_81 (z := (8 * k) + o) rfl ?_
            refine lv_bipush (v := nI 8) hx hb dX9_rankedAt_82 (by decide) ?_
            refine lv_iload_n hx hb dX9_rankedAt_84 rfl (lv_at hl 2 rfl) ?_
            refine n_imul hx hb dX9_rankedAt_85 (z := 8 * k) rfl ?_
            refine lv_iload hx hb dX9_rankedAt_86 (lv_at hl 4 rfl) ?_
            refine n_iadd hx hb dX9_rankedAt_88 (z := (8 * k) + b) rfl ?_
            refine vp_callSi (W.runV (As := [.int (nI ((8 * k) + o)), .int (nI ((8 * k) + b))]) (rest := [.int (nI (m_ah M k b o))]) ⟨hx, hb, hml, hown, hts⟩ (c9_isBetter l D ad cI cZ cC th M hM  ((8 * k) + o) ((8 * k) + b) (by omega) (by omega) (by have := c_17; simp only [m_tp, Bool.and_eq_true, decide_eq_true_eq] at this; omega) (by have := c_14; simp only [m_tp, Bool.and_eq_true, decide_eq_true_eq] at this; omega)) (cwV 2 hts gX9_rankedAt_X9_isBetter rfl rfl rfl kd_X9_isBetter ⟨Nat.le_of_ble_eq_true rfl, Nat.le_of_ble_eq_true rfl⟩) ⟨mB_blind, m_recv hK hP, m_pre hK hP _⟩ rfl rfl hl.1 rfl (lv_room (Nat.le_of_ble_eq_true rfl)) dX9_rankedAt_89 ⟨Nat.le_of_ble_eq_true rfl, Nat.le_of_ble_eq_true rfl⟩) (fun r_21 hr_21 => ?_)
            subst hr_21
            refine b_if_eq (tgt := 99) hx hb dX9_rankedAt_92 (by decide)  (fun c_22 => ?_) (fun c_22 => ?_)
            · refine lv_iconst (v := nI 0) hx hb dX9_rankedAt_99 (by decide) ?_
              refine n_iadd hx hb dX9_rankedAt_100 (z := (m_ah M k b o) + 0) rfl ?_
              refine lv_istore (lv' := [(5, .int (nI ((m_ah M k b o) + 0))), (7, .int (nI 1)), (0, .ref (ad 0)), (1, .int (nI k)), (2, .int (nI q)), (4, .int (nI b)), (3, .int (optI (m_rkf M k q b))), (6, .int (nI o))]) hx hb dX9_rankedAt_101 hl (by decide) rfl (fun ls hl => ?_)
              refine n_iinc (k := 7) (lv' := [(6, .int (nI (o + 1))), (5, .int (nI ((m_ah M k b o) + 0))), (7, .int (nI 1)), (0, .ref (ad 0)), (1, .int (nI k)), (2, .int (nI q)), (4, .int (nI b)), (3, .int (optI (m_rkf M k q b)))]) hx hb dX9_rankedAt_103 hl rfl (by decide) rfl (fun ls hl => ?_)
              refine lv_goto (tgt := 18) hx hb dX9_rankedAt_106 (by decide) ?_
              have e_23 : m_ah M k b (o + 1) = (m_ah M k b o) + 0 := by first | (simp [m_ah, c_3, c_6, c_14, c_17, c_19, c_22]; done) | (rw [m_ah, if_neg (by simp [c_3, c_6, c_14, c_17, c_19, c_22])])
              refine ih_4 (by omega) ls ?_
              show lv_has ls 8 [(0, .ref (ad 0)), (1, .int (nI k)), (2, .int (nI q)), (4, .int (nI b)), (3, .int (optI (m_rkf M k q b))), (6, .int (nI (o + 1))), (5, .int (nI (m_ah M k b (o + 1))))]
              rw [e_23]
              exact lv_sub hl [3, 4, 5, 6, 7, 0, 1] rfl
            · refine lv_iconst (v := nI 1) hx hb dX9_rankedAt_95 (by decide) ?_
              refine lv_goto (tgt := 100) hx hb dX9_rankedAt_96 (by decide) ?_
              refine n_iadd hx hb dX9_rankedAt_100 (z := (m_ah M k b o) + 1) rfl ?_
              refine lv_istore (lv' := [(5, .int (nI ((m_ah M k b o) + 1))), (7, .int (nI 1)), (0, .ref (ad 0)), (1, .int (nI k)), (2, .int (nI q)), (4, .int (nI b)), (3, .int (optI (m_rkf M k q b))), (6, .int (nI o))]) hx hb dX9_rankedAt_101 hl (by decide) rfl (fun ls hl => ?_)
              refine n_iinc (k := 7) (lv' := [(6, .int (nI (o + 1))), (5, .int (nI ((m_ah M k b o) + 1))), (7, .int (nI 1)), (0, .ref (ad 0)), (1, .int (nI k)), (2, .int (nI q)), (4, .int (nI b)), (3, .int (optI (m_rkf M k q b)))]) hx hb dX9_rankedAt_103 hl rfl (by decide) rfl (fun ls hl => ?_)
              refine lv_goto (tgt := 18) hx hb dX9_rankedAt_106 (by decide) ?_
              have e_24 : m_ah M k b (o + 1) = (m_ah M k b o) + 1 := by first | (simp [m_ah, c_3, c_6, c_14, c_17, c_19, c_22]; done) | (rw [m_ah, if_neg (by simp [c_3, c_6, c_14, c_17, c_19, c_22])])
              refine ih_4 (by omega) ls ?_
              show lv_has ls 8 [(0, .ref (ad 0)), (1, .int (nI k)), (2, .int (nI q)), (4, .int (nI b)), (3, .int (optI (m_rkf M k q b))), (6, .int (nI (o + 1))), (5, .int (nI (m_ah M k b (o + 1))))]
              rw [e_24]
              exact lv_sub hl [3, 4, 5, 6, 7, 0, 1] rfl
set_option maxHeartbeats 4000000 in
set_option maxRecDepth 100000 in
theorem c9_openOnes (l : Launch) (D : va_G) (ad : Nat → Nat) (cI cZ cC : ClassId) (th : Nat) (M : MS) (hM : MI M) (a : Nat) (ha : a < 60) : Met l yX9_openOnes wsX9_openOnes ({ frames := 0, cells := 0, slots := 0, locals := 0 }) (va_Pc [.ref (ad 0), .int (nI a)] (mB D ad cI cZ cC th M)) (vp_Si (fun r => r = nI (m_oo M a))) 0 0 (fun _ => False) := by
  refine Met.ofW (cc := cX9_openOnes) (maxL := 4) (ret := (some .int)) (by decide) rfl ?_
  intro p e s m args below meth c s₁ B hml hv
  obtain ⟨rfl, hP, hK⟩ := hv
  have hx := B.exec
  have hb := B.bytes
  have hr := B.returns
  have hts := atoms_spec (ws := wsX9_openOnes) B.pre
  have hown : s.vm.findClass RX9 = some m.cls := findClass_of_methodNamed B.named
  have hlocks := B.notSynchronized
  have hin : ∀ w ∈ wsX90, w ∈ wsX9_openOnes := fun w h => List.mem_cons_of_mem _ (List.mem_append_right _ h)
  have l_complaints := (hts (.fieldLink RX9 148 "TenderHallModel" "complaints" "I") (List.mem_of_getElem? (i := 1) rfl))
  have l_about := (hts (.fieldLink RX9 62 "TenderHallModel" "about" "[I") (List.mem_of_getElem? (i := 2) rfl))
  have l_state := (hts (.fieldLink RX9 71 "TenderHallModel" "state" "[I") (List.mem_of_getElem? (i := 3) rfl))
  have hl := lv_entry ([.ref (ad 0), .int (nI a)]) (n := 4) (Nat.le_of_ble_eq_true rfl)
  rw [lg_entry_eq]
  generalize (lg_sl ([.ref (ad 0), .int (nI a)]) ++ List.replicate (4 - (lg_sl ([.ref (ad 0), .int (nI a)])).length) Slot.unset).toArray = ls at hl ⊢
  have hl : lv_has ls 4 [(0, .ref (ad 0)), (1, .int (nI a))] := hl
  have h60 : M 22 0 ≤ 60 := hM 22 0
  refine lv_iconst (v := nI 0) hx hb dX9_openOnes_0 (by decide) ?_
  refine lv_istore_n (lv' := [(2, .int (nI 0)), (0, .ref (ad 0)), (1, .int (nI a))]) hx hb dX9_openOnes_1 rfl hl (by decide) rfl (fun ls hl => ?_)
  refine lv_iconst (v := nI 0) hx hb dX9_openOnes_2 (by decide) ?_
  refine lv_istore_n (lv' := [(3, .int (nI 0)), (2, .int (nI 0)), (0, .ref (ad 0)), (1, .int (nI a))]) hx hb dX9_openOnes_3 rfl hl (by decide) rfl (fun ls hl => ?_)
  refine w_loop (e := M 22 0) (nL := 4) (fun i => [(0, .ref (ad 0)), (1, .int (nI a)), (3, .int (nI i)), (2, .int (nI (m_oof M a i)))]) (fun i hb_2 ih_1 ls hl => ?_) 0 (by omega) ls (lv_sub hl [2, 3, 0, 1] rfl)
  refine lv_iload_n hx hb dX9_openOnes_4 rfl (lv_at hl 2 rfl) ?_
  refine lv_aload_n hx hb dX9_openOnes_5 rfl (lv_at hl 0 rfl) ?_
  refine m_get (v := .int (nI (M 22 0))) hx hb hts hin hown hK hP 22 (by decide) l_complaints rfl dX9_openOnes_6 ?_
  refine n_icmp_ge (tgt := 45) hx hb dX9_openOnes_9 (by decide) (by omega) (by have f1 : M 22 0 ≤ 60 := hM 22 0; omega) (fun c_3 => ?_) (fun c_3 => ?_)
  · obtain rfl : M 22 0 = i := by omega
    refine lv_iload_n hx hb dX9_openOnes_45 rfl (lv_at hl 3 rfl) ?_
    exact W.iret (v := nI (m_oof M a (M 22 0))) hx hb hr (fun U9 ht hW => ⟨_, rfl, congrArg nI (show m_oof M a (M 22 0) = m_oo M a from by rfl), ht⟩) (fun _ h => by cases h) dX9_openOnes_46
  · refine lv_iload_n hx hb dX9_openOnes_12 rfl (lv_at hl 3 rfl) ?_
    refine lv_aload_n hx hb dX9_openOnes_13 rfl (lv_at hl 0 rfl) ?_
    refine m_get hx hb hts hin hown hK hP 23 (by decide) l_about rfl dX9_openOnes_14 ?_
    refine lv_iload_n hx hb dX9_openOnes_17 rfl (lv_at hl 2 rfl) ?_
    refine m_iald (f := 23) hx hb hK hP 18 rfl (by omega) (by decide) dX9_openOnes_18 ?_
    refine lv_iload_n hx hb dX9_openOnes_19 rfl (lv_at hl 1 rfl) ?_
    refine n_icmp_ne (tgt := 36) hx hb dX9_openOnes_20 (by decide) (by have f1 : M 23 i ≤ 59 := hM 23 i; omega) (by omega) (fun c_4 => ?_) (fun c_4 => ?_)
    · refine lv_iconst (v := nI 0) hx hb dX9_openOnes_36 (by decide) ?_
      refine n_iadd hx hb dX9_openOnes_37 (z := (m_oof M a i) + 0) rfl ?_
      refine lv_istore_n (lv' := [(2, .int (nI ((m_oof M a i) + 0))), (0, .ref (ad 0)), (1, .int (nI a)), (3, .int (nI i))]) hx hb dX9_openOnes_38 rfl hl (by decide) rfl (fun ls hl => ?_)
      refine n_iinc (k := 3) (lv' := [(3, .int (nI (i + 1))), (2, .int (nI ((m_oof M a i) + 0))), (0, .ref (ad 0)), (1, .int (nI a))]) hx hb dX9_openOnes_39 hl rfl (by decide) rfl (fun ls hl => ?_)
      refine lv_goto (tgt := 4) hx hb dX9_openOnes_42 (by decide) ?_
      have e_5 : m_oof M a (i + 1) = (m_oof M a i) + 0 := by first | (simp [m_oof, c_3, c_4]; done) | (rw [m_oof, if_neg (by omega)])
      refine ih_1 (by omega) ls ?_
      show lv_has ls 4 [(0, .ref (ad 0)), (1, .int (nI a)), (3, .int (nI (i + 1))), (2, .int (nI (m_oof M a (i + 1))))]
      rw [e_5]
      exact lv_sub hl [2, 3, 0, 1] rfl
    · refine lv_aload_n hx hb dX9_openOnes_23 rfl (lv_at hl 0 rfl) ?_
      refine m_get hx hb hts hin hown hK hP 26 (by decide) l_state rfl dX9_openOnes_24 ?_
      refine lv_iload_n hx hb dX9_openOnes_27 rfl (lv_at hl 2 rfl) ?_
      refine m_iald (f := 26) hx hb hK hP 21 rfl (by omega) (by decide) dX9_openOnes_28 ?_
      refine n_if_ne (tgt := 36) hx hb dX9_openOnes_29 (by decide) (by have f1 : M 26 i ≤ 3 := hM 26 i; omega) (fun c_6 => ?_) (fun c_6 => ?_)
      · refine lv_iconst (v := nI 0) hx hb dX9_openOnes_36 (by decide) ?_
        refine n_iadd hx hb dX9_openOnes_37 (z := (m_oof M a i) + 0) rfl ?_
        refine lv_istore_n (lv' := [(2, .int (nI ((m_oof M a i) + 0))), (0, .ref (ad 0)), (1, .int (nI a)), (3, .int (nI i))]) hx hb dX9_openOnes_38 rfl hl (by decide) rfl (fun ls hl => ?_)
        refine n_iinc (k := 3) (lv' := [(3, .int (nI (i + 1))), (2, .int (nI ((m_oof M a i) + 0))), (0, .ref (ad 0)), (1, .int (nI a))]) hx hb dX9_openOnes_39 hl rfl (by decide) rfl (fun ls hl => ?_)
        refine lv_goto (tgt := 4) hx hb dX9_openOnes_42 (by decide) ?_
        have e_7 : m_oof M a (i + 1) = (m_oof M a i) + 0 := by first | (simp [m_oof, c_3, c_4, c_6]; done) | (rw [m_oof, if_neg (by omega)])
        refine ih_1 (by omega) ls ?_
        show lv_has ls 4 [(0, .ref (ad 0)), (1, .int (nI a)), (3, .int (nI (i + 1))), (2, .int (nI (m_oof M a (i + 1))))]
        rw [e_7]
        exact lv_sub hl [2, 3, 0, 1] rfl
      · refine lv_iconst (v := nI 1) hx hb dX9_openOnes_32 (by decide) ?_
        refine lv_goto (tgt := 37) hx hb dX9_openOnes_33 (by decide) ?_
        refine n_iadd hx hb dX9_openOnes_37 (z := (m_oof M a i) + 1) rfl ?_
        refine lv_istore_n (lv' := [(2, .int (nI ((m_oof M a i) + 1))), (0, .ref (ad 0)), (1, .int (nI a)), (3, .int (nI i))]) hx hb dX9_openOnes_38 rfl hl (by decide) rfl (fun ls hl => ?_)
        refine n_iinc (k := 3) (lv' := [(3, .int (nI (i + 1))), (2, .int (nI ((m_oof M a i) + 1))), (0, .ref (ad 0)), (1, .int (nI a))]) hx hb dX9_openOnes_39 hl rfl (by decide) rfl (fun ls hl => ?_)
        refine lv_goto (tgt := 4) hx hb dX9_openOnes_42 (by decide) ?_
        have e_8 : m_oof M a (i + 1) = (m_oof M a i) + 1 := by first | (simp [m_oof, c_3, c_4, c_6]; done) | (rw [m_oof, if_neg (by omega)])
        refine ih_1 (by omega) ls ?_
        show lv_has ls 4 [(0, .ref (ad 0)), (1, .int (nI a)), (3, .int (nI (i + 1))), (2, .int (nI (m_oof M a (i + 1))))]
        rw [e_8]
        exact lv_sub hl [2, 3, 0, 1] rfl
set_option maxHeartbeats 4000000 in
set_option maxRecDepth 100000 in
theorem c9_standsUntil (l : Launch) (D : va_G) (ad : Nat → Nat) (cI cZ cC : ClassId) (th : Nat) (M : MS) (hM : MI M) (a : Nat) (ha : a < 60) : Met l yX9_standsUntil wsX9_standsUntil ({ frames := 0, cells := 0, slots := 0, locals := 0 }) (va_Pc [.ref (ad 0), .int (nI a)] (mB D ad cI cZ cC th M)) (vp_Si (fun r => r = nI (m_su M a))) 0 0 (fun _ => False) := by
  refine Met.ofW (cc := cX9_standsUntil) (maxL := 2) (ret := (some .int)) (by decide) rfl ?_
  intro p e s m args below meth c s₁ B hml hv
  obtain ⟨rfl, hP, hK⟩ := hv
  have hx := B.exec
  have hb := B.bytes
  have hr := B.returns
  have hts := atoms_spec (ws := wsX9_standsUntil) B.pre
  have hown : s.vm.findClass RX9 = some m.cls := findClass_of_methodNamed B.named
  have hlocks := B.notSynchronized
  have hin : ∀ w ∈ wsX90, w ∈ wsX9_standsUntil := fun w h => List.mem_cons_of_mem _ (List.mem_append_right _ h)
  have l_awardDay := (hts (.fieldLink RX9 53 "TenderHallModel" "awardDay" "[I") (List.mem_of_getElem? (i := 1) rfl))
  have l_standing := (hts (.fieldLink RX9 22 "TenderHallModel" "standing" "[I") (List.mem_of_getElem? (i := 2) rfl))
  have l_lotOf := (hts (.fieldLink RX9 47 "TenderHallModel" "lotOf" "[I") (List.mem_of_getElem? (i := 3) rfl))
  have hl := lv_entry ([.ref (ad 0), .int (nI a)]) (n := 2) (Nat.le_of_ble_eq_true rfl)
  rw [lg_entry_eq]
  generalize (lg_sl ([.ref (ad 0), .int (nI a)]) ++ List.replicate (2 - (lg_sl ([.ref (ad 0), .int (nI a)])).length) Slot.unset).toArray = ls at hl ⊢
  have hl : lv_has ls 2 [(0, .ref (ad 0)), (1, .int (nI a))] := hl
  refine lv_aload_n hx hb dX9_standsUntil_0 rfl (lv_at hl 0 rfl) ?_
  refine m_get hx hb hts hin hown hK hP 19 (by decide) l_awardDay rfl dX9_standsUntil_1 ?_
  refine lv_iload_n hx hb dX9_standsUntil_4 rfl (lv_at hl 1 rfl) ?_
  refine m_iald (f := 19) hx hb hK hP 15 rfl (by omega) (by decide) dX9_standsUntil_5 ?_
  refine lv_aload_n hx hb dX9_standsUntil_6 rfl (lv_at hl 0 rfl) ?_
  refine m_get hx hb hts hin hown hK hP 7 (by decide) l_standing rfl dX9_standsUntil_7 ?_
  refine lv_aload_n hx hb dX9_standsUntil_10 rfl (lv_at hl 0 rfl) ?_
  refine m_get hx hb hts hin hown hK hP 17 (by decide) l_lotOf rfl dX9_standsUntil_11 ?_
  refine lv_iload_n hx hb dX9_standsUntil_14 rfl (lv_at hl 1 rfl) ?_
  refine m_iald (f := 17) hx hb hK hP 13 rfl (by omega) (by decide) dX9_standsUntil_15 ?_
  refine lv_iconst (v := nI 3) hx hb dX9_standsUntil_16 (by decide) ?_
  refine n_idiv hx hb dX9_standsUntil_17 (z := (M 17 a) / 3) (by have f1 : M 17 a ≤ 17 := hM 17 a; omega) (by decide) (by decide) rfl ?_
  refine m_iald (f := 7) hx hb hK hP 5 rfl (by have f1 : M 17 a ≤ 17 := hM 17 a; omega) (by decide) dX9_standsUntil_18 ?_
  refine n_iadd hx hb dX9_standsUntil_19 (z := (M 19 a) + (M 7 ((M 17 a) / 3))) rfl ?_
  exact W.iret (v := nI ((M 19 a) + (M 7 ((M 17 a) / 3)))) hx hb hr (fun U9 ht hW => ⟨_, rfl, congrArg nI (show (M 19 a) + (M 7 ((M 17 a) / 3)) = m_su M a from by rfl), ht⟩) (fun _ h => by cases h) dX9_standsUntil_20
set_option maxHeartbeats 4000000 in
set_option maxRecDepth 100000 in
theorem c9_isFinalNow (l : Launch) (D : va_G) (ad : Nat → Nat) (cI cZ cC : ClassId) (th : Nat) (M : MS) (hM : MI M) (a : Nat) (ha : a < 60) : Met l yX9_isFinalNow wsX9_isFinalNow ({ frames := 1, cells := 0, slots := 0, locals := 23 }) (va_Pc [.ref (ad 0), .int (nI a)] (mB D ad cI cZ cC th M)) (vp_Si (fun r => r = bi (m_fn M a))) 0 0 (fun _ => False) := by
  refine Met.ofW (cc := cX9_isFinalNow) (maxL := 2) (ret := (some .boolean)) (by decide) rfl ?_
  intro p e s m args below meth c s₁ B hml hv
  obtain ⟨rfl, hP, hK⟩ := hv
  have hx := B.exec
  have hb := B.bytes
  have hr := B.returns
  have hts := atoms_spec (ws := wsX9_isFinalNow) B.pre
  have hown : s.vm.findClass RX9 = some m.cls := findClass_of_methodNamed B.named
  have hlocks := B.notSynchronized
  have hin : ∀ w ∈ wsX90, w ∈ wsX9_isFinalNow := fun w h => List.mem_cons_of_mem _ (List.mem_append_right _ h)
  have l_isVoid := (hts (.fieldLink RX9 56 "TenderHallModel" "isVoid" "[Z") (List.mem_of_getElem? (i := 1) rfl))
  have l_today := (hts (.fieldLink RX9 108 "TenderHallModel" "today" "I") (List.mem_of_getElem? (i := 2) rfl))
  have hl := lv_entry ([.ref (ad 0), .int (nI a)]) (n := 2) (Nat.le_of_ble_eq_true rfl)
  rw [lg_entry_eq]
  generalize (lg_sl ([.ref (ad 0), .int (nI a)]) ++ List.replicate (2 - (lg_sl ([.ref (ad 0), .int (nI a)])).length) Slot.unset).toArray = ls at hl ⊢
  have hl : lv_has ls 2 [(0, .ref (ad 0)), (1, .int (nI a))] := hl
  refine lv_aload_n hx hb dX9_isFinalNow_0 rfl (lv_at hl 0 rfl) ?_
  refine m_get hx hb hts hin hown hK hP 20 (by decide) l_isVoid rfl dX9_isFinalNow_1 ?_
  refine lv_iload_n hx hb dX9_isFinalNow_4 rfl (lv_at hl 1 rfl) ?_
  refine m_zald (f := 20) hx hb hK hP 16 rfl (by omega) (by decide) dX9_isFinalNow_5 ?_
  refine n_if_ne (tgt := 33) hx hb dX9_isFinalNow_6 (by decide) (by have f1 : M 20 a ≤ 1 := hM 20 a; omega) (fun c_1 => ?_) (fun c_1 => ?_)
  · refine lv_iconst (v := nI 0) hx hb dX9_isFinalNow_33 (by decide) ?_
    exact W.zret (v := nI 0) hx hb hr rfl (fun U9 ht hW => ⟨_, rfl, bi_zero (by first | (simp [m_fn, c_1]; done) | (simp [m_fn, c_1]; omega)), ht⟩) (fun _ h => by cases h) dX9_isFinalNow_34
  · refine lv_aload_n hx hb dX9_isFinalNow_9 rfl (lv_at hl 0 rfl) ?_
    refine lv_iload_n hx hb dX9_isFinalNow_10 rfl (lv_at hl 1 rfl) ?_
    refine vp_callSi (W.runV (As := [.int (nI a)]) (rest := []) ⟨hx, hb, hml, hown, hts⟩ (c9_openOnes l D ad cI cZ cC th M hM  a (by omega)) (cwV 1 hts gX9_isFinalNow_X9_openOnes rfl rfl rfl kd_X9_openOnes ⟨Nat.le_of_ble_eq_true rfl, Nat.le_of_ble_eq_true rfl⟩) ⟨mB_blind, m_recv hK hP, m_pre hK hP _⟩ rfl rfl hl.1 rfl (lv_room (Nat.le_of_ble_eq_true rfl)) dX9_isFinalNow_11 ⟨Nat.le_of_ble_eq_true rfl, Nat.le_of_ble_eq_true rfl⟩) (fun r_2 hr_2 => ?_)
    subst hr_2
    refine n_if_ne (tgt := 33) hx hb dX9_isFinalNow_14 (by decide) (by have f1 : m_oo M a ≤ M 22 0 := m_oof_le M a (M 22 0); have f2 : M 22 0 ≤ 60 := hM 22 0; omega) (fun c_3 => ?_) (fun c_3 => ?_)
    · refine lv_iconst (v := nI 0) hx hb dX9_isFinalNow_33 (by decide) ?_
      exact W.zret (v := nI 0) hx hb hr rfl (fun U9 ht hW => ⟨_, rfl, bi_zero (by first | (simp [m_fn, c_1, c_3]; done) | (simp [m_fn, c_1, c_3]; omega)), ht⟩) (fun _ h => by cases h) dX9_isFinalNow_34
    · refine lv_aload_n hx hb dX9_isFinalNow_17 rfl (lv_at hl 0 rfl) ?_
      refine m_get (v := .int (nI (M 1 0))) hx hb hts hin hown hK hP 1 (by decide) l_today rfl dX9_isFinalNow_18 ?_
      refine lv_aload_n hx hb dX9_isFinalNow_21 rfl (lv_at hl 0 rfl) ?_
      refine lv_iload_n hx hb dX9_isFinalNow_22 rfl (lv_at hl 1 rfl) ?_
      refine vp_callSi (W.runV (As := [.int (nI a)]) (rest := [.int (nI (M 1 0))]) ⟨hx, hb, hml, hown, hts⟩ (c9_standsUntil l D ad cI cZ cC th M hM  a (by omega)) (cwV 1 hts gX9_isFinalNow_X9_standsUntil rfl rfl rfl kd_X9_standsUntil ⟨Nat.le_of_ble_eq_true rfl, Nat.le_of_ble_eq_true rfl⟩) ⟨mB_blind, m_recv hK hP, m_pre hK hP _⟩ rfl rfl hl.1 rfl (lv_room (Nat.le_of_ble_eq_true rfl)) dX9_isFinalNow_23 ⟨Nat.le_of_ble_eq_true rfl, Nat.le_of_ble_eq_true rfl⟩) (fun r_4 hr_4 => ?_)
      subst hr_4
      refine n_icmp_lt (tgt := 33) hx hb dX9_isFinalNow_26 (by decide) (by have f1 : M 1 0 ≤ 2000 := hM 1 0; omega) (by have f1 := (m_su_le hM a); omega) (fun c_5 => ?_) (fun c_5 => ?_)
      · refine lv_iconst (v := nI 0) hx hb dX9_isFinalNow_33 (by decide) ?_
        exact W.zret (v := nI 0) hx hb hr rfl (fun U9 ht hW => ⟨_, rfl, bi_zero (by first | (simp [m_fn, c_1, c_3, c_5]; done) | (simp [m_fn, c_1, c_3, c_5]; omega)), ht⟩) (fun _ h => by cases h) dX9_isFinalNow_34
      · refine lv_iconst (v := nI 1) hx hb dX9_isFinalNow_29 (by decide) ?_
        refine lv_goto (tgt := 34) hx hb dX9_isFinalNow_30 (by decide) ?_
        exact W.zret (v := nI 1) hx hb hr rfl (fun U9 ht hW => ⟨_, rfl, bi_one (by first | (simp [m_fn, c_1, c_3, c_5]; done) | (simp [m_fn, c_1, c_3, c_5]; omega)), ht⟩) (fun _ h => by cases h) dX9_isFinalNow_34
set_option maxHeartbeats 4000000 in
set_option maxRecDepth 100000 in
theorem c9_awardFor (l : Launch) (D : va_G) (ad : Nat → Nat) (cI cZ cC : ClassId) (th : Nat) (M : MS) (hM : MI M) (k : Nat) (hk : k < 18) : Met l yX9_awardFor wsX9_awardFor ({ frames := 0, cells := 0, slots := 0, locals := 0 }) (va_Pc [.ref (ad 0), .int (nI k)] (mB D ad cI cZ cC th M)) (vp_Si (fun r => r = optI (m_af M k))) 0 0 (fun _ => False) := by
  refine Met.ofW (cc := cX9_awardFor) (maxL := 4) (ret := (some .int)) (by decide) rfl ?_
  intro p e s m args below meth c s₁ B hml hv
  obtain ⟨rfl, hP, hK⟩ := hv
  have hx := B.exec
  have hb := B.bytes
  have hr := B.returns
  have hts := atoms_spec (ws := wsX9_awardFor) B.pre
  have hown : s.vm.findClass RX9 = some m.cls := findClass_of_methodNamed B.named
  have hlocks := B.notSynchronized
  have hin : ∀ w ∈ wsX90, w ∈ wsX9_awardFor := fun w h => List.mem_cons_of_mem _ (List.mem_append_right _ h)
  have l_awards := (hts (.fieldLink RX9 157 "TenderHallModel" "awards" "I") (List.mem_of_getElem? (i := 1) rfl))
  have l_lotOf := (hts (.fieldLink RX9 47 "TenderHallModel" "lotOf" "[I") (List.mem_of_getElem? (i := 2) rfl))
  have l_isVoid := (hts (.fieldLink RX9 56 "TenderHallModel" "isVoid" "[Z") (List.mem_of_getElem? (i := 3) rfl))
  have hl := lv_entry ([.ref (ad 0), .int (nI k)]) (n := 4) (Nat.le_of_ble_eq_true rfl)
  rw [lg_entry_eq]
  generalize (lg_sl ([.ref (ad 0), .int (nI k)]) ++ List.replicate (4 - (lg_sl ([.ref (ad 0), .int (nI k)])).length) Slot.unset).toArray = ls at hl ⊢
  have hl : lv_has ls 4 [(0, .ref (ad 0)), (1, .int (nI k))] := hl
  have h60 : M 16 0 ≤ 60 := hM 16 0
  refine lv_iconst (v := (-1)) hx hb dX9_awardFor_0 (by decide) ?_
  refine lv_istore_n (lv' := [(2, .int (-1)), (0, .ref (ad 0)), (1, .int (nI k))]) hx hb dX9_awardFor_1 rfl hl (by decide) rfl (fun ls hl => ?_)
  refine lv_iconst (v := nI 0) hx hb dX9_awardFor_2 (by decide) ?_
  refine lv_istore_n (lv' := [(3, .int (nI 0)), (2, .int (-1)), (0, .ref (ad 0)), (1, .int (nI k))]) hx hb dX9_awardFor_3 rfl hl (by decide) rfl (fun ls hl => ?_)
  refine w_loop (e := M 16 0) (nL := 4) (fun i => [(0, .ref (ad 0)), (1, .int (nI k)), (3, .int (nI i)), (2, .int (optI (m_aff M k i)))]) (fun i hb_2 ih_1 ls hl => ?_) 0 (by omega) ls (lv_sub hl [2, 3, 0, 1] rfl)
  refine lv_iload_n hx hb dX9_awardFor_4 rfl (lv_at hl 2 rfl) ?_
  refine lv_aload_n hx hb dX9_awardFor_5 rfl (lv_at hl 0 rfl) ?_
  refine m_get (v := .int (nI (M 16 0))) hx hb hts hin hown hK hP 16 (by decide) l_awards rfl dX9_awardFor_6 ?_
  refine n_icmp_ge (tgt := 43) hx hb dX9_awardFor_9 (by decide) (by omega) (by have f1 : M 16 0 ≤ 60 := hM 16 0; omega) (fun c_3 => ?_) (fun c_3 => ?_)
  · obtain rfl : M 16 0 = i := by omega
    refine lv_iload_n hx hb dX9_awardFor_43 rfl (lv_at hl 3 rfl) ?_
    exact W.iret (v := optI (m_aff M k (M 16 0))) hx hb hr (fun U9 ht hW => ⟨_, rfl, (show optI (m_aff M k (M 16 0)) = optI (m_af M k) from by rfl), ht⟩) (fun _ h => by cases h) dX9_awardFor_44
  · refine lv_aload_n hx hb dX9_awardFor_12 rfl (lv_at hl 0 rfl) ?_
    refine m_get hx hb hts hin hown hK hP 17 (by decide) l_lotOf rfl dX9_awardFor_13 ?_
    refine lv_iload_n hx hb dX9_awardFor_16 rfl (lv_at hl 2 rfl) ?_
    refine m_iald (f := 17) hx hb hK hP 13 rfl (by omega) (by decide) dX9_awardFor_17 ?_
    refine lv_iload_n hx hb dX9_awardFor_18 rfl (lv_at hl 1 rfl) ?_
    refine n_icmp_ne (tgt := 35) hx hb dX9_awardFor_19 (by decide) (by have f1 : M 17 i ≤ 17 := hM 17 i; omega) (by omega) (fun c_4 => ?_) (fun c_4 => ?_)
    · refine lv_iload_n hx hb dX9_awardFor_35 rfl (lv_at hl 3 rfl) ?_
      refine lv_istore_n (lv' := [(2, .int (optI (m_aff M k i))), (0, .ref (ad 0)), (1, .int (nI k)), (3, .int (nI i))]) hx hb dX9_awardFor_36 rfl hl (by decide) rfl (fun ls hl => ?_)
      refine n_iinc (k := 3) (lv' := [(3, .int (nI (i + 1))), (2, .int (optI (m_aff M k i))), (0, .ref (ad 0)), (1, .int (nI k))]) hx hb dX9_awardFor_37 hl rfl (by decide) rfl (fun ls hl => ?_)
      refine lv_goto (tgt := 4) hx hb dX9_awardFor_40 (by decide) ?_
      have e_5 : optI (m_aff M k (i + 1)) = optI (m_aff M k i) := by first | (simp [m_aff, optI, c_3, c_4]; done) | (rw [m_aff, if_neg (by omega)]) | (rw [m_aff, if_pos (by omega)]; rfl)
      refine ih_1 (by omega) ls ?_
      show lv_has ls 4 [(0, .ref (ad 0)), (1, .int (nI k)), (3, .int (nI (i + 1))), (2, .int (optI (m_aff M k (i + 1))))]
      rw [e_5]
      exact lv_sub hl [2, 3, 0, 1] rfl
    · refine lv_aload_n hx hb dX9_awardFor_22 rfl (lv_at hl 0 rfl) ?_
      refine m_get hx hb hts hin hown hK hP 20 (by decide) l_isVoid rfl dX9_awardFor_23 ?_
      refine lv_iload_n hx hb dX9_awardFor_26 rfl (lv_at hl 2 rfl) ?_
      refine m_zald (f := 20) hx hb hK hP 16 rfl (by omega) (by decide) dX9_awardFor_27 ?_
      refine n_if_ne (tgt := 35) hx hb dX9_awardFor_28 (by decide) (by have f1 : M 20 i ≤ 1 := hM 20 i; omega) (fun c_6 => ?_) (fun c_6 => ?_)
      · refine lv_iload_n hx hb dX9_awardFor_35 rfl (lv_at hl 3 rfl) ?_
        refine lv_istore_n (lv' := [(2, .int (optI (m_aff M k i))), (0, .ref (ad 0)), (1, .int (nI k)), (3, .int (nI i))]) hx hb dX9_awardFor_36 rfl hl (by decide) rfl (fun ls hl => ?_)
        refine n_iinc (k := 3) (lv' := [(3, .int (nI (i + 1))), (2, .int (optI (m_aff M k i))), (0, .ref (ad 0)), (1, .int (nI k))]) hx hb dX9_awardFor_37 hl rfl (by decide) rfl (fun ls hl => ?_)
        refine lv_goto (tgt := 4) hx hb dX9_awardFor_40 (by decide) ?_
        have e_7 : optI (m_aff M k (i + 1)) = optI (m_aff M k i) := by first | (simp [m_aff, optI, c_3, c_4, c_6]; done) | (rw [m_aff, if_neg (by omega)]) | (rw [m_aff, if_pos (by omega)]; rfl)
        refine ih_1 (by omega) ls ?_
        show lv_has ls 4 [(0, .ref (ad 0)), (1, .int (nI k)), (3, .int (nI (i + 1))), (2, .int (optI (m_aff M k (i + 1))))]
        rw [e_7]
        exact lv_sub hl [2, 3, 0, 1] rfl
      · refine lv_iload_n hx hb dX9_awardFor_31 rfl (lv_at hl 2 rfl) ?_
        refine lv_goto (tgt := 36) hx hb dX9_awardFor_32 (by decide) ?_
        refine lv_istore_n (lv' := [(2, .int (nI i)), (0, .ref (ad 0)), (1, .int (nI k)), (3, .int (nI i))]) hx hb dX9_awardFor_36 rfl hl (by decide) rfl (fun ls hl => ?_)
        refine n_iinc (k := 3) (lv' := [(3, .int (nI (i + 1))), (2, .int (nI i)), (0, .ref (ad 0)), (1, .int (nI k))]) hx hb dX9_awardFor_37 hl rfl (by decide) rfl (fun ls hl => ?_)
        refine lv_goto (tgt := 4) hx hb dX9_awardFor_40 (by decide) ?_
        have e_8 : optI (m_aff M k (i + 1)) = nI i := by first | (simp [m_aff, optI, c_3, c_4, c_6]; done) | (rw [m_aff, if_neg (by omega)]) | (rw [m_aff, if_pos (by omega)]; rfl)
        refine ih_1 (by omega) ls ?_
        show lv_has ls 4 [(0, .ref (ad 0)), (1, .int (nI k)), (3, .int (nI (i + 1))), (2, .int (optI (m_aff M k (i + 1))))]
        rw [e_8]
        exact lv_sub hl [2, 3, 0, 1] rfl
set_option maxHeartbeats 4000000 in
set_option maxRecDepth 100000 in
theorem c9_runs (l : Launch) (D : va_G) (ad : Nat → Nat) (cI cZ cC : ClassId) (th : Nat) (M : MS) (hM : MI M) (i : Nat) (hi : i < 60) : Met l yX9_runs wsX9_runs ({ frames := 1, cells := 0, slots := 0, locals := 23 }) (va_Pc [.ref (ad 0), .int (nI i)] (mB D ad cI cZ cC th M)) (vp_Si (fun r => r = nI (m_runs M i))) 0 0 (fun _ => False) := by
  refine Met.ofW (cc := cX9_runs) (maxL := 2) (ret := (some .int)) (by decide) rfl ?_
  intro p e s m args below meth c s₁ B hml hv
  obtain ⟨rfl, hP, hK⟩ := hv
  have hx := B.exec
  have hb := B.bytes
  have hr := B.returns
  have hts := atoms_spec (ws := wsX9_runs) B.pre
  have hown : s.vm.findClass RX9 = some m.cls := findClass_of_methodNamed B.named
  have hlocks := B.notSynchronized
  have hin : ∀ w ∈ wsX90, w ∈ wsX9_runs := fun w h => List.mem_cons_of_mem _ (List.mem_append_right _ h)
  have l_isVoid := (hts (.fieldLink RX9 56 "TenderHallModel" "isVoid" "[Z") (List.mem_of_getElem? (i := 1) rfl))
  have l_awardOf := (hts (.fieldLink RX9 80 "TenderHallModel" "awardOf" "[I") (List.mem_of_getElem? (i := 2) rfl))
  have hl := lv_entry ([.ref (ad 0), .int (nI i)]) (n := 2) (Nat.le_of_ble_eq_true rfl)
  rw [lg_entry_eq]
  generalize (lg_sl ([.ref (ad 0), .int (nI i)]) ++ List.replicate (2 - (lg_sl ([.ref (ad 0), .int (nI i)])).length) Slot.unset).toArray = ls at hl ⊢
  have hl : lv_has ls 2 [(0, .ref (ad 0)), (1, .int (nI i))] := hl
  refine lv_aload_n hx hb dX9_runs_0 rfl (lv_at hl 0 rfl) ?_
  refine m_get hx hb hts hin hown hK hP 20 (by decide) l_isVoid rfl dX9_runs_1 ?_
  refine lv_aload_n hx hb dX9_runs_4 rfl (lv_at hl 0 rfl) ?_
  refine m_get hx hb hts hin hown hK hP 30 (by decide) l_awardOf rfl dX9_runs_5 ?_
  refine lv_iload_n hx hb dX9_runs_8 rfl (lv_at hl 1 rfl) ?_
  refine m_iald (f := 30) hx hb hK hP 24 rfl (by omega) (by decide) dX9_runs_9 ?_
  refine m_zald (f := 20) hx hb hK hP 16 rfl (by have f1 : M 30 i ≤ 59 := hM 30 i; omega) (by decide) dX9_runs_10 ?_
  refine n_if_eq (tgt := 18) hx hb dX9_runs_11 (by decide) (by have f1 : M 30 i ≤ 59 := hM 30 i; have f2 : M 20 (M 30 i) ≤ 1 := hM 20 (M 30 i); omega) (fun c_1 => ?_) (fun c_1 => ?_)
  · refine lv_aload_n hx hb dX9_runs_18 rfl (lv_at hl 0 rfl) ?_
    refine lv_aload_n hx hb dX9_runs_19 rfl (lv_at hl 0 rfl) ?_
    refine m_get hx hb hts hin hown hK hP 30 (by decide) l_awardOf rfl dX9_runs_20 ?_
    refine lv_iload_n hx hb dX9_runs_23 rfl (lv_at hl 1 rfl) ?_
    refine m_iald (f := 30) hx hb hK hP 24 rfl (by omega) (by decide) dX9_runs_24 ?_
    refine vp_callSi (W.runV (As := [.int (nI (M 30 i))]) (rest := []) ⟨hx, hb, hml, hown, hts⟩ (c9_openOnes l D ad cI cZ cC th M hM  (M 30 i) (by have f1 : M 30 i ≤ 59 := hM 30 i; omega)) (cwV 1 hts gX9_runs_X9_openOnes rfl rfl rfl kd_X9_openOnes ⟨Nat.le_of_ble_eq_true rfl, Nat.le_of_ble_eq_true rfl⟩) ⟨mB_blind, m_recv hK hP, m_pre hK hP _⟩ rfl rfl hl.1 rfl (lv_room (Nat.le_of_ble_eq_true rfl)) dX9_runs_25 ⟨Nat.le_of_ble_eq_true rfl, Nat.le_of_ble_eq_true rfl⟩) (fun r_2 hr_2 => ?_)
    subst hr_2
    refine n_if_le (tgt := 35) hx hb dX9_runs_28 (by decide) (by have f1 : m_oo M (M 30 i) ≤ M 22 0 := m_oof_le M (M 30 i) (M 22 0); have f2 : M 22 0 ≤ 60 := hM 22 0; omega) (fun c_3 => ?_) (fun c_3 => ?_)
    · refine lv_iconst (v := nI 2) hx hb dX9_runs_35 (by decide) ?_
      exact W.iret (v := nI 2) hx hb hr (fun U9 ht hW => ⟨_, rfl, congrArg nI (show 2 = m_runs M i from by first | (simp [m_runs, c_1, c_3]; done) | (simp [m_runs, c_1, c_3]; omega)), ht⟩) (fun _ h => by cases h) dX9_runs_36
    · refine lv_iconst (v := nI 1) hx hb dX9_runs_31 (by decide) ?_
      refine lv_goto (tgt := 36) hx hb dX9_runs_32 (by decide) ?_
      exact W.iret (v := nI 1) hx hb hr (fun U9 ht hW => ⟨_, rfl, congrArg nI (show 1 = m_runs M i from by first | (simp [m_runs, c_1, c_3]; done) | (simp [m_runs, c_1, c_3]; omega)), ht⟩) (fun _ h => by cases h) dX9_runs_36
  · refine lv_iconst (v := nI 0) hx hb dX9_runs_14 (by decide) ?_
    refine lv_goto (tgt := 36) hx hb dX9_runs_15 (by decide) ?_
    exact W.iret (v := nI 0) hx hb hr (fun U9 ht hW => ⟨_, rfl, congrArg nI (show 0 = m_runs M i from by first | (simp [m_runs, c_1]; done) | (simp [m_runs, c_1]; omega)), ht⟩) (fun _ h => by cases h) dX9_runs_36
set_option maxHeartbeats 4000000 in
set_option maxRecDepth 100000 in
theorem c9_priceOf (l : Launch) (D : va_G) (ad : Nat → Nat) (cI cZ cC : ClassId) (th : Nat) (M : MS) (hM : MI M) (i : Nat) (hi : i < 60) : Met l yX9_priceOf wsX9_priceOf ({ frames := 0, cells := 0, slots := 0, locals := 0 }) (va_Pc [.ref (ad 0), .int (nI i)] (mB D ad cI cZ cC th M)) (vp_Si (fun r => r = nI (m_pr M i))) 0 0 (fun _ => False) := by
  refine Met.ofW (cc := cX9_priceOf) (maxL := 2) (ret := (some .int)) (by decide) rfl ?_
  intro p e s m args below meth c s₁ B hml hv
  obtain ⟨rfl, hP, hK⟩ := hv
  have hx := B.exec
  have hb := B.bytes
  have hr := B.returns
  have hts := atoms_spec (ws := wsX9_priceOf) B.pre
  have hown : s.vm.findClass RX9 = some m.cls := findClass_of_methodNamed B.named
  have hlocks := B.notSynchronized
  have hin : ∀ w ∈ wsX90, w ∈ wsX9_priceOf := fun w h => List.mem_cons_of_mem _ (List.mem_append_right _ h)
  have l_price := (hts (.fieldLink RX9 31 "TenderHallModel" "price" "[I") (List.mem_of_getElem? (i := 1) rfl))
  have l_lotOf := (hts (.fieldLink RX9 47 "TenderHallModel" "lotOf" "[I") (List.mem_of_getElem? (i := 2) rfl))
  have l_awardOf := (hts (.fieldLink RX9 80 "TenderHallModel" "awardOf" "[I") (List.mem_of_getElem? (i := 3) rfl))
  have l_won := (hts (.fieldLink RX9 50 "TenderHallModel" "won" "[I") (List.mem_of_getElem? (i := 4) rfl))
  have hl := lv_entry ([.ref (ad 0), .int (nI i)]) (n := 2) (Nat.le_of_ble_eq_true rfl)
  rw [lg_entry_eq]
  generalize (lg_sl ([.ref (ad 0), .int (nI i)]) ++ List.replicate (2 - (lg_sl ([.ref (ad 0), .int (nI i)])).length) Slot.unset).toArray = ls at hl ⊢
  have hl : lv_has ls 2 [(0, .ref (ad 0)), (1, .int (nI i))] := hl
  refine lv_aload_n hx hb dX9_priceOf_0 rfl (lv_at hl 0 rfl) ?_
  refine m_get hx hb hts hin hown hK hP 10 (by decide) l_price rfl dX9_priceOf_1 ?_
  refine lv_bipush (v := nI 8) hx hb dX9_priceOf_4 (by decide) ?_
  refine lv_aload_n hx hb dX9_priceOf_6 rfl (lv_at hl 0 rfl) ?_
  refine m_get hx hb hts hin hown hK hP 17 (by decide) l_lotOf rfl dX9_priceOf_7 ?_
  refine lv_aload_n hx hb dX9_priceOf_10 rfl (lv_at hl 0 rfl) ?_
  refine m_get hx hb hts hin hown hK hP 30 (by decide) l_awardOf rfl dX9_priceOf_11 ?_
  refine lv_iload_n hx hb dX9_priceOf_14 rfl (lv_at hl 1 rfl) ?_
  refine m_iald (f := 30) hx hb hK hP 24 rfl (by omega) (by decide) dX9_priceOf_15 ?_
  refine m_iald (f := 17) hx hb hK hP 13 rfl (by have f1 : M 30 i ≤ 59 := hM 30 i; omega) (by decide) dX9_priceOf_16 ?_
  refine n_imul hx hb dX9_priceOf_17 (z := 8 * (M 17 (M 30 i))) rfl ?_
  refine lv_aload_n hx hb dX9_priceOf_18 rfl (lv_at hl 0 rfl) ?_
  refine m_get hx hb hts hin hown hK hP 18 (by decide) l_won rfl dX9_priceOf_19 ?_
  refine lv_aload_n hx hb dX9_priceOf_22 rfl (lv_at hl 0 rfl) ?_
  refine m_get hx hb hts hin hown hK hP 30 (by decide) l_awardOf rfl dX9_priceOf_23 ?_
  refine lv_iload_n hx hb dX9_priceOf_26 rfl (lv_at hl 1 rfl) ?_
  refine m_iald (f := 30) hx hb hK hP 24 rfl (by omega) (by decide) dX9_priceOf_27 ?_
  refine m_iald (f := 18) hx hb hK hP 14 rfl (by have f1 : M 30 i ≤ 59 := hM 30 i; omega) (by decide) dX9_priceOf_28 ?_
  refine n_iadd hx hb dX9_priceOf_29 (z := (8 * (M 17 (M 30 i))) + (M 18 (M 30 i))) rfl ?_
  refine m_iald (f := 10) hx hb hK hP 8 rfl (by have f1 : M 30 i ≤ 59 := hM 30 i; have f2 : M 17 (M 30 i) ≤ 17 := hM 17 (M 30 i); have f3 : M 18 (M 30 i) ≤ 7 := hM 18 (M 30 i); omega) (by decide) dX9_priceOf_30 ?_
  exact W.iret (v := nI (M 10 ((8 * (M 17 (M 30 i))) + (M 18 (M 30 i))))) hx hb hr (fun U9 ht hW => ⟨_, rfl, congrArg nI (show M 10 ((8 * (M 17 (M 30 i))) + (M 18 (M 30 i))) = m_pr M i from by rfl), ht⟩) (fun _ h => by cases h) dX9_priceOf_31
set_option maxHeartbeats 4000000 in
set_option maxRecDepth 100000 in
theorem c9_hasContract (l : Launch) (D : va_G) (ad : Nat → Nat) (cI cZ cC : ClassId) (th : Nat) (M : MS) (hM : MI M) (k : Nat) (hk : k < 18) : Met l yX9_hasContract wsX9_hasContract ({ frames := 2, cells := 0, slots := 0, locals := 44 }) (va_Pc [.ref (ad 0), .int (nI k)] (mB D ad cI cZ cC th M)) (vp_Si (fun r => r = bi (m_hc M k))) 0 0 (fun _ => False) := by
  refine Met.ofW (cc := cX9_hasContract) (maxL := 4) (ret := (some .boolean)) (by decide) rfl ?_
  intro p e s m args below meth c s₁ B hml hv
  obtain ⟨rfl, hP, hK⟩ := hv
  have hx := B.exec
  have hb := B.bytes
  have hr := B.returns
  have hts := atoms_spec (ws := wsX9_hasContract) B.pre
  have hown : s.vm.findClass RX9 = some m.cls := findClass_of_methodNamed B.named
  have hlocks := B.notSynchronized
  have hin : ∀ w ∈ wsX90, w ∈ wsX9_hasContract := fun w h => List.mem_cons_of_mem _ (List.mem_append_right _ h)
  have l_contracts := (hts (.fieldLink RX9 198 "TenderHallModel" "contracts" "I") (List.mem_of_getElem? (i := 1) rfl))
  have l_lotOf := (hts (.fieldLink RX9 47 "TenderHallModel" "lotOf" "[I") (List.mem_of_getElem? (i := 2) rfl))
  have l_awardOf := (hts (.fieldLink RX9 80 "TenderHallModel" "awardOf" "[I") (List.mem_of_getElem? (i := 3) rfl))
  have hl := lv_entry ([.ref (ad 0), .int (nI k)]) (n := 4) (Nat.le_of_ble_eq_true rfl)
  rw [lg_entry_eq]
  generalize (lg_sl ([.ref (ad 0), .int (nI k)]) ++ List.replicate (4 - (lg_sl ([.ref (ad 0), .int (nI k)])).length) Slot.unset).toArray = ls at hl ⊢
  have hl : lv_has ls 4 [(0, .ref (ad 0)), (1, .int (nI k))] := hl
  have h60 : M 29 0 ≤ 60 := hM 29 0
  refine lv_iconst (v := nI 0) hx hb dX9_hasContract_0 (by decide) ?_
  refine lv_istore_n (lv' := [(2, .int (nI 0)), (0, .ref (ad 0)), (1, .int (nI k))]) hx hb dX9_hasContract_1 rfl hl (by decide) rfl (fun ls hl => ?_)
  refine lv_iconst (v := nI 0) hx hb dX9_hasContract_2 (by decide) ?_
  refine lv_istore_n (lv' := [(3, .int (nI 0)), (2, .int (nI 0)), (0, .ref (ad 0)), (1, .int (nI k))]) hx hb dX9_hasContract_3 rfl hl (by decide) rfl (fun ls hl => ?_)
  refine w_loop (e := M 29 0) (nL := 4) (fun i => [(0, .ref (ad 0)), (1, .int (nI k)), (3, .int (nI i)), (2, .int (bi (m_hcf M k i)))]) (fun i hb_2 ih_1 ls hl => ?_) 0 (by omega) ls (lv_sub hl [2, 3, 0, 1] rfl)
  refine lv_iload_n hx hb dX9_hasContract_4 rfl (lv_at hl 2 rfl) ?_
  refine lv_aload_n hx hb dX9_hasContract_5 rfl (lv_at hl 0 rfl) ?_
  refine m_get (v := .int (nI (M 29 0))) hx hb hts hin hown hK hP 29 (by decide) l_contracts rfl dX9_hasContract_6 ?_
  refine n_icmp_ge (tgt := 51) hx hb dX9_hasContract_9 (by decide) (by omega) (by have f1 : M 29 0 ≤ 60 := hM 29 0; omega) (fun c_3 => ?_) (fun c_3 => ?_)
  · obtain rfl : M 29 0 = i := by omega
    refine lv_iload_n hx hb dX9_hasContract_51 rfl (lv_at hl 3 rfl) ?_
    exact W.zret (v := bi (m_hcf M k (M 29 0))) hx hb hr (bi_nar _) (fun U9 ht hW => ⟨_, rfl, congrArg bi (show m_hcf M k (M 29 0) = m_hc M k from by rfl), ht⟩) (fun _ h => by cases h) dX9_hasContract_52
  · refine lv_iload_n hx hb dX9_hasContract_12 rfl (lv_at hl 3 rfl) ?_
    refine b_if_ne (tgt := 39) hx hb dX9_hasContract_13 (by decide)  (fun c_4 => ?_) (fun c_4 => ?_)
    · refine lv_iconst (v := nI 1) hx hb dX9_hasContract_39 (by decide) ?_
      refine lv_goto (tgt := 44) hx hb dX9_hasContract_40 (by decide) ?_
      refine lv_istore_n (lv' := [(2, .int (nI 1)), (0, .ref (ad 0)), (1, .int (nI k)), (3, .int (nI i))]) hx hb dX9_hasContract_44 rfl hl (by decide) rfl (fun ls hl => ?_)
      refine n_iinc (k := 3) (lv' := [(3, .int (nI (i + 1))), (2, .int (nI 1)), (0, .ref (ad 0)), (1, .int (nI k))]) hx hb dX9_hasContract_45 hl rfl (by decide) rfl (fun ls hl => ?_)
      refine lv_goto (tgt := 4) hx hb dX9_hasContract_48 (by decide) ?_
      have e_5 : m_hcf M k (i + 1) = true := by first | (simp [m_hcf, c_3, c_4]; done) | (simp [m_hcf, c_3, c_4]; omega)
      refine ih_1 (by omega) ls ?_
      show lv_has ls 4 [(0, .ref (ad 0)), (1, .int (nI k)), (3, .int (nI (i + 1))), (2, .int (bi (m_hcf M k (i + 1))))]
      rw [e_5]
      exact lv_sub hl [2, 3, 0, 1] rfl
    · refine lv_aload_n hx hb dX9_hasContract_16 rfl (lv_at hl 0 rfl) ?_
      refine m_get hx hb hts hin hown hK hP 17 (by decide) l_lotOf rfl dX9_hasContract_17 ?_
      refine lv_aload_n hx hb dX9_hasContract_20 rfl (lv_at hl 0 rfl) ?_
      refine m_get hx hb hts hin hown hK hP 30 (by decide) l_awardOf rfl dX9_hasContract_21 ?_
      refine lv_iload_n hx hb dX9_hasContract_24 rfl (lv_at hl 2 rfl) ?_
      refine m_iald (f := 30) hx hb hK hP 24 rfl (by omega) (by decide) dX9_hasContract_25 ?_
      refine m_iald (f := 17) hx hb hK hP 13 rfl (by have f1 : M 30 i ≤ 59 := hM 30 i; omega) (by decide) dX9_hasContract_26 ?_
      refine lv_iload_n hx hb dX9_hasContract_27 rfl (lv_at hl 1 rfl) ?_
      refine n_icmp_ne (tgt := 43) hx hb dX9_hasContract_28 (by decide) (by have f1 : M 30 i ≤ 59 := hM 30 i; have f2 : M 17 (M 30 i) ≤ 17 := hM 17 (M 30 i); omega) (by omega) (fun c_6 => ?_) (fun c_6 => ?_)
      · refine lv_iconst (v := nI 0) hx hb dX9_hasContract_43 (by decide) ?_
        refine lv_istore_n (lv' := [(2, .int (nI 0)), (0, .ref (ad 0)), (1, .int (nI k)), (3, .int (nI i))]) hx hb dX9_hasContract_44 rfl hl (by decide) rfl (fun ls hl => ?_)
        refine n_iinc (k := 3) (lv' := [(3, .int (nI (i + 1))), (2, .int (nI 0)), (0, .ref (ad 0)), (1, .int (nI k))]) hx hb dX9_hasContract_45 hl rfl (by decide) rfl (fun ls hl => ?_)
        refine lv_goto (tgt := 4) hx hb dX9_hasContract_48 (by decide) ?_
        have e_7 : m_hcf M k (i + 1) = false := by first | (simp [m_hcf, c_3, c_4, c_6]; done) | (simp [m_hcf, c_3, c_4, c_6]; omega)
        refine ih_1 (by omega) ls ?_
        show lv_has ls 4 [(0, .ref (ad 0)), (1, .int (nI k)), (3, .int (nI (i + 1))), (2, .int (bi (m_hcf M k (i + 1))))]
        rw [e_7]
        exact lv_sub hl [2, 3, 0, 1] rfl
      · refine lv_aload_n hx hb dX9_hasContract_31 rfl (lv_at hl 0 rfl) ?_
        refine lv_iload_n hx hb dX9_hasContract_32 rfl (lv_at hl 2 rfl) ?_
        refine vp_callSi (W.runV (As := [.int (nI i)]) (rest := []) ⟨hx, hb, hml, hown, hts⟩ (c9_runs l D ad cI cZ cC th M hM  i (by omega)) (cwV 1 hts gX9_hasContract_X9_runs rfl rfl rfl kd_X9_runs ⟨Nat.le_of_ble_eq_true rfl, Nat.le_of_ble_eq_true rfl⟩) ⟨mB_blind, m_recv hK hP, m_pre hK hP _⟩ rfl rfl hl.1 rfl (lv_room (Nat.le_of_ble_eq_true rfl)) dX9_hasContract_33 ⟨Nat.le_of_ble_eq_true rfl, Nat.le_of_ble_eq_true rfl⟩) (fun r_8 hr_8 => ?_)
        subst hr_8
        refine n_if_le (tgt := 43) hx hb dX9_hasContract_36 (by decide) (by have f1 := (m_runs_le M i); omega) (fun c_9 => ?_) (fun c_9 => ?_)
        · refine lv_iconst (v := nI 0) hx hb dX9_hasContract_43 (by decide) ?_
          refine lv_istore_n (lv' := [(2, .int (nI 0)), (0, .ref (ad 0)), (1, .int (nI k)), (3, .int (nI i))]) hx hb dX9_hasContract_44 rfl hl (by decide) rfl (fun ls hl => ?_)
          refine n_iinc (k := 3) (lv' := [(3, .int (nI (i + 1))), (2, .int (nI 0)), (0, .ref (ad 0)), (1, .int (nI k))]) hx hb dX9_hasContract_45 hl rfl (by decide) rfl (fun ls hl => ?_)
          refine lv_goto (tgt := 4) hx hb dX9_hasContract_48 (by decide) ?_
          have e_10 : m_hcf M k (i + 1) = false := by first | (simp [m_hcf, c_3, c_4, c_6, c_9]; done) | (simp [m_hcf, c_3, c_4, c_6, c_9]; omega)
          refine ih_1 (by omega) ls ?_
          show lv_has ls 4 [(0, .ref (ad 0)), (1, .int (nI k)), (3, .int (nI (i + 1))), (2, .int (bi (m_hcf M k (i + 1))))]
          rw [e_10]
          exact lv_sub hl [2, 3, 0, 1] rfl
        · refine lv_iconst (v := nI 1) hx hb dX9_hasContract_39 (by decide) ?_
          refine lv_goto (tgt := 44) hx hb dX9_hasContract_40 (by decide) ?_
          refine lv_istore_n (lv' := [(2, .int (nI 1)), (0, .ref (ad 0)), (1, .int (nI k)), (3, .int (nI i))]) hx hb dX9_hasContract_44 rfl hl (by decide) rfl (fun ls hl => ?_)
          refine n_iinc (k := 3) (lv' := [(3, .int (nI (i + 1))), (2, .int (nI 1)), (0, .ref (ad 0)), (1, .int (nI k))]) hx hb dX9_hasContract_45 hl rfl (by decide) rfl (fun ls hl => ?_)
          refine lv_goto (tgt := 4) hx hb dX9_hasContract_48 (by decide) ?_
          have e_11 : m_hcf M k (i + 1) = true := by first | (simp [m_hcf, c_3, c_4, c_6, c_9]; done) | (simp [m_hcf, c_3, c_4, c_6, c_9]; omega)
          refine ih_1 (by omega) ls ?_
          show lv_has ls 4 [(0, .ref (ad 0)), (1, .int (nI k)), (3, .int (nI (i + 1))), (2, .int (bi (m_hcf M k (i + 1))))]
          rw [e_11]
          exact lv_sub hl [2, 3, 0, 1] rfl
set_option maxHeartbeats 4000000 in
set_option maxRecDepth 100000 in
theorem c9_bidsFor (l : Launch) (D : va_G) (ad : Nat → Nat) (cI cZ cC : ClassId) (th : Nat) (M : MS) (hM : MI M) (k : Nat) (hk : k < 18) : Met l yX9_bidsFor wsX9_bidsFor ({ frames := 0, cells := 0, slots := 0, locals := 0 }) (va_Pc [.ref (ad 0), .int (nI k)] (mB D ad cI cZ cC th M)) (vp_Si (fun r => r = nI (m_bf M k 8))) 0 0 (fun _ => False) := by
  refine Met.ofW (cc := cX9_bidsFor) (maxL := 4) (ret := (some .int)) (by decide) rfl ?_
  intro p e s m args below meth c s₁ B hml hv
  obtain ⟨rfl, hP, hK⟩ := hv
  have hx := B.exec
  have hb := B.bytes
  have hr := B.returns
  have hts := atoms_spec (ws := wsX9_bidsFor) B.pre
  have hown : s.vm.findClass RX9 = some m.cls := findClass_of_methodNamed B.named
  have hlocks := B.notSynchronized
  have hin : ∀ w ∈ wsX90, w ∈ wsX9_bidsFor := fun w h => List.mem_cons_of_mem _ (List.mem_append_right _ h)
  have l_price := (hts (.fieldLink RX9 31 "TenderHallModel" "price" "[I") (List.mem_of_getElem? (i := 1) rfl))
  have hl := lv_entry ([.ref (ad 0), .int (nI k)]) (n := 4) (Nat.le_of_ble_eq_true rfl)
  rw [lg_entry_eq]
  generalize (lg_sl ([.ref (ad 0), .int (nI k)]) ++ List.replicate (4 - (lg_sl ([.ref (ad 0), .int (nI k)])).length) Slot.unset).toArray = ls at hl ⊢
  have hl : lv_has ls 4 [(0, .ref (ad 0)), (1, .int (nI k))] := hl
  refine lv_iconst (v := nI 0) hx hb dX9_bidsFor_0 (by decide) ?_
  refine lv_istore_n (lv' := [(2, .int (nI 0)), (0, .ref (ad 0)), (1, .int (nI k))]) hx hb dX9_bidsFor_1 rfl hl (by decide) rfl (fun ls hl => ?_)
  refine lv_iconst (v := nI 0) hx hb dX9_bidsFor_2 (by decide) ?_
  refine lv_istore_n (lv' := [(3, .int (nI 0)), (2, .int (nI 0)), (0, .ref (ad 0)), (1, .int (nI k))]) hx hb dX9_bidsFor_3 rfl hl (by decide) rfl (fun ls hl => ?_)
  refine w_loop (e := 8) (nL := 4) (fun b => [(0, .ref (ad 0)), (1, .int (nI k)), (3, .int (nI b)), (2, .int (nI (m_bf M k b)))]) (fun b hb_2 ih_1 ls hl => ?_) 0 (by omega) ls (lv_sub hl [2, 3, 0, 1] rfl)
  refine lv_iload_n hx hb dX9_bidsFor_4 rfl (lv_at hl 2 rfl) ?_
  refine lv_bipush (v := nI 8) hx hb dX9_bidsFor_5 (by decide) ?_
  refine n_icmp_ge (tgt := 38) hx hb dX9_bidsFor_7 (by decide) (by omega) (by decide) (fun c_3 => ?_) (fun c_3 => ?_)
  · obtain rfl : 8 = b := by omega
    refine lv_iload_n hx hb dX9_bidsFor_38 rfl (lv_at hl 3 rfl) ?_
    exact W.iret (v := nI (m_bf M k 8)) hx hb hr (fun U9 ht hW => ⟨_, rfl, rfl, ht⟩) (fun _ h => by cases h) dX9_bidsFor_39
  · refine lv_iload_n hx hb dX9_bidsFor_10 rfl (lv_at hl 3 rfl) ?_
    refine lv_aload_n hx hb dX9_bidsFor_11 rfl (lv_at hl 0 rfl) ?_
    refine m_get hx hb hts hin hown hK hP 10 (by decide) l_price rfl dX9_bidsFor_12 ?_
    refine lv_bipush (v := nI 8) hx hb dX9_bidsFor_15 (by decide) ?_
    refine lv_iload_n hx hb dX9_bidsFor_17 rfl (lv_at hl 1 rfl) ?_
    refine n_imul hx hb dX9_bidsFor_18 (z := 8 * k) rfl ?_
    refine lv_iload_n hx hb dX9_bidsFor_19 rfl (lv_at hl 2 rfl) ?_
    refine n_iadd hx hb dX9_bidsFor_20 (z := (8 * k) + b) rfl ?_
    refine m_iald (f := 10) hx hb hK hP 8 rfl (by omega) (by decide) dX9_bidsFor_21 ?_
    refine n_if_le (tgt := 29) hx hb dX9_bidsFor_22 (by decide) (by have f1 : M 10 ((8 * k) + b) ≤ 100000 := hM 10 ((8 * k) + b); omega) (fun c_4 => ?_) (fun c_4 => ?_)
    · refine lv_iconst (v := nI 0) hx hb dX9_bidsFor_29 (by decide) ?_
      refine n_iadd hx hb dX9_bidsFor_30 (z := (m_bf M k b) + 0) rfl ?_
      refine lv_istore_n (lv' := [(2, .int (nI ((m_bf M k b) + 0))), (0, .ref (ad 0)), (1, .int (nI k)), (3, .int (nI b))]) hx hb dX9_bidsFor_31 rfl hl (by decide) rfl (fun ls hl => ?_)
      refine n_iinc (k := 3) (lv' := [(3, .int (nI (b + 1))), (2, .int (nI ((m_bf M k b) + 0))), (0, .ref (ad 0)), (1, .int (nI k))]) hx hb dX9_bidsFor_32 hl rfl (by decide) rfl (fun ls hl => ?_)
      refine lv_goto (tgt := 4) hx hb dX9_bidsFor_35 (by decide) ?_
      have e_5 : m_bf M k (b + 1) = (m_bf M k b) + 0 := by first | (simp [m_bf, c_3, c_4]; done) | (rw [m_bf, if_pos (by omega)]) | (rw [m_bf, if_neg (by omega)])
      refine ih_1 (by omega) ls ?_
      show lv_has ls 4 [(0, .ref (ad 0)), (1, .int (nI k)), (3, .int (nI (b + 1))), (2, .int (nI (m_bf M k (b + 1))))]
      rw [e_5]
      exact lv_sub hl [2, 3, 0, 1] rfl
    · refine lv_iconst (v := nI 1) hx hb dX9_bidsFor_25 (by decide) ?_
      refine lv_goto (tgt := 30) hx hb dX9_bidsFor_26 (by decide) ?_
      refine n_iadd hx hb dX9_bidsFor_30 (z := (m_bf M k b) + 1) rfl ?_
      refine lv_istore_n (lv' := [(2, .int (nI ((m_bf M k b) + 1))), (0, .ref (ad 0)), (1, .int (nI k)), (3, .int (nI b))]) hx hb dX9_bidsFor_31 rfl hl (by decide) rfl (fun ls hl => ?_)
      refine n_iinc (k := 3) (lv' := [(3, .int (nI (b + 1))), (2, .int (nI ((m_bf M k b) + 1))), (0, .ref (ad 0)), (1, .int (nI k))]) hx hb dX9_bidsFor_32 hl rfl (by decide) rfl (fun ls hl => ?_)
      refine lv_goto (tgt := 4) hx hb dX9_bidsFor_35 (by decide) ?_
      have e_6 : m_bf M k (b + 1) = (m_bf M k b) + 1 := by first | (simp [m_bf, c_3, c_4]; done) | (rw [m_bf, if_pos (by omega)]) | (rw [m_bf, if_neg (by omega)])
      refine ih_1 (by omega) ls ?_
      show lv_has ls 4 [(0, .ref (ad 0)), (1, .int (nI k)), (3, .int (nI (b + 1))), (2, .int (nI (m_bf M k (b + 1))))]
      rw [e_6]
      exact lv_sub hl [2, 3, 0, 1] rfl
