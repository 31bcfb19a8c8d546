/-! appending to a text -/
def sbw (ws : va_W) (b0 r0 : Nat) (cb : ClassId) (n : Nat) (g : Nat → Int32) : va_W := wup (wup ws b0 (sbo r0 n)) r0 (sba cb g)
theorem dig_len (x : Nat) : (dig x).length = if 9 < x then 2 else 1 := by
  unfold dig
  split <;> rfl
theorem dig_len_le (x : Nat) : 1 ≤ (dig x).length ∧ (dig x).length ≤ 2 := by
  rw [dig_len]
  split <;> omega
set_option maxHeartbeats 4000000 in
set_option maxRecDepth 100000 in
theorem cs_appendC5 (l : Launch) (D : va_G) (cI cO cb : ClassId) (eA mi : Nat) (st : Nat → Nat) (dO dT : Nat) (vF : Value) {A : Nat → Prop} (ws : va_W) (hD : va_D A ws) (b0 r0 n : Nat) (g : Nat → Int32) (hB : (b0, sbo r0 n) ∈ ws) (hR : (r0, sba cb g) ∈ ws) (x : Nat) (hx9 : x < 128) (hn9 : n + 1 ≤ 16) : Met l yJ5_append_3fe6f wsJ5_append_3fe6f ({ frames := 1, cells := 0, slots := 0, locals := 22 }) (va_Pc [.ref b0, .int (nI x)] (cT D cI cO cb eA mi st dO dT vF A ws)) (va_Qr (fun _ : Unit => True) (fun _ q U9 => q = b0 ∧ va_D A (wup (wup ws b0 (sbo r0 (n + 1))) r0 (sba cb (upd g n (nI x)))) ∧ va_P D vwCl (wup (wup ws b0 (sbo r0 (n + 1))) r0 (sba cb (upd g n (nI x)))) U9.heap) A) 0 0 A := by
  refine Met.ofW (cc := cJ5_append_3fe6f) (maxL := 2) (ret := (some (.object "java/lang/AbstractStringBuilder"))) (by decide) rfl ?_
  intro p e s m args below meth c s₁ B hml hv
  obtain ⟨rfl, hP, hK, hG, hA⟩ := hv
  obtain ⟨hG, hT⟩ := hG
  have hx := B.exec
  have hb := B.bytes
  have hr := B.returns
  have hts := atoms_spec (ws := wsJ5_append_3fe6f) B.pre
  have hown : s.vm.findClass RJ5 = some m.cls := findClass_of_methodNamed B.named
  have hlocks := B.notSynchronized
  have hin_J4 : ∀ w ∈ wsJ40, w ∈ wsJ5_append_3fe6f := fun w h => List.mem_cons_of_mem _ (List.mem_append_right _ h)
  have l_79 := (hts (.fieldLink RJ5 79 "java/lang/AbstractStringBuilder" "count" "I") (List.mem_of_getElem? (i := 1) rfl))
  have l_15 := (hts (.fieldLink RJ5 15 "java/lang/AbstractStringBuilder" "value" "[B") (List.mem_of_getElem? (i := 2) rfl))
  have hS : va_S A s.heap s.heap [] := va_S.rf
  have hD0 := hD
  have hl := lv_entry ([.ref b0, .int (nI x)]) (n := 2) (Nat.le_of_ble_eq_true rfl)
  rw [lg_entry_eq]
  generalize (lg_sl ([.ref b0, .int (nI x)]) ++ List.replicate (2 - (lg_sl ([.ref b0, .int (nI x)])).length) Slot.unset).toArray = ls at hl ⊢
  have hl : lv_has ls 2 [(0, .ref b0), (1, .int (nI x))] := hl
  refine lv_aload_n hx hb dJ5_append_3fe6f_0 rfl (lv_at hl 0 rfl) ?_
  refine lv_aload_n hx hb dJ5_append_3fe6f_1 rfl (lv_at hl 0 rfl) ?_
  refine c_get (C := RJ4) (T := TJ4) (N := 4) hx hb hts hin_J4 hown hK hP hB rfl 3 (by decide) l_79 (fun _ h9 => h9) rfl dJ5_append_3fe6f_2 ?_
  refine lv_iconst (v := nI 1) hx hb dJ5_append_3fe6f_5 (by decide) ?_
  refine n_iadd hx hb dJ5_append_3fe6f_6 (z := n + 1) rfl ?_
  refine va_callv (va_runU (As := [.int (nI (n + 1))]) (rest := []) ⟨hx, hb, hml, hown, hts⟩ (cs_ensure l D cI cO cb eA mi st dO dT vF ws hD b0 r0 n (n + 1) g hB hR (by omega)) (va_cwU 1 hts gJ5_append_3fe6f_J5_ensureCapacityInternal_d00df_u100J4 rfl rfl rfl rfl (by decide +kernel) ⟨Nat.le_of_ble_eq_true rfl, Nat.le_of_ble_eq_true rfl⟩) ⟨cT_blind, c_recv hK hP rfl hB, cT_pre hK hG hT hA hS hP _⟩ rfl rfl hl.1 rfl (lv_room (Nat.le_of_ble_eq_true rfl)) dJ5_append_3fe6f_7 ⟨Nat.le_of_ble_eq_true rfl, Nat.le_of_ble_eq_true rfl⟩) hS (fun _ _ h => h) (fun _ h => h) (fun u U8 H1 locs1 ht hvm hu hB9 hz1 hk1 hS1 => ?_)
  rw [ht] at hB9
  clear hS
  have hS := hS1
  replace hP := hB9
  generalize H1 = H at hP hS ⊢
  refine lv_aload_n hx hb dJ5_append_3fe6f_10 rfl (lv_at hl 0 rfl) ?_
  refine va_calli (va_runU (As := []) (rest := []) ⟨hx, hb, hml, hown, hts⟩ (cs_isLatin1 l D cI cO cb eA mi st dO dT vF ws hD b0 r0 n hB) (va_cwU 0 hts gJ5_append_3fe6f_J5_isLatin1_aae02_u83J4 rfl rfl rfl rfl (by decide +kernel) ⟨Nat.le_of_ble_eq_true rfl, Nat.le_of_ble_eq_true rfl⟩) ⟨cT_blind, c_recv hK hP rfl hB, cT_pre hK hG hT hA hS hP _⟩ rfl rfl hl.1 rfl (lv_room (Nat.le_of_ble_eq_true rfl)) dJ5_append_3fe6f_11 ⟨Nat.le_of_ble_eq_true rfl, Nat.le_of_ble_eq_true rfl⟩) hS (fun _ _ h => h) (fun _ h => h) (fun ri u U8 H1 locs1 ht hvm hu hB9 hz1 hk1 hS1 => ?_)
  rw [ht] at hB9
  clear hS
  have hS := hS1
  replace hP := hB9
  generalize H1 = H at hP hS ⊢
  subst hu
  refine n_if_eq (tgt := 45) hx hb dJ5_append_3fe6f_14 (by decide) (by decide) (fun c9 => absurd c9 (by decide)) (fun _ => ?_)
  refine lv_iload_n hx hb dJ5_append_3fe6f_17 rfl (lv_at hl 1 rfl) ?_
  refine vp_callSi (W.runS (As := [.int (nI x)]) (rest := []) ⟨hx, hb, hml, hown, hts⟩ (cs_canEncode l x hx9) (va_cwS 1 hts gJ5_append_3fe6f_J1_canEncode_fc78d rfl rfl rfl kd_J1_canEncode_fc78d ⟨Nat.le_of_ble_eq_true rfl, Nat.le_of_ble_eq_true rfl⟩) ⟨fun _ _ _ _ q => q, fun U hU hW => ⟨rfl, trivial⟩⟩ rfl rfl hl.1 rfl (lv_room (Nat.le_of_ble_eq_true rfl)) dJ5_append_3fe6f_18 ⟨Nat.le_of_ble_eq_true rfl, Nat.le_of_ble_eq_true rfl⟩) (fun ri hri => ?_)
  subst hri
  refine n_if_eq (tgt := 45) hx hb dJ5_append_3fe6f_21 (by decide) (by decide) (fun c9 => absurd c9 (by decide)) (fun _ => ?_)
  refine lv_aload_n hx hb dJ5_append_3fe6f_24 rfl (lv_at hl 0 rfl) ?_
  refine c_get (C := RJ4) (T := TJ4) (N := 4) hx hb hts hin_J4 hown hK hP hB rfl 0 (by decide) l_15 (fun _ h9 => h9) rfl dJ5_append_3fe6f_25 ?_
  refine lv_aload_n hx hb dJ5_append_3fe6f_28 rfl (lv_at hl 0 rfl) ?_
  refine lv_dup hx hb dJ5_append_3fe6f_29 rfl ?_
  refine c_get (C := RJ4) (T := TJ4) (N := 4) hx hb hts hin_J4 hown hK hP hB rfl 3 (by decide) l_79 (fun _ h9 => h9) rfl dJ5_append_3fe6f_30 ?_
  refine lv_dup_x1 hx hb dJ5_append_3fe6f_33 rfl rfl ?_
  refine lv_iconst (v := nI 1) hx hb dJ5_append_3fe6f_34 (by decide) ?_
  refine n_iadd hx hb dJ5_append_3fe6f_35 (z := n + 1) rfl ?_
  have hm_1 := wup_eq (x := .inr (0, [.ref r0, .int (nI 0), .int (nI 0), .int (nI (n + 1))])) hB
  have hm_2 := wup_ne (x := .inr (0, [.ref r0, .int (nI 0), .int (nI 0), .int (nI (n + 1))])) hR (w_ne hD hR hB (fun q9 => by cases q9))
  refine c_put (C := RJ4) (T := TJ4) (N := 4) (v := .int (nI (n + 1))) (ty := .int) (fs2 := [.ref r0, .int (nI 0), .int (nI 0), .int (nI (n + 1))]) hx hb hts hin_J4 tyJ4 tyJ4_ok nmJ4 hown hK hP hD hS hB rfl 3 (by decide) l_79 (fun _ h9 => h9) rfl (by decide +kernel) rfl rfl (Nat.le_of_ble_eq_true rfl) rfl dJ5_append_3fe6f_36 (fun H locs hP hD hS => ?_)
  refine lv_iload_n hx hb dJ5_append_3fe6f_39 rfl (lv_at hl 1 rfl) ?_
  refine lv_i2b hx hb dJ5_append_3fe6f_40 (i2b_nI (by omega)) ?_
  refine c_bast (n := 16) (i := n) hx hb hK hP hD hS 2 hm_2 rfl (by omega) (by decide) (nar_byte (by omega)) dJ5_append_3fe6f_41 (fun H locs hP hD hS => ?_)
  have hm_3 := wup_eq (x := sba cb (upd (g) (n) (nI x))) hm_2
  have hm_4 := wup_ne (x := sba cb (upd (g) (n) (nI x))) hm_1 (w_ne (D_unwup hD) hm_1 hm_2 (fun q9 => by cases q9))
  refine lv_goto (tgt := 75) hx hb dJ5_append_3fe6f_42 (by decide) ?_
  refine lv_aload_n hx hb dJ5_append_3fe6f_75 rfl (lv_at hl 0 rfl) ?_
  exact W.aret hx hb hr (Or.inl ⟨_, rfl⟩) (Or.inr ⟨_, rfl⟩) (fun U9 ht hW9 => ⟨⟨(), b0, rfl, trivial, rfl, hD, by show va_P D vwCl _ U9.heap; rw [ht]; exact hP⟩, hS.F ht⟩) hS.2.2 dJ5_append_3fe6f_76
set_option maxHeartbeats 4000000 in
set_option maxRecDepth 100000 in
theorem cs_appendC (l : Launch) (D : va_G) (cI cO cb : ClassId) (eA mi : Nat) (st : Nat → Nat) (dO dT : Nat) (vF : Value) {A : Nat → Prop} (ws : va_W) (hD : va_D A ws) (b0 r0 n : Nat) (g : Nat → Int32) (hB : (b0, sbo r0 n) ∈ ws) (hR : (r0, sba cb g) ∈ ws) (x : Nat) (hx9 : x < 128) (hn9 : n + 1 ≤ 16) : Met l yJ4_append_cf468 wsJ4_append_cf468 ({ frames := 2, cells := 0, slots := 0, locals := 43 }) (va_Pc [.ref b0, .int (nI x)] (cT D cI cO cb eA mi st dO dT vF A ws)) (va_Qr (fun _ : Unit => True) (fun _ q U9 => q = b0 ∧ va_D A (wup (wup ws b0 (sbo r0 (n + 1))) r0 (sba cb (putl g n [x]))) ∧ va_P D vwCl (wup (wup ws b0 (sbo r0 (n + 1))) r0 (sba cb (putl g n [x]))) U9.heap) A) 0 0 A := by
  refine Met.ofW (cc := cJ4_append_cf468) (maxL := 2) (ret := (some (.object "java/lang/StringBuilder"))) (by decide) rfl ?_
  intro p e s m args below meth c s₁ B hml hv
  obtain ⟨rfl, hP, hK, hG, hA⟩ := hv
  obtain ⟨hG, hT⟩ := hG
  have hx := B.exec
  have hb := B.bytes
  have hr := B.returns
  have hts := atoms_spec (ws := wsJ4_append_cf468) B.pre
  have hown : s.vm.findClass RJ4 = some m.cls := findClass_of_methodNamed B.named
  have hlocks := B.notSynchronized
  have hS : va_S A s.heap s.heap [] := va_S.rf
  have hD0 := hD
  have hl := lv_entry ([.ref b0, .int (nI x)]) (n := 2) (Nat.le_of_ble_eq_true rfl)
  rw [lg_entry_eq]
  generalize (lg_sl ([.ref b0, .int (nI x)]) ++ List.replicate (2 - (lg_sl ([.ref b0, .int (nI x)])).length) Slot.unset).toArray = ls at hl ⊢
  have hl : lv_has ls 2 [(0, .ref b0), (1, .int (nI x))] := hl
  refine lv_aload_n hx hb dJ4_append_cf468_0 rfl (lv_at hl 0 rfl) ?_
  refine lv_iload_n hx hb dJ4_append_cf468_1 rfl (lv_at hl 1 rfl) ?_
  refine va_callr (va_runSU (C := RJ4) (cC := D.1 0) (hK.1 0 _ rfl).2 (As := [.int (nI x)]) (rest := []) ⟨hx, hb, hml, hown, hts⟩ (cs_appendC5 l D cI cO cb eA mi st dO dT vF ws hD b0 r0 n g hB hR x hx9 hn9) (va_cwSU 1 hts gJ4_append_cf468_J5_append_3fe6f_s50 rfl rfl rfl (by decide +kernel) ⟨Nat.le_of_ble_eq_true rfl, Nat.le_of_ble_eq_true rfl⟩) ⟨cT_blind, c_recv hK hP rfl hB, cT_pre hK hG hT hA hS hP _⟩ rfl rfl hl.1 rfl (lv_room (Nat.le_of_ble_eq_true rfl)) dJ4_append_cf468_2 ⟨Nat.le_of_ble_eq_true rfl, Nat.le_of_ble_eq_true rfl⟩) hS (fun _ _ h => h) (fun _ h => h) (fun u ra U8 H1 locs1 ht hvm hu hB9 hz1 hk1 hS1 => ?_)
  obtain ⟨hra, hD1, hB9⟩ := hB9
  rw [hra]
  rw [ht] at hB9
  clear hS
  have hS := hS1
  replace hP := hB9
  replace hD := hD1
  generalize H1 = H at hP hS ⊢
  refine lv_pop hx hb dJ4_append_cf468_5 rfl ?_
  refine lv_aload_n hx hb dJ4_append_cf468_6 rfl (lv_at hl 0 rfl) ?_
  exact W.aret hx hb hr (Or.inl ⟨_, rfl⟩) (Or.inr ⟨_, rfl⟩) (fun U9 ht hW9 => ⟨⟨(), b0, rfl, trivial, rfl, hD, by show va_P D vwCl _ U9.heap; rw [ht]; exact hP⟩, hS.F ht⟩) hS.2.2 dJ4_append_cf468_7
set_option maxHeartbeats 4000000 in
set_option maxRecDepth 100000 in
theorem cs_stringSize (l : Launch)  (x : Nat) (hx100 : x < 100) : Met l yJ6_stringSize_0f7a4 wsJ6_stringSize_0f7a4 ({ frames := 0, cells := 0, slots := 0, locals := 0 }) (va_Pc [.int (nI x)] (fun _ => True)) (vp_Si (fun ri => ri = nI (dig x).length)) 0 0 (fun _ => False) := by
  refine Met.ofW (cc := cJ6_stringSize_0f7a4) (maxL := 4) (ret := (some .int)) (by decide) rfl ?_
  intro p e s m args below meth c s₁ B hml hv
  obtain ⟨rfl, -⟩ := hv
  have hx := B.exec
  have hb := B.bytes
  have hr := B.returns
  have hts := atoms_spec (ws := wsJ6_stringSize_0f7a4) B.pre
  have hown : s.vm.findClass RJ6 = some m.cls := findClass_of_methodNamed B.named
  have hlocks := B.notSynchronized
  have hl := lv_entry ([.int (nI x)]) (n := 4) (Nat.le_of_ble_eq_true rfl)
  rw [lg_entry_eq]
  generalize (lg_sl ([.int (nI x)]) ++ List.replicate (4 - (lg_sl ([.int (nI x)])).length) Slot.unset).toArray = ls at hl ⊢
  have hl : lv_has ls 4 [(0, .int (nI x))] := hl
  refine lv_iconst (v := nI 1) hx hb dJ6_stringSize_0f7a4_0 (by decide) ?_
  refine lv_istore_n (lv' := [(1, .int (nI 1)), (0, .int (nI x))]) hx hb dJ6_stringSize_0f7a4_1 rfl hl (by decide) rfl (fun ls hl => ?_)
  refine lv_iload_n hx hb dJ6_stringSize_0f7a4_2 rfl (lv_at hl 1 rfl) ?_
  refine lv_if_lt (tgt := 11) hx hb dJ6_stringSize_0f7a4_3 (by decide) (fun c9 => absurd c9 (nI_pos (by omega))) (fun _ => ?_)
  refine lv_iconst (v := nI 0) hx hb dJ6_stringSize_0f7a4_6 (by decide) ?_
  refine lv_istore_n (lv' := [(1, .int (nI 0)), (0, .int (nI x))]) hx hb dJ6_stringSize_0f7a4_7 rfl hl (by decide) rfl (fun ls hl => ?_)
  refine lv_iload_n hx hb dJ6_stringSize_0f7a4_8 rfl (lv_at hl 1 rfl) ?_
  refine lv_ineg hx hb dJ6_stringSize_0f7a4_9 ?_
  refine lv_istore_n (lv' := [(0, .int (-(nI x))), (1, .int (nI 0))]) hx hb dJ6_stringSize_0f7a4_10 rfl hl (by decide) rfl (fun ls hl => ?_)
  refine lv_bipush (v := (-10)) hx hb dJ6_stringSize_0f7a4_11 (by decide) ?_
  refine lv_istore_n (lv' := [(2, .int (-10)), (0, .int (-(nI x))), (1, .int (nI 0))]) hx hb dJ6_stringSize_0f7a4_13 rfl hl (by decide) rfl (fun ls hl => ?_)
  refine lv_iconst (v := nI 1) hx hb dJ6_stringSize_0f7a4_14 (by decide) ?_
  refine lv_istore_n (lv' := [(3, .int (nI 1)), (2, .int (-10)), (0, .int (-(nI x))), (1, .int (nI 0))]) hx hb dJ6_stringSize_0f7a4_15 rfl hl (by decide) rfl (fun ls hl => ?_)
  refine lv_iload_n hx hb dJ6_stringSize_0f7a4_16 rfl (lv_at hl 0 rfl) ?_
  refine lv_bipush (v := nI 10) hx hb dJ6_stringSize_0f7a4_17 (by decide) ?_
  refine n_icmp_ge (tgt := 42) hx hb dJ6_stringSize_0f7a4_19 (by decide) (by decide) (by decide) (fun c9 => absurd c9 (by decide)) (fun _ => ?_)
  refine lv_iload_n hx hb dJ6_stringSize_0f7a4_22 rfl (lv_at hl 2 rfl) ?_
  refine lv_iload_n hx hb dJ6_stringSize_0f7a4_23 rfl (lv_at hl 1 rfl) ?_
  refine lv_icmp_le (tgt := 31) hx hb dJ6_stringSize_0f7a4_24 (by decide) (fun c_1 => ?_) (fun c_1 => ?_)
  · rw [neg_le10 hx100] at c_1
    refine lv_bipush (v := nI 10) hx hb dJ6_stringSize_0f7a4_31 (by decide) ?_
    refine lv_iload_n hx hb dJ6_stringSize_0f7a4_33 rfl (lv_at hl 1 rfl) ?_
    refine lv_imul hx hb dJ6_stringSize_0f7a4_34 ?_
    refine lv_istore_n (lv' := [(2, .int ((nI 10) * (-10))), (3, .int (nI 1)), (0, .int (-(nI x))), (1, .int (nI 0))]) hx hb dJ6_stringSize_0f7a4_35 rfl hl (by decide) rfl (fun ls hl => ?_)
    refine n_iinc (k := 1) (lv' := [(3, .int (nI (1 + 1))), (2, .int ((nI 10) * (-10))), (0, .int (-(nI x))), (1, .int (nI 0))]) hx hb dJ6_stringSize_0f7a4_36 hl rfl (by decide) rfl (fun ls hl => ?_)
    refine lv_goto (tgt := 16) hx hb dJ6_stringSize_0f7a4_39 (by decide) ?_
    refine lv_iload_n hx hb dJ6_stringSize_0f7a4_16 rfl (lv_at hl 0 rfl) ?_
    refine lv_bipush (v := nI 10) hx hb dJ6_stringSize_0f7a4_17 (by decide) ?_
    refine n_icmp_ge (tgt := 42) hx hb dJ6_stringSize_0f7a4_19 (by decide) (by omega) (by decide) (fun c_2 => ?_) (fun c_2 => ?_)
    · refine lv_bipush (v := nI 10) hx hb dJ6_stringSize_0f7a4_42 (by decide) ?_
      refine lv_iload_n hx hb dJ6_stringSize_0f7a4_44 rfl (lv_at hl 3 rfl) ?_
      refine n_iadd hx hb dJ6_stringSize_0f7a4_45 (z := 10) rfl ?_
      exact W.iret (v := nI 10) hx hb hr (fun U9 ht hW9 => ⟨_, rfl, (show nI 10 = nI (dig x).length from by first | (exfalso; omega) | (rw [dig_2 (by omega)]; rfl) | (rw [dig_1 (by omega)]; rfl)), ht⟩) (fun _ h => by cases h) dJ6_stringSize_0f7a4_46
    · refine lv_iload_n hx hb dJ6_stringSize_0f7a4_22 rfl (lv_at hl 2 rfl) ?_
      refine lv_iload_n hx hb dJ6_stringSize_0f7a4_23 rfl (lv_at hl 1 rfl) ?_
      refine lv_icmp_le (tgt := 31) hx hb dJ6_stringSize_0f7a4_24 (by decide) (fun c9 => absurd c9 (neg_le100 hx100)) (fun _ => ?_)
      refine lv_iload_n hx hb dJ6_stringSize_0f7a4_27 rfl (lv_at hl 0 rfl) ?_
      refine lv_iload_n hx hb dJ6_stringSize_0f7a4_28 rfl (lv_at hl 3 rfl) ?_
      refine n_iadd hx hb dJ6_stringSize_0f7a4_29 (z := (1 + 1) + 0) rfl ?_
      exact W.iret (v := nI ((1 + 1) + 0)) hx hb hr (fun U9 ht hW9 => ⟨_, rfl, (show nI ((1 + 1) + 0) = nI (dig x).length from by first | (exfalso; omega) | (rw [dig_2 (by omega)]; rfl) | (rw [dig_1 (by omega)]; rfl)), ht⟩) (fun _ h => by cases h) dJ6_stringSize_0f7a4_30
  · rw [neg_le10 hx100] at c_1
    refine lv_iload_n hx hb dJ6_stringSize_0f7a4_27 rfl (lv_at hl 0 rfl) ?_
    refine lv_iload_n hx hb dJ6_stringSize_0f7a4_28 rfl (lv_at hl 3 rfl) ?_
    refine n_iadd hx hb dJ6_stringSize_0f7a4_29 (z := 1) rfl ?_
    exact W.iret (v := nI 1) hx hb hr (fun U9 ht hW9 => ⟨_, rfl, (show nI 1 = nI (dig x).length from by first | (exfalso; omega) | (rw [dig_2 (by omega)]; rfl) | (rw [dig_1 (by omega)]; rfl)), ht⟩) (fun _ h => by cases h) dJ6_stringSize_0f7a4_30
set_option maxHeartbeats 4000000 in
set_option maxRecDepth 100000 in
theorem cs_getChars (l : Launch) (D : va_G) (cI cO cb : ClassId) (eA mi : Nat) (st : Nat → Nat) (dO dT : Nat) (vF : Value) {A : Nat → Prop} (ws : va_W) (hD : va_D A ws) (r0 n : Nat) (g : Nat → Int32) (hR : (r0, sba cb g) ∈ ws) (x : Nat) (hx100 : x < 100) (hn9 : n + (dig x).length ≤ 16) : Met l yJ6_getChars_ba4f3 wsJ6_getChars_ba4f3 ({ frames := 0, cells := 0, slots := 0, locals := 0 }) (va_Pc [.int (nI x), .int (nI (n + (dig x).length)), .ref r0] (cT D cI cO cb eA mi st dO dT vF A ws)) (va_Qi (fun (ri : Int32) (_ : Unit) => ri = nI n) (fun _ U9 => va_D A (wup ws r0 (sba cb (putl g n (dig x)))) ∧ va_P D vwCl (wup ws r0 (sba cb (putl g n (dig x)))) U9.heap) A) 0 0 A := by
  refine Met.ofW (cc := cJ6_getChars_ba4f3) (maxL := 7) (ret := (some .int)) (by decide) rfl ?_
  intro p e s m args below meth c s₁ B hml hv
  obtain ⟨rfl, hP, hK, hG, hA⟩ := hv
  obtain ⟨hG, hT⟩ := hG
  have hx := B.exec
  have hb := B.bytes
  have hr := B.returns
  have hts := atoms_spec (ws := wsJ6_getChars_ba4f3) B.pre
  have hown : s.vm.findClass RJ6 = some m.cls := findClass_of_methodNamed B.named
  have hlocks := B.notSynchronized
  have l_83 := (hts (.fieldLink RJ6 83 "java/lang/Integer" "DigitOnes" "[B") (List.mem_of_getElem? (i := 1) rfl))
  have l_87 := (hts (.fieldLink RJ6 87 "java/lang/Integer" "DigitTens" "[B") (List.mem_of_getElem? (i := 2) rfl))
  have hS : va_S A s.heap s.heap [] := va_S.rf
  have hD0 := hD
  have hl := lv_entry ([.int (nI x), .int (nI (n + (dig x).length)), .ref r0]) (n := 7) (Nat.le_of_ble_eq_true rfl)
  rw [lg_entry_eq]
  generalize (lg_sl ([.int (nI x), .int (nI (n + (dig x).length)), .ref r0]) ++ List.replicate (7 - (lg_sl ([.int (nI x), .int (nI (n + (dig x).length)), .ref r0])).length) Slot.unset).toArray = ls at hl ⊢
  have hl : lv_has ls 7 [(0, .int (nI x)), (1, .int (nI (n + (dig x).length))), (2, .ref r0)] := hl
  have hL0 := dig_len_le x
  refine lv_iload_n hx hb dJ6_getChars_ba4f3_0 rfl (lv_at hl 1 rfl) ?_
  refine lv_istore (lv' := [(5, .int (nI (n + (dig x).length))), (0, .int (nI x)), (1, .int (nI (n + (dig x).length))), (2, .ref r0)]) hx hb dJ6_getChars_ba4f3_1 hl (by decide) rfl (fun ls hl => ?_)
  refine lv_iload_n hx hb dJ6_getChars_ba4f3_3 rfl (lv_at hl 1 rfl) ?_
  refine lv_if_ge (tgt := 11) hx hb dJ6_getChars_ba4f3_4 (by decide) (fun _ => ?_) (fun c9 => absurd (nI_pos' (by omega)) c9)
  refine lv_iconst (v := nI 0) hx hb dJ6_getChars_ba4f3_11 (by decide) ?_
  refine lv_istore (lv' := [(6, .int (nI 0)), (5, .int (nI (n + (dig x).length))), (0, .int (nI x)), (1, .int (nI (n + (dig x).length))), (2, .ref r0)]) hx hb dJ6_getChars_ba4f3_12 hl (by decide) rfl (fun ls hl => ?_)
  refine lv_iload hx hb dJ6_getChars_ba4f3_14 (lv_at hl 0 rfl) ?_
  refine n_if_ne (tgt := 22) hx hb dJ6_getChars_ba4f3_16 (by decide) (by decide) (fun c9 => absurd c9 (by decide)) (fun _ => ?_)
  refine lv_iload_n hx hb dJ6_getChars_ba4f3_19 rfl (lv_at hl 2 rfl) ?_
  refine lv_ineg hx hb dJ6_getChars_ba4f3_20 ?_
  refine lv_istore_n (lv' := [(0, .int (-(nI x))), (6, .int (nI 0)), (5, .int (nI (n + (dig x).length))), (1, .int (nI (n + (dig x).length))), (2, .ref r0)]) hx hb dJ6_getChars_ba4f3_21 rfl hl (by decide) rfl (fun ls hl => ?_)
  refine lv_iload_n hx hb dJ6_getChars_ba4f3_22 rfl (lv_at hl 0 rfl) ?_
  refine lv_bipush (v := (-100)) hx hb dJ6_getChars_ba4f3_23 (by decide) ?_
  refine lv_icmp_gt (tgt := 72) hx hb dJ6_getChars_ba4f3_25 (by decide) (fun _ => ?_) (fun c9 => absurd (neg_gt100 hx100) c9)
  refine lv_aload_n hx hb dJ6_getChars_ba4f3_72 rfl (lv_at hl 4 rfl) ?_
  refine lv_iinc (k := 2) (lv' := [(5, .int (nI (n + (dig x).length - 1))), (0, .int (-(nI x))), (6, .int (nI 0)), (1, .int (nI (n + (dig x).length))), (2, .ref r0)]) hx hb dJ6_getChars_ba4f3_73 hl rfl (nI_m1 (by omega)) (by decide) rfl (fun ls hl => ?_)
  refine lv_iload hx hb dJ6_getChars_ba4f3_76 (lv_at hl 0 rfl) ?_
  refine va_gets hx hb hT.2.1 hS hown l_83 (fun _ h9 => h9) dJ6_getChars_ba4f3_78 ?_
  refine lv_iload_n hx hb dJ6_getChars_ba4f3_81 rfl (lv_at hl 1 rfl) ?_
  refine lv_ineg hx hb dJ6_getChars_ba4f3_82 ?_
  rw [neg_neg_nI]
  refine va_tb hx hb hT.2.2.2.1 hS (i := nI x) (vp_in_nI (by omega) (by decide)) (v := .int (nI (48 + x % 10))) (by rw [nI_clamp (by omega)]) dJ6_getChars_ba4f3_83 ?_
  have hL9 := dig_len_le x
  refine c_bast (n := 16) (i := n + (dig x).length - 1) hx hb hK hP hD hS 2 hR rfl (by omega) (by decide) (nar_byte (by omega)) dJ6_getChars_ba4f3_84 (fun H locs hP hD hS => ?_)
  have hm_1 := wup_eq (x := sba cb (upd (g) (n + (dig x).length - 1) (nI (48 + x % 10)))) hR
  refine lv_iload_n hx hb dJ6_getChars_ba4f3_85 rfl (lv_at hl 1 rfl) ?_
  refine lv_bipush (v := (-9)) hx hb dJ6_getChars_ba4f3_86 (by decide) ?_
  refine lv_icmp_ge (tgt := 104) hx hb dJ6_getChars_ba4f3_88 (by decide) (fun c_2 => ?_) (fun c_2 => ?_)
  · rw [neg_ge9 hx100] at c_2
    have hdl : (dig x).length = 1 := by rw [dig_len]; split <;> omega
    refine lv_iload hx hb dJ6_getChars_ba4f3_104 (lv_at hl 2 rfl) ?_
    refine n_if_eq (tgt := 118) hx hb dJ6_getChars_ba4f3_106 (by decide) (by decide) (fun _ => ?_) (fun c9 => absurd c9 (by decide))
    refine lv_iload hx hb dJ6_getChars_ba4f3_118 (lv_at hl 0 rfl) ?_
    have e2 : n + (dig x).length - 1 = n := by omega
    have e3 : upd (g) (n + (dig x).length - 1) (nI (48 + x % 10)) = putl g n (dig x) := by rw [e2, dig_1 (by omega), show x % 10 = x from Nat.mod_eq_of_lt (by omega)]; rfl
    rw [e3] at hP hD
    exact W.iret (v := nI (n + (dig x).length - 1)) hx hb hr (fun U9 ht hW9 => ⟨⟨_, (), rfl, congrArg nI e2, hD, by show va_P D vwCl _ U9.heap; rw [ht]; exact hP⟩, hS.F ht⟩) hS.2.2 dJ6_getChars_ba4f3_120
  · rw [neg_ge9 hx100] at c_2
    have hdl : (dig x).length = 2 := by rw [dig_len]; split <;> omega
    refine lv_aload_n hx hb dJ6_getChars_ba4f3_91 rfl (lv_at hl 4 rfl) ?_
    refine lv_iinc (k := 0) (lv' := [(5, .int (nI (n + (dig x).length - 1 - 1))), (0, .int (-(nI x))), (6, .int (nI 0)), (1, .int (nI (n + (dig x).length))), (2, .ref r0)]) hx hb dJ6_getChars_ba4f3_92 hl rfl (nI_m1 (by omega)) (by decide) rfl (fun ls hl => ?_)
    refine lv_iload hx hb dJ6_getChars_ba4f3_95 (lv_at hl 0 rfl) ?_
    refine va_gets hx hb hT.2.2.1 hS hown l_87 (fun _ h9 => h9) dJ6_getChars_ba4f3_97 ?_
    refine lv_iload_n hx hb dJ6_getChars_ba4f3_100 rfl (lv_at hl 1 rfl) ?_
    refine lv_ineg hx hb dJ6_getChars_ba4f3_101 ?_
    rw [neg_neg_nI]
    refine va_tb hx hb hT.2.2.2.2.1 hS (i := nI x) (vp_in_nI (by omega) (by decide)) (v := .int (nI (48 + x / 10))) (by rw [nI_clamp (by omega)]) dJ6_getChars_ba4f3_102 ?_
    refine c_bast (n := 16) (i := n + (dig x).length - 1 - 1) hx hb hK hP hD hS 2 hm_1 rfl (by omega) (by decide) (nar_byte (by omega)) dJ6_getChars_ba4f3_103 (fun H locs hP hD hS => ?_)
    have hm_3 := wup_eq (x := sba cb (upd (upd (g) (n + (dig x).length - 1) (nI (48 + x % 10))) (n + (dig x).length - 1 - 1) (nI (48 + x / 10)))) hm_1
    rw [wup_wup] at hP hD
    refine lv_iload hx hb dJ6_getChars_ba4f3_104 (lv_at hl 2 rfl) ?_
    refine n_if_eq (tgt := 118) hx hb dJ6_getChars_ba4f3_106 (by decide) (by decide) (fun _ => ?_) (fun c9 => absurd c9 (by decide))
    refine lv_iload hx hb dJ6_getChars_ba4f3_118 (lv_at hl 0 rfl) ?_
    have e1 : n + (dig x).length - 1 = n + 1 := by omega
    have e2 : n + (dig x).length - 1 - 1 = n := by omega
    have e3 : upd (upd (g) (n + (dig x).length - 1) (nI (48 + x % 10))) (n + (dig x).length - 1 - 1) (nI (48 + x / 10)) = putl g n (dig x) := by rw [e2, e1, dig_2 (by omega), upd_sw (by omega)]; rfl
    rw [e3] at hP hD
    exact W.iret (v := nI (n + (dig x).length - 1 - 1)) hx hb hr (fun U9 ht hW9 => ⟨⟨_, (), rfl, congrArg nI e2, hD, by show va_P D vwCl _ U9.heap; rw [ht]; exact hP⟩, hS.F ht⟩) hS.2.2 dJ6_getChars_ba4f3_120
set_option maxHeartbeats 4000000 in
set_option maxRecDepth 100000 in
theorem cs_appendI5 (l : Launch) (D : va_G) (cI cO cb : ClassId) (eA mi : Nat) (st : Nat → Nat) (dO dT : Nat) (vF : Value) {A : Nat → Prop} (ws : va_W) (hD : va_D A ws) (b0 r0 n : Nat) (g : Nat → Int32) (hB : (b0, sbo r0 n) ∈ ws) (hR : (r0, sba cb g) ∈ ws) (x : Nat) (hx100 : x < 100) (hn9 : n + (dig x).length ≤ 16) : Met l yJ5_append_c97b9 wsJ5_append_c97b9 ({ frames := 1, cells := 0, slots := 0, locals := 26 }) (va_Pc [.ref b0, .int (nI x)] (cT D cI cO cb eA mi st dO dT vF A ws)) (va_Qr (fun _ : Unit => True) (fun _ q U9 => q = b0 ∧ va_D A (wup (wup ws r0 (sba cb (putl g n (dig x)))) b0 (sbo r0 (n + (dig x).length))) ∧ va_P D vwCl (wup (wup ws r0 (sba cb (putl g n (dig x)))) b0 (sbo r0 (n + (dig x).length))) U9.heap) A) 0 0 A := by
  refine Met.ofW (cc := cJ5_append_c97b9) (maxL := 4) (ret := (some (.object "java/lang/AbstractStringBuilder"))) (by decide) rfl ?_
  intro p e s m args below meth c s₁ B hml hv
  obtain ⟨rfl, hP, hK, hG, hA⟩ := hv
  obtain ⟨hG, hT⟩ := hG
  have hx := B.exec
  have hb := B.bytes
  have hr := B.returns
  have hts := atoms_spec (ws := wsJ5_append_c97b9) B.pre
  have hown : s.vm.findClass RJ5 = some m.cls := findClass_of_methodNamed B.named
  have hlocks := B.notSynchronized
  have hin_J4 : ∀ w ∈ wsJ40, w ∈ wsJ5_append_c97b9 := fun w h => List.mem_cons_of_mem _ (List.mem_append_right _ h)
  have l_79 := (hts (.fieldLink RJ5 79 "java/lang/AbstractStringBuilder" "count" "I") (List.mem_of_getElem? (i := 1) rfl))
  have l_15 := (hts (.fieldLink RJ5 15 "java/lang/AbstractStringBuilder" "value" "[B") (List.mem_of_getElem? (i := 2) rfl))
  have hS : va_S A s.heap s.heap [] := va_S.rf
  have hD0 := hD
  have hl := lv_entry ([.ref b0, .int (nI x)]) (n := 4) (Nat.le_of_ble_eq_true rfl)
  rw [lg_entry_eq]
  generalize (lg_sl ([.ref b0, .int (nI x)]) ++ List.replicate (4 - (lg_sl ([.ref b0, .int (nI x)])).length) Slot.unset).toArray = ls at hl ⊢
  have hl : lv_has ls 4 [(0, .ref b0), (1, .int (nI x))] := hl
  refine lv_aload_n hx hb dJ5_append_c97b9_0 rfl (lv_at hl 0 rfl) ?_
  refine c_get (C := RJ4) (T := TJ4) (N := 4) hx hb hts hin_J4 hown hK hP hB rfl 3 (by decide) l_79 (fun _ h9 => h9) rfl dJ5_append_c97b9_1 ?_
  refine lv_istore_n (lv' := [(2, .int (nI n)), (0, .ref b0), (1, .int (nI x))]) hx hb dJ5_append_c97b9_4 rfl hl (by decide) rfl (fun ls hl => ?_)
  refine lv_iload_n hx hb dJ5_append_c97b9_5 rfl (lv_at hl 0 rfl) ?_
  refine lv_iload_n hx hb dJ5_append_c97b9_6 rfl (lv_at hl 2 rfl) ?_
  refine vp_callSi (W.runS (As := [.int (nI x)]) (rest := [.int (nI n)]) ⟨hx, hb, hml, hown, hts⟩ (cs_stringSize l x hx100) (va_cwS 1 hts gJ5_append_c97b9_J6_stringSize_0f7a4 rfl rfl rfl kd_J6_stringSize_0f7a4 ⟨Nat.le_of_ble_eq_true rfl, Nat.le_of_ble_eq_true rfl⟩) ⟨fun _ _ _ _ q => q, fun U hU hW => ⟨rfl, trivial⟩⟩ rfl rfl hl.1 rfl (lv_room (Nat.le_of_ble_eq_true rfl)) dJ5_append_c97b9_7 ⟨Nat.le_of_ble_eq_true rfl, Nat.le_of_ble_eq_true rfl⟩) (fun ri hri => ?_)
  subst hri
  refine n_iadd hx hb dJ5_append_c97b9_10 (z := n + (dig x).length) rfl ?_
  refine lv_istore_n (lv' := [(3, .int (nI (n + (dig x).length))), (2, .int (nI n)), (0, .ref b0), (1, .int (nI x))]) hx hb dJ5_append_c97b9_11 rfl hl (by decide) rfl (fun ls hl => ?_)
  refine lv_aload_n hx hb dJ5_append_c97b9_12 rfl (lv_at hl 2 rfl) ?_
  refine lv_iload_n hx hb dJ5_append_c97b9_13 rfl (lv_at hl 0 rfl) ?_
  refine va_callv (va_runU (As := [.int (nI (n + (dig x).length))]) (rest := []) ⟨hx, hb, hml, hown, hts⟩ (cs_ensure l D cI cO cb eA mi st dO dT vF ws hD b0 r0 n (n + (dig x).length) g hB hR (by omega)) (va_cwU 1 hts gJ5_append_c97b9_J5_ensureCapacityInternal_d00df_u100J4 rfl rfl rfl rfl (by decide +kernel) ⟨Nat.le_of_ble_eq_true rfl, Nat.le_of_ble_eq_true rfl⟩) ⟨cT_blind, c_recv hK hP rfl hB, cT_pre hK hG hT hA hS hP _⟩ rfl rfl hl.1 rfl (lv_room (Nat.le_of_ble_eq_true rfl)) dJ5_append_c97b9_14 ⟨Nat.le_of_ble_eq_true rfl, Nat.le_of_ble_eq_true rfl⟩) hS (fun _ _ h => h) (fun _ h => h) (fun u U8 H1 locs1 ht hvm hu hB9 hz1 hk1 hS1 => ?_)
  rw [ht] at hB9
  clear hS
  have hS := hS1
  replace hP := hB9
  generalize H1 = H at hP hS ⊢
  refine lv_aload_n hx hb dJ5_append_c97b9_17 rfl (lv_at hl 2 rfl) ?_
  refine va_calli (va_runU (As := []) (rest := []) ⟨hx, hb, hml, hown, hts⟩ (cs_isLatin1 l D cI cO cb eA mi st dO dT vF ws hD b0 r0 n hB) (va_cwU 0 hts gJ5_append_c97b9_J5_isLatin1_aae02_u83J4 rfl rfl rfl rfl (by decide +kernel) ⟨Nat.le_of_ble_eq_true rfl, Nat.le_of_ble_eq_true rfl⟩) ⟨cT_blind, c_recv hK hP rfl hB, cT_pre hK hG hT hA hS hP _⟩ rfl rfl hl.1 rfl (lv_room (Nat.le_of_ble_eq_true rfl)) dJ5_append_c97b9_18 ⟨Nat.le_of_ble_eq_true rfl, Nat.le_of_ble_eq_true rfl⟩) hS (fun _ _ h => h) (fun _ h => h) (fun ri u U8 H1 locs1 ht hvm hu hB9 hz1 hk1 hS1 => ?_)
  rw [ht] at hB9
  clear hS
  have hS := hS1
  replace hP := hB9
  generalize H1 = H at hP hS ⊢
  subst hu
  refine n_if_eq (tgt := 37) hx hb dJ5_append_c97b9_21 (by decide) (by decide) (fun c9 => absurd c9 (by decide)) (fun _ => ?_)
  refine lv_iload_n hx hb dJ5_append_c97b9_24 rfl (lv_at hl 3 rfl) ?_
  refine lv_iload_n hx hb dJ5_append_c97b9_25 rfl (lv_at hl 0 rfl) ?_
  refine lv_aload_n hx hb dJ5_append_c97b9_26 rfl (lv_at hl 2 rfl) ?_
  refine c_get (C := RJ4) (T := TJ4) (N := 4) hx hb hts hin_J4 hown hK hP hB rfl 0 (by decide) l_15 (fun _ h9 => h9) rfl dJ5_append_c97b9_27 ?_
  refine va_calli (va_runS (As := [.int (nI x), .int (nI (n + (dig x).length)), .ref r0]) (rest := []) ⟨hx, hb, hml, hown, hts⟩ (cs_getChars l D cI cO cb eA mi st dO dT vF ws hD r0 n g hR x hx100 hn9) (va_cwS 3 hts gJ5_append_c97b9_J6_getChars_ba4f3 rfl rfl rfl kd_J6_getChars_ba4f3 ⟨Nat.le_of_ble_eq_true rfl, Nat.le_of_ble_eq_true rfl⟩) ⟨cT_blind, cT_pre hK hG hT hA hS hP _⟩ rfl rfl hl.1 rfl (lv_room (Nat.le_of_ble_eq_true rfl)) dJ5_append_c97b9_30 ⟨Nat.le_of_ble_eq_true rfl, Nat.le_of_ble_eq_true rfl⟩) hS (fun _ _ h => h) (fun _ h => h) (fun ri u U8 H1 locs1 ht hvm hu hB9 hz1 hk1 hS1 => ?_)
  obtain ⟨hD1, hB9⟩ := hB9
  rw [ht] at hB9
  clear hS
  have hS := hS1
  replace hP := hB9
  replace hD := hD1
  generalize H1 = H at hP hS ⊢
  subst hu
  have hm_1 := wup_eq (x := sba cb (putl g n (dig x))) hR
  have hm_2 := wup_ne (x := sba cb (putl g n (dig x))) hB (w_ne hD0 hB hR (fun q9 => by cases q9))
  refine lv_pop hx hb dJ5_append_c97b9_33 rfl ?_
  refine lv_goto (tgt := 48) hx hb dJ5_append_c97b9_34 (by decide) ?_
  refine lv_aload_n hx hb dJ5_append_c97b9_48 rfl (lv_at hl 2 rfl) ?_
  refine lv_iload_n hx hb dJ5_append_c97b9_49 rfl (lv_at hl 0 rfl) ?_
  have hm_3 := wup_eq (x := .inr (0, [.ref r0, .int (nI 0), .int (nI 0), .int (nI (n + (dig x).length))])) hm_2
  have hm_4 := wup_ne (x := .inr (0, [.ref r0, .int (nI 0), .int (nI 0), .int (nI (n + (dig x).length))])) hm_1 (w_ne hD hm_1 hm_2 (fun q9 => by cases q9))
  refine c_put (C := RJ4) (T := TJ4) (N := 4) (v := .int (nI (n + (dig x).length))) (ty := .int) (fs2 := [.ref r0, .int (nI 0), .int (nI 0), .int (nI (n + (dig x).length))]) hx hb hts hin_J4 tyJ4 tyJ4_ok nmJ4 hown hK hP hD hS hm_2 rfl 3 (by decide) l_79 (fun _ h9 => h9) rfl (by decide +kernel) rfl rfl (Nat.le_of_ble_eq_true rfl) rfl dJ5_append_c97b9_50 (fun H locs hP hD hS => ?_)
  refine lv_aload_n hx hb dJ5_append_c97b9_53 rfl (lv_at hl 2 rfl) ?_
  exact W.aret hx hb hr (Or.inl ⟨_, rfl⟩) (Or.inr ⟨_, rfl⟩) (fun U9 ht hW9 => ⟨⟨(), b0, rfl, trivial, rfl, hD, by show va_P D vwCl _ U9.heap; rw [ht]; exact hP⟩, hS.F ht⟩) hS.2.2 dJ5_append_c97b9_54
set_option maxHeartbeats 4000000 in
set_option maxRecDepth 100000 in
theorem cs_appendI (l : Launch) (D : va_G) (cI cO cb : ClassId) (eA mi : Nat) (st : Nat → Nat) (dO dT : Nat) (vF : Value) {A : Nat → Prop} (ws : va_W) (hD : va_D A ws) (b0 r0 n : Nat) (g : Nat → Int32) (hB : (b0, sbo r0 n) ∈ ws) (hR : (r0, sba cb g) ∈ ws) (x : Nat) (hx100 : x < 100) (hn9 : n + (dig x).length ≤ 16) : Met l yJ4_append_bf812 wsJ4_append_bf812 ({ frames := 2, cells := 0, slots := 0, locals := 49 }) (va_Pc [.ref b0, .int (nI x)] (cT D cI cO cb eA mi st dO dT vF A ws)) (va_Qr (fun _ : Unit => True) (fun _ q U9 => q = b0 ∧ va_D A (wup (wup ws r0 (sba cb (putl g n (dig x)))) b0 (sbo r0 (n + (dig x).length))) ∧ va_P D vwCl (wup (wup ws r0 (sba cb (putl g n (dig x)))) b0 (sbo r0 (n + (dig x).length))) U9.heap) A) 0 0 A := by
  refine Met.ofW (cc := cJ4_append_bf812) (maxL := 2) (ret := (some (.object "java/lang/StringBuilder"))) (by decide) rfl ?_
  intro p e s m args below meth c s₁ B hml hv
  obtain ⟨rfl, hP, hK, hG, hA⟩ := hv
  obtain ⟨hG, hT⟩ := hG
  have hx := B.exec
  have hb := B.bytes
  have hr := B.returns
  have hts := atoms_spec (ws := wsJ4_append_bf812) B.pre
  have hown : s.vm.findClass RJ4 = some m.cls := findClass_of_methodNamed B.named
  have hlocks := B.notSynchronized
  have hS : va_S A s.heap s.heap [] := va_S.rf
  have hD0 := hD
  have hl := lv_entry ([.ref b0, .int (nI x)]) (n := 2) (Nat.le_of_ble_eq_true rfl)
  rw [lg_entry_eq]
  generalize (lg_sl ([.ref b0, .int (nI x)]) ++ List.replicate (2 - (lg_sl ([.ref b0, .int (nI x)])).length) Slot.unset).toArray = ls at hl ⊢
  have hl : lv_has ls 2 [(0, .ref b0), (1, .int (nI x))] := hl
  refine lv_aload_n hx hb dJ4_append_bf812_0 rfl (lv_at hl 0 rfl) ?_
  refine lv_iload_n hx hb dJ4_append_bf812_1 rfl (lv_at hl 1 rfl) ?_
  refine va_callr (va_runSU (C := RJ4) (cC := D.1 0) (hK.1 0 _ rfl).2 (As := [.int (nI x)]) (rest := []) ⟨hx, hb, hml, hown, hts⟩ (cs_appendI5 l D cI cO cb eA mi st dO dT vF ws hD b0 r0 n g hB hR x hx100 hn9) (va_cwSU 1 hts gJ4_append_bf812_J5_append_c97b9_s53 rfl rfl rfl (by decide +kernel) ⟨Nat.le_of_ble_eq_true rfl, Nat.le_of_ble_eq_true rfl⟩) ⟨cT_blind, c_recv hK hP rfl hB, cT_pre hK hG hT hA hS hP _⟩ rfl rfl hl.1 rfl (lv_room (Nat.le_of_ble_eq_true rfl)) dJ4_append_bf812_2 ⟨Nat.le_of_ble_eq_true rfl, Nat.le_of_ble_eq_true rfl⟩) hS (fun _ _ h => h) (fun _ h => h) (fun u ra U8 H1 locs1 ht hvm hu hB9 hz1 hk1 hS1 => ?_)
  obtain ⟨hra, hD1, hB9⟩ := hB9
  rw [hra]
  rw [ht] at hB9
  clear hS
  have hS := hS1
  replace hP := hB9
  replace hD := hD1
  generalize H1 = H at hP hS ⊢
  refine lv_pop hx hb dJ4_append_bf812_5 rfl ?_
  refine lv_aload_n hx hb dJ4_append_bf812_6 rfl (lv_at hl 0 rfl) ?_
  exact W.aret hx hb hr (Or.inl ⟨_, rfl⟩) (Or.inr ⟨_, rfl⟩) (fun U9 ht hW9 => ⟨⟨(), b0, rfl, trivial, rfl, hD, by show va_P D vwCl _ U9.heap; rw [ht]; exact hP⟩, hS.F ht⟩) hS.2.2 dJ4_append_bf812_7
set_option maxHeartbeats 4000000 in
set_option maxRecDepth 100000 in
theorem cs_length5 (l : Launch) (D : va_G) (cI cO cb : ClassId) (eA mi : Nat) (st : Nat → Nat) (dO dT : Nat) (vF : Value) {A : Nat → Prop} (ws : va_W) (hD : va_D A ws) (b0 r0 n : Nat) (g : Nat → Int32) (hB : (b0, sbo r0 n) ∈ ws) (hR : (r0, sba cb g) ∈ ws) : Met l yJ5_length_8abf5 wsJ5_length_8abf5 ({ frames := 0, cells := 0, slots := 0, locals := 0 }) (va_Pc [.ref b0] (cT D cI cO cb eA mi st dO dT vF A ws)) (va_Qi (fun (ri : Int32) (_ : Unit) => ri = nI n) (fun _ U9 => va_P D vwCl ws U9.heap) A) 0 0 A := by
  refine Met.ofW (cc := cJ5_length_8abf5) (maxL := 1) (ret := (some .int)) (by decide) rfl ?_
  intro p e s m args below meth c s₁ B hml hv
  obtain ⟨rfl, hP, hK, hG, hA⟩ := hv
  obtain ⟨hG, hT⟩ := hG
  have hx := B.exec
  have hb := B.bytes
  have hr := B.returns
  have hts := atoms_spec (ws := wsJ5_length_8abf5) B.pre
  have hown : s.vm.findClass RJ5 = some m.cls := findClass_of_methodNamed B.named
  have hlocks := B.notSynchronized
  have hin_J4 : ∀ w ∈ wsJ40, w ∈ wsJ5_length_8abf5 := fun w h => List.mem_cons_of_mem _ (List.mem_append_right _ h)
  have l_79 := (hts (.fieldLink RJ5 79 "java/lang/AbstractStringBuilder" "count" "I") (List.mem_of_getElem? (i := 1) rfl))
  have hS : va_S A s.heap s.heap [] := va_S.rf
  have hD0 := hD
  have hl := lv_entry ([.ref b0]) (n := 1) (Nat.le_of_ble_eq_true rfl)
  rw [lg_entry_eq]
  generalize (lg_sl ([.ref b0]) ++ List.replicate (1 - (lg_sl ([.ref b0])).length) Slot.unset).toArray = ls at hl ⊢
  have hl : lv_has ls 1 [(0, .ref b0)] := hl
  refine lv_aload_n hx hb dJ5_length_8abf5_0 rfl (lv_at hl 0 rfl) ?_
  refine c_get (C := RJ4) (T := TJ4) (N := 4) hx hb hts hin_J4 hown hK hP hB rfl 3 (by decide) l_79 (fun _ h9 => h9) rfl dJ5_length_8abf5_1 ?_
  exact W.iret (v := nI n) hx hb hr (fun U9 ht hW9 => ⟨⟨_, (), rfl, rfl, by show va_P D vwCl _ U9.heap; rw [ht]; exact hP⟩, hS.F ht⟩) hS.2.2 dJ5_length_8abf5_4
set_option maxHeartbeats 4000000 in
set_option maxRecDepth 100000 in
theorem cs_length (l : Launch) (D : va_G) (cI cO cb : ClassId) (eA mi : Nat) (st : Nat → Nat) (dO dT : Nat) (vF : Value) {A : Nat → Prop} (ws : va_W) (hD : va_D A ws) (b0 r0 n : Nat) (g : Nat → Int32) (hB : (b0, sbo r0 n) ∈ ws) (hR : (r0, sba cb g) ∈ ws) : Met l yJ4_length_8abf5 wsJ4_length_8abf5 ({ frames := 1, cells := 0, slots := 0, locals := 20 }) (va_Pc [.ref b0] (cT D cI cO cb eA mi st dO dT vF A ws)) (va_Qi (fun (ri : Int32) (_ : Unit) => ri = nI n) (fun _ U9 => va_P D vwCl ws U9.heap) A) 0 0 A := by
  refine Met.ofW (cc := cJ4_length_8abf5) (maxL := 1) (ret := (some .int)) (by decide) rfl ?_
  intro p e s m args below meth c s₁ B hml hv
  obtain ⟨rfl, hP, hK, hG, hA⟩ := hv
  obtain ⟨hG, hT⟩ := hG
  have hx := B.exec
  have hb := B.bytes
  have hr := B.returns
  have hts := atoms_spec (ws := wsJ4_length_8abf5) B.pre
  have hown : s.vm.findClass RJ4 = some m.cls := findClass_of_methodNamed B.named
  have hlocks := B.notSynchronized
  have hS : va_S A s.heap s.heap [] := va_S.rf
  have hD0 := hD
  have hl := lv_entry ([.ref b0]) (n := 1) (Nat.le_of_ble_eq_true rfl)
  rw [lg_entry_eq]
  generalize (lg_sl ([.ref b0]) ++ List.replicate (1 - (lg_sl ([.ref b0])).length) Slot.unset).toArray = ls at hl ⊢
  have hl : lv_has ls 1 [(0, .ref b0)] := hl
  refine lv_aload_n hx hb dJ4_length_8abf5_0 rfl (lv_at hl 0 rfl) ?_
  refine va_calli (va_runSU (C := RJ4) (cC := D.1 0) (hK.1 0 _ rfl).2 (As := []) (rest := []) ⟨hx, hb, hml, hown, hts⟩ (cs_length5 l D cI cO cb eA mi st dO dT vF ws hD b0 r0 n g hB hR) (va_cwSU 0 hts gJ4_length_8abf5_J5_length_8abf5_s343 rfl rfl rfl (by decide +kernel) ⟨Nat.le_of_ble_eq_true rfl, Nat.le_of_ble_eq_true rfl⟩) ⟨cT_blind, c_recv hK hP rfl hB, cT_pre hK hG hT hA hS hP _⟩ rfl rfl hl.1 rfl (lv_room (Nat.le_of_ble_eq_true rfl)) dJ4_length_8abf5_1 ⟨Nat.le_of_ble_eq_true rfl, Nat.le_of_ble_eq_true rfl⟩) hS (fun _ _ h => h) (fun _ h => h) (fun ri u U8 H1 locs1 ht hvm hu hB9 hz1 hk1 hS1 => ?_)
  rw [ht] at hB9
  clear hS
  have hS := hS1
  replace hP := hB9
  generalize H1 = H at hP hS ⊢
  subst hu
  exact W.iret (v := nI n) hx hb hr (fun U9 ht hW9 => ⟨⟨_, (), rfl, rfl, by show va_P D vwCl _ U9.heap; rw [ht]; exact hP⟩, hS.F ht⟩) hS.2.2 dJ4_length_8abf5_4
set_option maxHeartbeats 4000000 in
set_option maxRecDepth 100000 in
theorem cs_init5 (l : Launch) (D : va_G) (cI cO cb : ClassId) (eA mi : Nat) (st : Nat → Nat) (dO dT : Nat) (vF : Value) {A : Nat → Prop} (ws : va_W) (hD : va_D A ws) (b0 : Nat) (hB : (b0, .inr (0, [.null, .int (nI 0), .int (nI 0), .int (nI 0)])) ∈ ws) : Met l yJ5_init_d00df wsJ5_init_d00df ({ frames := 1, cells := 1, slots := 16, locals := 12 }) (va_Pc [.ref b0, .int (nI 16)] (cT D cI cO cb eA mi st dO dT vF A ws)) (va_Qv (fun _ : Nat => True) (fun u U9 => va_D A ((wup ws b0 (sbo u 0)) ++ [(u, sba cb (fun _ => 0))]) ∧ va_P D vwCl ((wup ws b0 (sbo u 0)) ++ [(u, sba cb (fun _ => 0))]) U9.heap) A) 1 16 A := by
  refine Met.ofW (cc := cJ5_init_d00df) (maxL := 2) (ret := none) (by decide) rfl ?_
  intro p e s m args below meth c s₁ B hml hv
  obtain ⟨rfl, hP, hK, hG, hA⟩ := hv
  obtain ⟨hG, hT⟩ := hG
  have hx := B.exec
  have hb := B.bytes
  have hr := B.returns
  have hts := atoms_spec (ws := wsJ5_init_d00df) B.pre
  have hown : s.vm.findClass RJ5 = some m.cls := findClass_of_methodNamed B.named
  have hlocks := B.notSynchronized
  have hin2 : meth.name = "<init>" := (name_of_methodNamed B.named B.method).1
  have hin_J4 : ∀ w ∈ wsJ40, w ∈ wsJ5_init_d00df := fun w h => List.mem_cons_of_mem _ (List.mem_append_right _ h)
  have l_18 := (hts (.fieldLink RJ5 18 "java/lang/String" "COMPACT_STRINGS" "Z") (List.mem_of_getElem? (i := 4) rfl))
  have l_15 := (hts (.fieldLink RJ5 15 "java/lang/AbstractStringBuilder" "value" "[B") (List.mem_of_getElem? (i := 6) rfl))
  have l_22 := (hts (.fieldLink RJ5 22 "java/lang/AbstractStringBuilder" "coder" "B") (List.mem_of_getElem? (i := 7) rfl))
  have hS : va_S A s.heap s.heap [] := va_S.rf
  have hD0 := hD
  have hl := lv_entry ([.ref b0, .int (nI 16)]) (n := 2) (Nat.le_of_ble_eq_true rfl)
  rw [lg_entry_eq]
  generalize (lg_sl ([.ref b0, .int (nI 16)]) ++ List.replicate (2 - (lg_sl ([.ref b0, .int (nI 16)])).length) Slot.unset).toArray = ls at hl ⊢
  have hl : lv_has ls 2 [(0, .ref b0), (1, .int (nI 16))] := hl
  refine lv_aload_n hx hb dJ5_init_d00df_0 rfl (lv_at hl 0 rfl) ?_
  refine W.objInit hx hb hown (hts (.methodLink RJ5 3 objectInit) (List.mem_of_getElem? (i := 1) rfl)) (hts (.instanceMethod objectInit) (List.mem_of_getElem? (i := 2) rfl)) (hts (.code objectInit ⟨#[0xb1]⟩ 1 none) (List.mem_of_getElem? (i := 3) rfl)) rfl (hl.1.trans hml.symm) rfl dJ5_init_d00df_1 (Nat.le_of_ble_eq_true rfl) (Nat.le_of_ble_eq_true rfl) ?_
  show W _ _ _ _ _ _ _ _ _ _ _ _ _ _ _ (F0 _ 4 _ [])
  refine va_gets hx hb hT.1 hS hown l_18 (fun _ h9 => h9) dJ5_init_d00df_4 ?_
  refine n_if_eq (tgt := 25) hx hb dJ5_init_d00df_7 (by decide) (by decide) (fun c9 => absurd c9 (by decide)) (fun _ => ?_)
  refine lv_aload_n hx hb dJ5_init_d00df_10 rfl (lv_at hl 0 rfl) ?_
  refine lv_iload_n hx hb dJ5_init_d00df_11 rfl (lv_at hl 1 rfl) ?_
  refine c_newb hx hb (hts (.arrayClass .byte) (List.mem_of_getElem? (i := 5) rfl)) (t0 := 2) hK rfl hP hD hS hA (n := 16) (by decide) (Nat.le_of_ble_eq_true rfl) (Nat.le_of_ble_eq_true rfl) dJ5_init_d00df_12 (fun r0 H hP hD hS => ?_)
  have hne9 : b0 ≠ r0 := w_new hD hB
  have hm9 : (b0, .inr (0, [.null, .int (nI 0), .int (nI 0), .int (nI 0)])) ∈ ws ++ [(r0, .inl (cb, 16, .inl (fun _ => 0)))] := List.mem_append_left _ hB
  refine c_put (C := RJ4) (T := TJ4) (N := 4) (v := .ref r0) (ty := (.array .byte)) (fs2 := [.ref r0, .int (nI 0), .int (nI 0), .int (nI 0)]) hx hb hts hin_J4 tyJ4 tyJ4_ok nmJ4 hown hK hP hD hS hm9 rfl 0 (by decide) l_15 (fun _ h9 => h9) rfl (by decide +kernel) rfl rfl (Nat.le_of_ble_eq_true rfl) rfl dJ5_init_d00df_14 (fun H locs hP hD hS => ?_)
  rw [wup_snoc hne9] at hP hD
  have hm8 : (b0, sbo r0 0) ∈ ((wup ws b0 (sbo r0 0)) ++ [(r0, sba cb (fun _ => 0))]) := List.mem_append_left _ (wup_eq hB)
  refine lv_aload_n hx hb dJ5_init_d00df_17 rfl (lv_at hl 0 rfl) ?_
  refine lv_iconst (v := nI 0) hx hb dJ5_init_d00df_18 (by decide) ?_
  refine c_put (C := RJ4) (T := TJ4) (N := 4) (v := .int (nI 0)) (ty := .byte) (fs2 := [.ref r0, .int (nI 0), .int (nI 0), .int (nI 0)]) hx hb hts hin_J4 tyJ4 tyJ4_ok nmJ4 hown hK hP hD hS hm8 rfl 1 (by decide) l_22 (fun _ h9 => h9) rfl (by decide +kernel) rfl rfl (Nat.le_of_ble_eq_true rfl) rfl dJ5_init_d00df_19 (fun H locs hP hD hS => ?_)
  rw [wup_snoc hne9, wup_wup] at hP hD
  refine lv_goto (tgt := 38) hx hb dJ5_init_d00df_22 (by decide) ?_
  exact W.vret hx hb hr (fun U9 ht hW9 => ⟨⟨r0, rfl, trivial, hD, by show va_P D vwCl _ U9.heap; rw [ht]; exact hP⟩, hS.F ht⟩) hS.2.2 dJ5_init_d00df_38
set_option maxHeartbeats 4000000 in
set_option maxRecDepth 100000 in
theorem cs_init (l : Launch) (D : va_G) (cI cO cb : ClassId) (eA mi : Nat) (st : Nat → Nat) (dO dT : Nat) (vF : Value) {A : Nat → Prop} (ws : va_W) (hD : va_D A ws) (b0 : Nat) (hB : (b0, .inr (0, [.null, .int (nI 0), .int (nI 0), .int (nI 0)])) ∈ ws) : Met l yJ4_init_da8c8 wsJ4_init_da8c8 ({ frames := 2, cells := 1, slots := 16, locals := 33 }) (va_Pc [.ref b0] (cT D cI cO cb eA mi st dO dT vF A ws)) (va_Qv (fun _ : Nat => True) (fun u U9 => va_D A ((wup ws b0 (sbo u 0)) ++ [(u, sba cb (fun _ => 0))]) ∧ va_P D vwCl ((wup ws b0 (sbo u 0)) ++ [(u, sba cb (fun _ => 0))]) U9.heap) A) 1 16 A := by
  refine Met.ofW (cc := cJ4_init_da8c8) (maxL := 1) (ret := none) (by decide) rfl ?_
  intro p e s m args below meth c s₁ B hml hv
  obtain ⟨rfl, hP, hK, hG, hA⟩ := hv
  obtain ⟨hG, hT⟩ := hG
  have hx := B.exec
  have hb := B.bytes
  have hr := B.returns
  have hts := atoms_spec (ws := wsJ4_init_da8c8) B.pre
  have hown : s.vm.findClass RJ4 = some m.cls := findClass_of_methodNamed B.named
  have hlocks := B.notSynchronized
  have hin2 : meth.name = "<init>" := (name_of_methodNamed B.named B.method).1
  have hS : va_S A s.heap s.heap [] := va_S.rf
  have hD0 := hD
  have hl := lv_entry ([.ref b0]) (n := 1) (Nat.le_of_ble_eq_true rfl)
  rw [lg_entry_eq]
  generalize (lg_sl ([.ref b0]) ++ List.replicate (1 - (lg_sl ([.ref b0])).length) Slot.unset).toArray = ls at hl ⊢
  have hl : lv_has ls 1 [(0, .ref b0)] := hl
  refine lv_aload_n hx hb dJ4_init_da8c8_0 rfl (lv_at hl 0 rfl) ?_
  refine lv_bipush (v := nI 16) hx hb dJ4_init_da8c8_1 (by decide) ?_
  refine va_callv (va_runI (As := [.int (nI 16)]) (rest := []) ⟨hx, hb, hml, hown, hts⟩ (cs_init5 l D cI cO cb eA mi st dO dT vF ws hD b0 hB) (cwI 1 hts ggJ4_init_da8c8_J5_init_d00df rfl rfl rfl (hts (.initialized RJ5) (List.mem_of_getElem? (i := 3) rfl)) (hts (.methodLink RJ4 1 yJ5_init_d00df) (List.mem_of_getElem? (i := 1) rfl)) (hts (.instanceMethod yJ5_init_d00df) (List.mem_of_getElem? (i := 2) rfl)) rfl kd_J5_init_d00df ⟨Nat.le_of_ble_eq_true rfl, Nat.le_of_ble_eq_true rfl⟩) ⟨cT_blind, cT_pre hK hG hT hA hS hP _⟩ rfl rfl hl.1 rfl (lv_room (Nat.le_of_ble_eq_true rfl)) dJ4_init_da8c8_3 ⟨Nat.le_of_ble_eq_true rfl, Nat.le_of_ble_eq_true rfl⟩) hS (fun _ _ h => h) (fun _ h => h) (fun r0 U8 H1 locs1 ht hvm hu hB9 hz1 hk1 hS1 => ?_)
  obtain ⟨hD1, hB9⟩ := hB9
  rw [ht] at hB9
  clear hS
  have hS := hS1
  replace hP := hB9
  replace hD := hD1
  generalize H1 = H at hP hS ⊢
  exact W.vret hx hb hr (fun U9 ht hW9 => ⟨⟨r0, rfl, trivial, hD, by show va_P D vwCl _ U9.heap; rw [ht]; exact hP⟩, hS.F ht⟩) hS.2.2 dJ4_init_da8c8_6
