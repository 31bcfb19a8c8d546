/-! the class: an award to the best bid -/
def pBest (cI cO : ClassId) (eA : Nat) (st own kd : Nat → Nat) (F : Nat → Nat → Nat) (L : Nat → List Nat) (A : Nat → Prop) (h a : Nat) (ri : Int32) (u : va_W × (Nat → Nat) × Nat) : Prop := match kPlace F L a (nI 0) with
  | none => ri = -1 ∧ CW cI cO eA st own kd F L u.1 ∧ WF kd F L ∧ va_D A u.1
  | some o => ri = nI (L (F 2 h)).length ∧ CW cI cO eA st u.2.1 (kdN kd u.2.2 2) (FN F u.2.2 [(L (F 2 h)).length, a, o, F 5 h + F 4 (F 0 a), 0, 0, 0]) (upL L (F 2 h) (L (F 2 h) ++ [u.2.2])) u.1 ∧ WF (kdN kd u.2.2 2) (FN F u.2.2 [(L (F 2 h)).length, a, o, F 5 h + F 4 (F 0 a), 0, 0, 0]) (upL L (F 2 h) (L (F 2 h) ++ [u.2.2])) ∧ kd u.2.2 = 0 ∧ va_D A u.1
set_option maxHeartbeats 4000000 in
set_option maxRecDepth 100000 in
theorem cv_awardToBest (l : Launch) (D : va_G) (cI cO cb : ClassId) (eA mi : Nat) (st : Nat → Nat) {A : Nat → Prop} (ws : va_W) (hD : va_D A ws) {own kd : Nat → Nat} {F : Nat → Nat → Nat} {L : Nat → List Nat} (hC : CW cI cO eA st own kd F L ws) (hW : WF kd F L) (hs : sInj st)  (h : Nat) (hk_h : kd h = 9) (a : Nat) (hk_a : kd a = 7) (hlen : (L (F 2 h)).length < 60) : Met l yX8_awardToBest wsX8_awardToBest ({ frames := 7, cells := 2, slots := 103, locals := 191 }) (va_Pc [.ref h, .ref a] (cB D cI cO cb eA mi st A ws)) (va_Qi (fun (ri : Int32) (u : va_W × (Nat → Nat) × Nat) => pBest cI cO eA st own kd F L A h a ri u) (fun u U9 => va_P D vwCl u.1 U9.heap) A) 2 103 A := by
  refine Met.ofW (cc := cX8_awardToBest) (maxL := 4) (ret := (some .int)) (by decide) rfl ?_
  intro p e s m args below meth c s₁ B hml hv
  obtain ⟨rfl, hP, hK, hG, hA⟩ := hv
  have hx := B.exec
  have hb := B.bytes
  have hr := B.returns
  have hts := atoms_spec (ws := wsX8_awardToBest) B.pre
  have hown : s.vm.findClass RX8 = some m.cls := findClass_of_methodNamed B.named
  have hlocks := B.notSynchronized
  have hin_X0 : ∀ w ∈ wsX00, w ∈ wsX8_awardToBest := fun w h => List.mem_cons_of_mem _ (List.mem_append_left _ (List.mem_append_left _ (List.mem_append_left _ (List.mem_append_left _ (List.mem_append_right _ h)))))
  have hin_X5 : ∀ w ∈ wsX50, w ∈ wsX8_awardToBest := fun w h => List.mem_cons_of_mem _ (List.mem_append_left _ (List.mem_append_left _ (List.mem_append_left _ (List.mem_append_right _ h))))
  have hin_X7 : ∀ w ∈ wsX70, w ∈ wsX8_awardToBest := fun w h => List.mem_cons_of_mem _ (List.mem_append_left _ (List.mem_append_left _ (List.mem_append_right _ h)))
  have hin_X8 : ∀ w ∈ wsX80, w ∈ wsX8_awardToBest := fun w h => List.mem_cons_of_mem _ (List.mem_append_left _ (List.mem_append_left _ (List.mem_append_left _ (List.mem_append_left _ (List.mem_append_left _ (List.mem_append_right _ h))))))
  have l_20 := (hts (.fieldLink RX8 20 "TenderHall" "awards" "Ljava/util/ArrayList;") (List.mem_of_getElem? (i := 1) rfl))
  have l_29 := (hts (.fieldLink RX8 29 "TenderHall" "day" "I") (List.mem_of_getElem? (i := 5) rfl))
  have l_88 := (hts (.fieldLink RX8 88 "TenderHall$Lot" "tender" "LTenderHall$Tender;") (List.mem_of_getElem? (i := 6) rfl))
  have l_280 := (hts (.fieldLink RX8 280 "TenderHall$Tender" "standing" "I") (List.mem_of_getElem? (i := 7) rfl))
  have hS : va_S A s.heap s.heap [] := va_S.rf
  have hD0 := hD
  have hl := lv_entry ([.ref h, .ref a]) (n := 4) (Nat.le_of_ble_eq_true rfl)
  rw [lg_entry_eq]
  generalize (lg_sl ([.ref h, .ref a]) ++ List.replicate (4 - (lg_sl ([.ref h, .ref a])).length) Slot.unset).toArray = ls at hl ⊢
  have hl : lv_has ls 4 [(0, .ref h), (1, .ref a)] := hl
  refine lv_aload_n hx hb dX8_awardToBest_0 rfl (lv_at hl 1 rfl) ?_
  refine lv_iconst (v := nI 0) hx hb dX8_awardToBest_1 (by decide) ?_
  have hm_1 : (a, .inr (7, [.ref (F 0 a), .int (nI (F 1 a)), .int (nI (F 2 a)), .ref (F 3 a), .ref (F 4 a)])) ∈ ws := hC.at hk_a (by decide) (by decide)
  refine va_csq (W.runV (As := [.int (nI 0)]) (rest := []) ⟨hx, hb, hml, hown, hts⟩ (ck_bidAtPlace l D cI cO cb eA mi st ws hD hC hW hs a hk_a (nI 0)) (cwV 1 hts gX8_awardToBest_X5_bidAtPlace rfl rfl rfl kd_X5_bidAtPlace ⟨Nat.le_of_ble_eq_true rfl, Nat.le_of_ble_eq_true rfl⟩) ⟨cB_blind, c_recv hK hP rfl hm_1, cB_pre hK hG hA hS hP _⟩ rfl rfl hl.1 rfl (lv_room (Nat.le_of_ble_eq_true rfl)) dX8_awardToBest_2 ⟨Nat.le_of_ble_eq_true rfl, Nat.le_of_ble_eq_true rfl⟩) (fun r_2 hr_2 => ?_)
  subst hr_2
  rcases ho_3 : kPlace F L a (nI 0) with _ | o_3
  · show W _ _ _ _ _ _ _ _ _ _ _ _ _ _ _ (F0 _ _ _ (.null :: _))
    refine lv_astore_nN (lv' := [(2, .null), (0, .ref h), (1, .ref a)]) hx hb dX8_awardToBest_5 rfl hl (by decide) rfl (fun ls hl => ?_)
    refine lv_aload_nN hx hb dX8_awardToBest_6 rfl (lv_at hl 0 rfl) ?_
    refine lv_ifnonnullN hx hb dX8_awardToBest_7 ?_
    refine lv_iconst (v := (-1)) hx hb dX8_awardToBest_10 (by decide) ?_
    refine W.widen (k := 2) (n := 103) (by omega) (by omega) ?_
    exact W.iret (v := (-1)) hx hb hr (fun U9 ht hW9 => ⟨⟨_, (ws, own, 0), rfl, by unfold pBest; rw [ho_3]; exact ⟨rfl, hC, hW, hD⟩, by show va_P D vwCl _ U9.heap; rw [ht]; exact hP⟩, hS.F ht⟩) hS.2.2 dX8_awardToBest_11
  · show W _ _ _ _ _ _ _ _ _ _ _ _ _ _ _ (F0 _ _ _ (.ref o_3 :: _))
    have hk_4 : kd o_3 = 3 := kPlace_kd hW hk_a ho_3
    refine lv_astore_n (lv' := [(2, .ref o_3), (0, .ref h), (1, .ref a)]) hx hb dX8_awardToBest_5 rfl hl (by decide) rfl (fun ls hl => ?_)
    refine lv_aload_n hx hb dX8_awardToBest_6 rfl (lv_at hl 0 rfl) ?_
    refine lv_ifnonnull (tgt := 12) hx hb dX8_awardToBest_7 (by decide) ?_
    refine lv_aload_n hx hb dX8_awardToBest_12 rfl (lv_at hl 1 rfl) ?_
    have hm_5 : (h, .inr (9, [.ref (F 0 h), .ref (F 1 h), .ref (F 2 h), .ref (F 3 h), .ref (F 4 h), .int (nI (F 5 h))])) ∈ ws := hC.at hk_h (by decide) (by decide)
    refine c_get (C := RX8) (T := TX8) (N := 6) hx hb hts hin_X8 hown hK hP hm_5 rfl 2 (by decide) l_20 (fun _ h9 => h9) rfl dX8_awardToBest_13 ?_
    have hk_6 : kd (F 2 h) = 22 := hW.ref (f := 2) hk_h rfl (by decide)
    have hl_7 : (L (F 2 h)).length ≤ 60 := hW.len hk_6 (by decide)
    obtain ⟨fs_hm_8, hm_8⟩ := hC.obj hk_6 (by decide)
    refine vp_callSi (W.runV (As := []) (rest := []) ⟨hx, hb, hml, hown, hts⟩ ((cl_size l D cI cO cb eA mi st ws hD (F 2 h) (L (F 2 h)) (hC.lst hk_6 (by decide)))) (cwV 0 hts gX8_awardToBest_Jx4a65c_size_8abf5 rfl rfl rfl kd_Jx4a65c_size_8abf5 ⟨Nat.le_of_ble_eq_true rfl, Nat.le_of_ble_eq_true rfl⟩) ⟨cB_blind, c_recv hK hP rfl hm_8, cB_pre hK hG hA hS hP _⟩ rfl rfl hl.1 rfl (lv_room (Nat.le_of_ble_eq_true rfl)) dX8_awardToBest_16 ⟨Nat.le_of_ble_eq_true rfl, Nat.le_of_ble_eq_true rfl⟩) (fun r_9 hr_9 => ?_)
    subst hr_9
    refine lv_istore_n (lv' := [(3, .int (nI ((L (F 2 h)).length))), (2, .ref o_3), (0, .ref h), (1, .ref a)]) hx hb dX8_awardToBest_19 rfl hl (by decide) rfl (fun ls hl => ?_)
    refine lv_aload_n hx hb dX8_awardToBest_20 rfl (lv_at hl 2 rfl) ?_
    refine c_get (C := RX8) (T := TX8) (N := 6) hx hb hts hin_X8 hown hK hP hm_5 rfl 2 (by decide) l_20 (fun _ h9 => h9) rfl dX8_awardToBest_21 ?_
    have hC0 := hC
    refine va_new (ci := 2) (fs := [.int (nI 0), .null, .null, .int (nI 0), .int (nI 0), .int (nI 0), .int (nI 0)]) hx hb hts hin_X0 tyX0 tyX0_ok hown (hts (.classLink RX8 144 RX0) (List.mem_of_getElem? (i := 2) rfl)) (hts (.instantiable RX0 7) (List.mem_of_getElem? (i := 3) rfl)) (hts (.initialized RX0) (List.mem_of_getElem? (i := 4) rfl)) hK hP hD hS hA rfl (fun j9 h9 => by rcases j9 with _ | _ | _ | _ | _ | _ | _ | j9 <;> first | rfl | omega) (Nat.le_of_ble_eq_true rfl) (Nat.le_of_ble_eq_true rfl) dX8_awardToBest_24 (fun q H hP hD hS => ?_)
    have hq0 := hC0.fresh hD
    have hC := hC0.app (ws2 := [(q, .inr (2, [.int (nI 0), .null, .null, .int (nI 0), .int (nI 0), .int (nI 0), .int (nI 0)]))])
    have hq1 : (q, .inr (2, [.int (nI 0), .null, .null, .int (nI 0), .int (nI 0), .int (nI 0), .int (nI 0)])) ∈ (ws ++ [(q, .inr (2, [.int (nI 0), .null, .null, .int (nI 0), .int (nI 0), .int (nI 0), .int (nI 0)]))]) := List.mem_append_right _ (List.mem_singleton.mpr rfl)
    refine lv_dup hx hb dX8_awardToBest_27 rfl ?_
    refine lv_iload_n hx hb dX8_awardToBest_28 rfl (lv_at hl 0 rfl) ?_
    refine lv_aload_n hx hb dX8_awardToBest_29 rfl (lv_at hl 3 rfl) ?_
    refine lv_aload_n hx hb dX8_awardToBest_30 rfl (lv_at hl 1 rfl) ?_
    refine lv_aload_n hx hb dX8_awardToBest_31 rfl (lv_at hl 2 rfl) ?_
    have hm_10 : (h, .inr (9, [.ref (F 0 h), .ref (F 1 h), .ref (F 2 h), .ref (F 3 h), .ref (F 4 h), .int (nI (F 5 h))])) ∈ (ws ++ [(q, .inr (2, [.int (nI 0), .null, .null, .int (nI 0), .int (nI 0), .int (nI 0), .int (nI 0)]))]) := hC.at hk_h (by decide) (by decide)
    refine c_get (C := RX8) (T := TX8) (N := 6) hx hb hts hin_X8 hown hK hP hm_10 rfl 5 (by decide) l_29 (fun _ h9 => h9) rfl dX8_awardToBest_32 ?_
    have hn_11 : F 5 h < 2001 := hW.num (f := 5) hk_h rfl (by decide)
    refine lv_aload_n hx hb dX8_awardToBest_35 rfl (lv_at hl 3 rfl) ?_
    have hm_12 : (a, .inr (7, [.ref (F 0 a), .int (nI (F 1 a)), .int (nI (F 2 a)), .ref (F 3 a), .ref (F 4 a)])) ∈ (ws ++ [(q, .inr (2, [.int (nI 0), .null, .null, .int (nI 0), .int (nI 0), .int (nI 0), .int (nI 0)]))]) := hC.at hk_a (by decide) (by decide)
    refine c_get (C := RX5) (T := TX5) (N := 5) hx hb hts hin_X5 hown hK hP hm_12 rfl 0 (by decide) l_88 (fun _ h9 => h9) rfl dX8_awardToBest_36 ?_
    have hk_13 : kd (F 0 a) = 8 := hW.ref (f := 0) hk_a rfl (by decide)
    have hm_14 : (F 0 a, .inr (8, [.int (nI (F 0 (F 0 a))), .int (nI (F 1 (F 0 a))), .int (nI (F 2 (F 0 a))), .int (nI (F 3 (F 0 a))), .int (nI (F 4 (F 0 a))), .ref (F 5 (F 0 a))])) ∈ (ws ++ [(q, .inr (2, [.int (nI 0), .null, .null, .int (nI 0), .int (nI 0), .int (nI 0), .int (nI 0)]))]) := hC.at hk_13 (by decide) (by decide)
    refine c_get (C := RX7) (T := TX7) (N := 6) hx hb hts hin_X7 hown hK hP hm_14 rfl 4 (by decide) l_280 (fun _ h9 => h9) rfl dX8_awardToBest_39 ?_
    have hn_15 : F 4 (F 0 a) < 31 := hW.num (f := 4) hk_13 rfl (by decide)
    refine n_iadd hx hb dX8_awardToBest_42 (z := (F 5 h) + (F 4 (F 0 a))) rfl ?_
    refine va_callv (va_runI (As := [.int (nI ((L (F 2 h)).length)), .ref a, .ref o_3, .int (nI ((F 5 h) + (F 4 (F 0 a))))]) (rest := [.ref q, .ref (F 2 h)]) ⟨hx, hb, hml, hown, hts⟩ (ci_X0 l D cI cO cb eA mi st (ws ++ [(q, .inr (2, [.int (nI 0), .null, .null, .int (nI 0), .int (nI 0), .int (nI 0), .int (nI 0)]))]) hD q hq1 ((L (F 2 h)).length) a o_3 ((F 5 h) + (F 4 (F 0 a)))) (cwI 4 hts ggX8_awardToBest_X0_init rfl rfl rfl (hts (.initialized RX0) (List.mem_of_getElem? (i := 4) rfl)) (hts (.methodLink RX8 283 yX0_init) (List.mem_of_getElem? (i := 53) rfl)) (hts (.instanceMethod yX0_init) (List.mem_of_getElem? (i := 54) rfl)) rfl kd_X0_init ⟨Nat.le_of_ble_eq_true rfl, Nat.le_of_ble_eq_true rfl⟩) ⟨cB_blind, cB_pre hK hG hA hS hP _⟩ rfl rfl hl.1 rfl (lv_room (Nat.le_of_ble_eq_true rfl)) dX8_awardToBest_43 ⟨Nat.le_of_ble_eq_true rfl, Nat.le_of_ble_eq_true rfl⟩) hS (fun _ _ h => h) (fun _ h => h) (fun u U8 H1 locs1 ht hvm hu hB hz1 hk1 hS1 => ?_)
    obtain ⟨hD1, hB⟩ := hB
    rw [ht] at hB
    clear hS
    have hS := hS1
    replace hP := hB
    replace hD := hD1
    generalize H1 = H at hP hS ⊢
    rw [wup_app hD] at hP hD
    have hC := hC0.new (k := 2) (vals := [(L (F 2 h)).length, a, o_3, (F 5 h) + (F 4 (F 0 a)), 0, 0, 0]) hD (by decide) (by simp [ent, FN])
    have hr9 : ∀ f9, rg 2 f9 = 0 ∨ ([(L (F 2 h)).length, a, o_3, (F 5 h) + (F 4 (F 0 a)), 0, 0, 0] : List Nat).getD f9 0 < rg 2 f9 := by
      intro f9
      rcases f9 with _ | _ | _ | _ | _ | _ | _ | f9
      · exact Or.inr (show (L (F 2 h)).length < 64 by omega)
      · exact Or.inl rfl
      · exact Or.inl rfl
      · exact Or.inr (show (F 5 h) + (F 4 (F 0 a)) < 3000 by omega)
      · exact Or.inr (show 0 < 2 by omega)
      · exact Or.inr (show 0 < 2 by omega)
      · exact Or.inr (show 0 < 2 by omega)
      · exact Or.inl rfl
    have hr8 : ∀ f9, rk 2 f9 = 0 ∨ kd (([(L (F 2 h)).length, a, o_3, (F 5 h) + (F 4 (F 0 a)), 0, 0, 0] : List Nat).getD f9 0) = rk 2 f9 := by
      intro f9
      rcases f9 with _ | _ | _ | _ | _ | _ | _ | f9
      · exact Or.inl rfl
      · exact Or.inr (show kd (a) = 7 from hk_a)
      · exact Or.inr (show kd (o_3) = 3 from hk_4)
      · exact Or.inl rfl
      · exact Or.inl rfl
      · exact Or.inl rfl
      · exact Or.inl rfl
      · exact Or.inl rfl
    have hW := hW.new (k := 2) hq0 (by decide) hr9 hr8
    obtain ⟨fs_hm_16, hm_16⟩ := hC.obj (kdN_old hq0 hk_6 (by decide)) (by decide)
    refine va_calli (va_runV (As := [.ref q]) (rest := []) ⟨hx, hb, hml, hown, hts⟩ (cl_add l D cI cO cb eA mi st (ws ++ [(q, .inr (2, [.int (nI ((L (F 2 h)).length)), .ref a, .ref o_3, .int (nI ((F 5 h) + (F 4 (F 0 a)))), .int (nI 0), .int (nI 0), .int (nI 0)]))]) hD (F 2 h) (L (F 2 h)) q (hC.lst (kdN_old hq0 hk_6 (by decide)) (by decide)) (hC.els hW (kdN_old hq0 hk_6 (by decide)) (by decide)) (hC.elt (by rw [kdN_eq]; decide) (by rw [kdN_eq]; decide)) (by omega)) (cwV 1 hts gX8_awardToBest_Jx4a65c_add_9ea2d rfl rfl rfl kd_Jx4a65c_add_9ea2d ⟨Nat.le_of_ble_eq_true rfl, Nat.le_of_ble_eq_true rfl⟩) ⟨cB_blind, c_recv hK hP rfl hm_16, cB_pre hK hG hA hS hP _⟩ rfl rfl hl.1 rfl (lv_room (Nat.le_of_ble_eq_true rfl)) dX8_awardToBest_46 ⟨Nat.le_of_ble_eq_true rfl, Nat.le_of_ble_eq_true rfl⟩) hS (fun _ _ h => h) (fun _ h => h) (fun ri u U8 H1 locs1 ht hvm hu hB hz1 hk1 hS1 => ?_)
    obtain ⟨hri, hu1, hu2, hD⟩ := hu
    subst hri
    rw [ht] at hB
    clear hS
    have hS := hS1
    replace hP := hB
    generalize H1 = H at hP hS ⊢
    have hC := hC.setL hu2 hu1
    have hW := hW.setL (kdN_old hq0 hk_6 (by decide)) (show (L (F 2 h) ++ [q]).length ≤ 60 by rw [List.length_append]; show _ + 1 ≤ 60; omega) (els_add (fun x9 h9 => by rw [(hW.2.2 _ (by rw [(kdN_old hq0 hk_6 (by decide))]; decide)).2.2.2 x9 h9]; exact (kdN_old hq0 hk_6 (by decide))) (by rw [kdN_eq]))
    refine lv_pop hx hb dX8_awardToBest_49 rfl ?_
    refine lv_iload_n hx hb dX8_awardToBest_50 rfl (lv_at hl 0 rfl) ?_
    refine W.widen (k := 2) (n := 103) (by omega) (by omega) ?_
    exact W.iret (v := nI ((L (F 2 h)).length)) hx hb hr (fun U9 ht hW9 => ⟨⟨_, (u.1, u.2, q), rfl, by unfold pBest; rw [ho_3]; exact ⟨rfl, hC, hW, hq0, hD⟩, by show va_P D vwCl _ U9.heap; rw [ht]; exact hP⟩, hS.F ht⟩) hS.2.2 dX8_awardToBest_51
