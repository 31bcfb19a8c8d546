/-! the law's helpers -/
set_option maxHeartbeats 4000000 in
set_option maxRecDepth 100000 in
theorem cL9_addTender (l : Launch) (hst : l.stackTraces = false) (D : va_G) (cI cO cb : ClassId) (eA mi : Nat) (st : Nat → Nat) (dO dT : Nat) (vF : Value) {A : Nat → Prop} (ws : va_W) {h : Nat} {M : MS} (hc : cSt cI cO eA st A h M ws) (hM : MI M) (hs : sInj st) (cJ : ClassId) (oa : Nat) (x : Int64) (hno : ¬ A oa) (cl : Int32) (pa : Int32) (we : Int32) (sd : Int32) : Met l yL_addTender wsL_addTender ({ frames := 8, cells := 4, slots := 114, locals := 216 }) (va_Pc [.ref h, .int cl, .int pa, .int we, .int sd, .ref oa] (lB D cI cO cb eA mi st dO dT vF A ws cJ oa x)) (va_Qi (fun (ri : Int32) (u : va_W × Int64) => ri = nI (k_addTender M cl pa we sd) ∧ k_addTender M cl pa we sd ≤ 3 ∧ (k_addTender M cl pa we sd = 0 → u.2 = Int32.toInt64 (if k_addTender M cl pa we sd = 0 then nI (M 3 0) else nI 0)) ∧ cSt cI cO eA st A h (g_addTender M cl pa we sd) u.1) (fun u U9 => va_P D vwCl u.1 U9.heap ∧ va_at D vwCl (oa, oE cJ u.2) U9.heap) (fun q => A q ∨ q = oa)) 4 114 (fun q => A q ∨ q = oa) := by
  have hcx : k_addTender M cl pa we sd ≠ 0 → cSt cI cO eA st A h (g_addTender M cl pa we sd) ws := fun e9 => by
    have e8 : g_addTender M cl pa we sd = M := by
      unfold g_addTender
      exact if_neg e9
    rw [e8]; exact hc
  obtain ⟨k9, hk9, hk9S, hMet⟩ := cq_addTender l hst D cI cO cb eA mi st ws hc hM hs cl pa we sd
  obtain ⟨own9, kd, F, L, hC, hW, ⟨tn, lo, aw, co, ct, ow, G⟩, hD⟩ := hc
  have hm_1 : (h, .inr (9, [.ref (F 0 h), .ref (F 1 h), .ref (F 2 h), .ref (F 3 h), .ref (F 4 h), .int (nI (F 5 h))])) ∈ ws := hC.at G.1.1 (by decide) (by decide)
  refine met_ofWH (cc := cL_addTender) (maxL := 7) (ret := (some .int)) (hh := [(0, 14, 17, 13), (0, 14, 21, 15)]) (by decide) rfl ?_
  intro p e s m args below meth c s₁ B hml htab hv
  obtain ⟨rfl, ⟨hP, hK, ⟨hG, hGT⟩, hA⟩, hKJ, ho, hoL, hn1, hn2, hn3⟩ := hv
  have hx := B.exec
  have hb := B.bytes
  have hr := B.returns
  have hts := atoms_spec (ws := wsL_addTender) B.pre
  have hown : s.vm.findClass RL = some m.cls := findClass_of_methodNamed B.named
  have hlocks := B.notSynchronized
  have hS : va_S (fun q => A q ∨ q = oa) s.heap s.heap [] := va_S.rf
  have hSA : va_S A s.heap s.heap [] := va_S.rf
  have hl := lv_entry ([.ref h, .int cl, .int pa, .int we, .int sd, .ref oa]) (n := 7) (Nat.le_of_ble_eq_true rfl)
  rw [lg_entry_eq]
  generalize (lg_sl ([.ref h, .int cl, .int pa, .int we, .int sd, .ref oa]) ++ List.replicate (7 - (lg_sl ([.ref h, .int cl, .int pa, .int we, .int sd, .ref oa])).length) Slot.unset).toArray = ls at hl ⊢
  have hl : lv_has ls 7 [(0, .ref h), (1, .int cl), (2, .int pa), (3, .int we), (4, .int sd), (5, .ref oa)] := hl
  refine lv_aload hx hb dL_addTender_0 (lv_at hl 5 rfl) ?_
  refine lv_iconst (v := nI 0) hx hb dL_addTender_2 (by decide) ?_
  refine lv_aload_n hx hb dL_addTender_3 rfl (lv_at hl 0 rfl) ?_
  refine lv_iload_n hx hb dL_addTender_4 rfl (lv_at hl 1 rfl) ?_
  refine lv_iload_n hx hb dL_addTender_5 rfl (lv_at hl 2 rfl) ?_
  refine lv_iload_n hx hb dL_addTender_6 rfl (lv_at hl 3 rfl) ?_
  refine lv_iload hx hb dL_addTender_7 (lv_at hl 4 rfl) ?_
  refine vx_calli (vx_runV (As := [.int cl, .int pa, .int we, .int sd]) (rest := [.int (nI 0), .ref oa]) ⟨hx, hb, hml, hown, hts⟩ hMet (cwV 4 hts gL_addTender_X8_addTender rfl rfl rfl kd_X8_addTender ⟨Nat.le_of_ble_eq_true rfl, Nat.le_of_ble_eq_true rfl⟩) ⟨cB_blind, c_recv hK hP rfl hm_1, cB_pre hK hG hA hSA hP _⟩ rfl rfl hl.1 rfl (lv_room (Nat.le_of_ble_eq_true rfl)) dL_addTender_9 ⟨Nat.le_of_eq (Nat.zero_add _), Nat.le_of_eq (Nat.zero_add _)⟩) hS (fun _ _ h => Or.inl h) (fun _ h => Or.inl h) (fun _ _ h => Or.inl h) (fun E9 ce9 q9 u9 U8 H1 locs1 ht hvm hu hB hz1 hk1 hS1 hc1 hc2 hc3 => ?_) (fun r u U8 H1 locs1 ht hvm hu hB hz1 hk1 hS1 => ?_)
  · obtain ⟨hB1, hB2, hB3⟩ := hB
    rw [ht] at hB3
    have ho1 := va_at_keep ho (hk1 oa hoL hno)
    simp only [List.mem_cons, List.not_mem_nil, or_false] at hk9S
    rcases hk9S with rfl | rfl | rfl
    · exact absurd rfl hB2
    · obtain rfl : E9 = "java/lang/IllegalArgumentException" := hB1.trans rfl
      refine vx_catch (own := RL) (name := "java/lang/IllegalArgumentException") hown [] ⟨0, 14, 17, 13⟩ [⟨0, 14, 21, 15⟩] htab (fun z hz => ?_) (by decide) (by decide) (hts (.classLink RL 13 "java/lang/IllegalArgumentException") (List.mem_of_getElem? (i := 1) rfl)) (hG.2.2.2.2.2.2.1.1 ("java/lang/IllegalArgumentException", "java/lang/IllegalArgumentException") (by decide)) hc1 hc2 hc3 ?_
      · cases hz
      · refine lv_astore (lv' := [(6, .ref q9), (0, .ref h), (1, .int cl), (2, .int pa), (3, .int we), (4, .int sd), (5, .ref oa)]) hx hb dL_addTender_17 hl (by decide) rfl (fun ls hl => ?_)
        refine lv_iconst (v := nI 1) hx hb dL_addTender_19 (by decide) ?_
        refine W.widen (k := 4) (n := 114) (Nat.le_of_eq (Nat.zero_add _)) (Nat.le_of_eq (Nat.zero_add _)) ?_
        exact W.iret (v := nI 1) hx hb hr (fun U9 ht9 hW9 => ⟨⟨_, (ws, x), rfl, ⟨by rw [← hk9]; rfl, by rw [← hk9]; decide, fun e9 => absurd (hk9.trans e9) (by decide), hcx (fun e9 => absurd (hk9.trans e9) (by decide))⟩, by show va_P D vwCl ws U9.heap ∧ va_at D vwCl (oa, oE cJ x) U9.heap; rw [ht9]; exact ⟨hB3, ho1⟩⟩, hS1.F ht9⟩) hS1.2.2 dL_addTender_20 hlocks
    · obtain rfl : E9 = "java/lang/IllegalStateException" := hB1.trans rfl
      refine vx_catch (own := RL) (name := "java/lang/IllegalStateException") hown [⟨0, 14, 17, 13⟩] ⟨0, 14, 21, 15⟩ [] htab (fun z hz => ?_) (by decide) (by decide) (hts (.classLink RL 15 "java/lang/IllegalStateException") (List.mem_of_getElem? (i := 2) rfl)) (hG.2.2.2.2.2.2.1.1 ("java/lang/IllegalStateException", "java/lang/IllegalStateException") (by decide)) hc1 hc2 hc3 ?_
      · obtain rfl := List.mem_singleton.mp hz
        exact Or.inr ⟨by decide, _, (hts (.classLink RL 13 "java/lang/IllegalArgumentException") (List.mem_of_getElem? (i := 1) rfl)), hn3⟩
      · refine lv_astore (lv' := [(6, .ref q9), (0, .ref h), (1, .int cl), (2, .int pa), (3, .int we), (4, .int sd), (5, .ref oa)]) hx hb dL_addTender_21 hl (by decide) rfl (fun ls hl => ?_)
        refine lv_iconst (v := nI 2) hx hb dL_addTender_23 (by decide) ?_
        refine W.widen (k := 4) (n := 114) (Nat.le_of_eq (Nat.zero_add _)) (Nat.le_of_eq (Nat.zero_add _)) ?_
        exact W.iret (v := nI 2) hx hb hr (fun U9 ht9 hW9 => ⟨⟨_, (ws, x), rfl, ⟨by rw [← hk9]; rfl, by rw [← hk9]; decide, fun e9 => absurd (hk9.trans e9) (by decide), hcx (fun e9 => absurd (hk9.trans e9) (by decide))⟩, by show va_P D vwCl ws U9.heap ∧ va_at D vwCl (oa, oE cJ x) U9.heap; rw [ht9]; exact ⟨hB3, ho1⟩⟩, hS1.F ht9⟩) hS1.2.2 dL_addTender_24 hlocks
  · obtain ⟨ek, hrv, hc2⟩ := hu
    replace hB : va_P D vwCl u U8.heap := hB
    rw [ht] at hB
    have ho1 := va_at_keep ho (hk1 oa hoL hno)
    have hD2 : va_D A u := by
      obtain ⟨_, _, _, _, _, _, _, q⟩ := hc2
      exact q
    have hP2 : va_P D vwCl (u ++ [(oa, oE cJ x)]) H1 := va_P_app hB (va_P_one ho1)
    refine lv_i2l (v := Int32.toInt64 r) hx hb dL_addTender_12 rfl ?_
    refine va_last hx hb hKJ hP2 (va_D_out hD2 hno) hS1 u.length 0 (by rw [List.getElem?_append_right (Nat.le_refl _), Nat.sub_self]; rfl) rfl (vp_in_nI (by decide) (by decide)) dL_addTender_13 (fun H2 locs2 hP3 hD3 hS2 => ?_)
    rw [set_out] at hP3
    refine lv_goto (tgt := 25) hx hb dL_addTender_14 (by decide) ?_
    refine lv_iconst (v := nI 0) hx hb dL_addTender_25 (by decide) ?_
    refine W.widen (k := 4) (n := 114) (Nat.le_of_eq (Nat.zero_add _)) (Nat.le_of_eq (Nat.zero_add _)) ?_
    exact W.iret (v := nI 0) hx hb hr (fun U9 ht9 hW9 => ⟨⟨_, (u, Int32.toInt64 (r)), rfl, ⟨by rw [ek], by rw [ek]; decide, fun _ => by first | rfl | rw [hrv], hc2⟩, by show va_P D vwCl u U9.heap ∧ va_at D vwCl (oa, oE cJ (Int32.toInt64 (r))) U9.heap; rw [ht9]; exact ⟨va_P_l hP3, out_at (va_P_r hP3 0 _ rfl)⟩⟩, hS2.F ht9⟩) hS2.2.2 dL_addTender_26 hlocks
set_option maxHeartbeats 4000000 in
set_option maxRecDepth 100000 in
theorem cL9_addLot (l : Launch) (hst : l.stackTraces = false) (D : va_G) (cI cO cb : ClassId) (eA mi : Nat) (st : Nat → Nat) (dO dT : Nat) (vF : Value) {A : Nat → Prop} (ws : va_W) {h : Nat} {M : MS} (hc : cSt cI cO eA st A h M ws) (hM : MI M) (hs : sInj st) (cJ : ClassId) (oa : Nat) (x : Int64) (hno : ¬ A oa) (t : Int32) (de : Int32) : Met l yL_addLot wsL_addLot ({ frames := 8, cells := 6, slots := 126, locals := 215 }) (va_Pc [.ref h, .int t, .int de, .ref oa] (lB D cI cO cb eA mi st dO dT vF A ws cJ oa x)) (va_Qi (fun (ri : Int32) (u : va_W × Int64) => ri = nI (k_addLot M t de) ∧ k_addLot M t de ≤ 3 ∧ (k_addLot M t de = 0 → u.2 = Int32.toInt64 (if k_addLot M t de = 0 then nI (M 8 t.toNatClampNeg) else nI 0)) ∧ cSt cI cO eA st A h (g_addLot M t de) u.1) (fun u U9 => va_P D vwCl u.1 U9.heap ∧ va_at D vwCl (oa, oE cJ u.2) U9.heap) (fun q => A q ∨ q = oa)) 6 126 (fun q => A q ∨ q = oa) := by
  have hcx : k_addLot M t de ≠ 0 → cSt cI cO eA st A h (g_addLot M t de) ws := fun e9 => by
    have e8 : g_addLot M t de = M := by
      unfold g_addLot
      exact if_neg e9
    rw [e8]; exact hc
  obtain ⟨k9, hk9, hk9S, hMet⟩ := cq_addLot l hst D cI cO cb eA mi st ws hc hM hs t de
  obtain ⟨own9, kd, F, L, hC, hW, ⟨tn, lo, aw, co, ct, ow, G⟩, hD⟩ := hc
  have hm_1 : (h, .inr (9, [.ref (F 0 h), .ref (F 1 h), .ref (F 2 h), .ref (F 3 h), .ref (F 4 h), .int (nI (F 5 h))])) ∈ ws := hC.at G.1.1 (by decide) (by decide)
  refine met_ofWH (cc := cL_addLot) (maxL := 5) (ret := (some .int)) (hh := [(0, 10, 13, 21), (0, 10, 17, 13), (0, 10, 21, 15)]) (by decide) rfl ?_
  intro p e s m args below meth c s₁ B hml htab hv
  obtain ⟨rfl, ⟨hP, hK, ⟨hG, hGT⟩, hA⟩, hKJ, ho, hoL, hn1, hn2, hn3⟩ := hv
  have hx := B.exec
  have hb := B.bytes
  have hr := B.returns
  have hts := atoms_spec (ws := wsL_addLot) B.pre
  have hown : s.vm.findClass RL = some m.cls := findClass_of_methodNamed B.named
  have hlocks := B.notSynchronized
  have hS : va_S (fun q => A q ∨ q = oa) s.heap s.heap [] := va_S.rf
  have hSA : va_S A s.heap s.heap [] := va_S.rf
  have hl := lv_entry ([.ref h, .int t, .int de, .ref oa]) (n := 5) (Nat.le_of_ble_eq_true rfl)
  rw [lg_entry_eq]
  generalize (lg_sl ([.ref h, .int t, .int de, .ref oa]) ++ List.replicate (5 - (lg_sl ([.ref h, .int t, .int de, .ref oa])).length) Slot.unset).toArray = ls at hl ⊢
  have hl : lv_has ls 5 [(0, .ref h), (1, .int t), (2, .int de), (3, .ref oa)] := hl
  refine lv_aload_n hx hb dL_addLot_0 rfl (lv_at hl 3 rfl) ?_
  refine lv_iconst (v := nI 0) hx hb dL_addLot_1 (by decide) ?_
  refine lv_aload_n hx hb dL_addLot_2 rfl (lv_at hl 0 rfl) ?_
  refine lv_iload_n hx hb dL_addLot_3 rfl (lv_at hl 1 rfl) ?_
  refine lv_iload_n hx hb dL_addLot_4 rfl (lv_at hl 2 rfl) ?_
  refine vx_calli (vx_runV (As := [.int t, .int de]) (rest := [.int (nI 0), .ref oa]) ⟨hx, hb, hml, hown, hts⟩ hMet (cwV 2 hts gL_addLot_X8_addLot rfl rfl rfl kd_X8_addLot ⟨Nat.le_of_ble_eq_true rfl, Nat.le_of_ble_eq_true rfl⟩) ⟨cB_blind, c_recv hK hP rfl hm_1, cB_pre hK hG hA hSA hP _⟩ rfl rfl hl.1 rfl (lv_room (Nat.le_of_ble_eq_true rfl)) dL_addLot_5 ⟨Nat.le_of_eq (Nat.zero_add _), Nat.le_of_eq (Nat.zero_add _)⟩) hS (fun _ _ h => Or.inl h) (fun _ h => Or.inl h) (fun _ _ h => Or.inl h) (fun E9 ce9 q9 u9 U8 H1 locs1 ht hvm hu hB hz1 hk1 hS1 hc1 hc2 hc3 => ?_) (fun r u U8 H1 locs1 ht hvm hu hB hz1 hk1 hS1 => ?_)
  · obtain ⟨hB1, hB2, hB3⟩ := hB
    rw [ht] at hB3
    have ho1 := va_at_keep ho (hk1 oa hoL hno)
    simp only [List.mem_cons, List.not_mem_nil, or_false] at hk9S
    rcases hk9S with rfl | rfl | rfl | rfl
    · exact absurd rfl hB2
    · obtain rfl : E9 = "java/lang/IndexOutOfBoundsException" := hB1.trans rfl
      refine vx_catch (own := RL) (name := "java/lang/IndexOutOfBoundsException") hown [] ⟨0, 10, 13, 21⟩ [⟨0, 10, 17, 13⟩, ⟨0, 10, 21, 15⟩] htab (fun z hz => ?_) (by decide) (by decide) (hts (.classLink RL 21 "java/lang/IndexOutOfBoundsException") (List.mem_of_getElem? (i := 1) rfl)) (hG.2.2.2.2.2.2.1.1 ("java/lang/IndexOutOfBoundsException", "java/lang/IndexOutOfBoundsException") (by decide)) hc1 hc2 hc3 ?_
      · cases hz
      · refine lv_astore (lv' := [(4, .ref q9), (0, .ref h), (1, .int t), (2, .int de), (3, .ref oa)]) hx hb dL_addLot_13 hl (by decide) rfl (fun ls hl => ?_)
        refine lv_iconst (v := nI 1) hx hb dL_addLot_15 (by decide) ?_
        refine W.widen (k := 6) (n := 126) (Nat.le_of_eq (Nat.zero_add _)) (Nat.le_of_eq (Nat.zero_add _)) ?_
        exact W.iret (v := nI 1) hx hb hr (fun U9 ht9 hW9 => ⟨⟨_, (ws, x), rfl, ⟨by rw [← hk9]; rfl, by rw [← hk9]; decide, fun e9 => absurd (hk9.trans e9) (by decide), hcx (fun e9 => absurd (hk9.trans e9) (by decide))⟩, by show va_P D vwCl ws U9.heap ∧ va_at D vwCl (oa, oE cJ x) U9.heap; rw [ht9]; exact ⟨hB3, ho1⟩⟩, hS1.F ht9⟩) hS1.2.2 dL_addLot_16 hlocks
    · obtain rfl : E9 = "java/lang/IllegalArgumentException" := hB1.trans rfl
      refine vx_catch (own := RL) (name := "java/lang/IllegalArgumentException") hown [⟨0, 10, 13, 21⟩] ⟨0, 10, 17, 13⟩ [⟨0, 10, 21, 15⟩] htab (fun z hz => ?_) (by decide) (by decide) (hts (.classLink RL 13 "java/lang/IllegalArgumentException") (List.mem_of_getElem? (i := 2) rfl)) (hG.2.2.2.2.2.2.1.1 ("java/lang/IllegalArgumentException", "java/lang/IllegalArgumentException") (by decide)) hc1 hc2 hc3 ?_
      · obtain rfl := List.mem_singleton.mp hz
        exact Or.inr ⟨by decide, _, (hts (.classLink RL 21 "java/lang/IndexOutOfBoundsException") (List.mem_of_getElem? (i := 1) rfl)), hn1⟩
      · refine lv_astore (lv' := [(4, .ref q9), (0, .ref h), (1, .int t), (2, .int de), (3, .ref oa)]) hx hb dL_addLot_17 hl (by decide) rfl (fun ls hl => ?_)
        refine lv_iconst (v := nI 2) hx hb dL_addLot_19 (by decide) ?_
        refine W.widen (k := 6) (n := 126) (Nat.le_of_eq (Nat.zero_add _)) (Nat.le_of_eq (Nat.zero_add _)) ?_
        exact W.iret (v := nI 2) hx hb hr (fun U9 ht9 hW9 => ⟨⟨_, (ws, x), rfl, ⟨by rw [← hk9]; rfl, by rw [← hk9]; decide, fun e9 => absurd (hk9.trans e9) (by decide), hcx (fun e9 => absurd (hk9.trans e9) (by decide))⟩, by show va_P D vwCl ws U9.heap ∧ va_at D vwCl (oa, oE cJ x) U9.heap; rw [ht9]; exact ⟨hB3, ho1⟩⟩, hS1.F ht9⟩) hS1.2.2 dL_addLot_20 hlocks
    · obtain rfl : E9 = "java/lang/IllegalStateException" := hB1.trans rfl
      refine vx_catch (own := RL) (name := "java/lang/IllegalStateException") hown [⟨0, 10, 13, 21⟩, ⟨0, 10, 17, 13⟩] ⟨0, 10, 21, 15⟩ [] htab (fun z hz => ?_) (by decide) (by decide) (hts (.classLink RL 15 "java/lang/IllegalStateException") (List.mem_of_getElem? (i := 3) rfl)) (hG.2.2.2.2.2.2.1.1 ("java/lang/IllegalStateException", "java/lang/IllegalStateException") (by decide)) hc1 hc2 hc3 ?_
      · rcases List.mem_cons.mp hz with rfl | hz
        · exact Or.inr ⟨by decide, _, (hts (.classLink RL 21 "java/lang/IndexOutOfBoundsException") (List.mem_of_getElem? (i := 1) rfl)), hn2⟩
        · obtain rfl := List.mem_singleton.mp hz
          exact Or.inr ⟨by decide, _, (hts (.classLink RL 13 "java/lang/IllegalArgumentException") (List.mem_of_getElem? (i := 2) rfl)), hn3⟩
      · refine lv_astore (lv' := [(4, .ref q9), (0, .ref h), (1, .int t), (2, .int de), (3, .ref oa)]) hx hb dL_addLot_21 hl (by decide) rfl (fun ls hl => ?_)
        refine lv_iconst (v := nI 3) hx hb dL_addLot_23 (by decide) ?_
        refine W.widen (k := 6) (n := 126) (Nat.le_of_eq (Nat.zero_add _)) (Nat.le_of_eq (Nat.zero_add _)) ?_
        exact W.iret (v := nI 3) hx hb hr (fun U9 ht9 hW9 => ⟨⟨_, (ws, x), rfl, ⟨by rw [← hk9]; rfl, by rw [← hk9]; decide, fun e9 => absurd (hk9.trans e9) (by decide), hcx (fun e9 => absurd (hk9.trans e9) (by decide))⟩, by show va_P D vwCl ws U9.heap ∧ va_at D vwCl (oa, oE cJ x) U9.heap; rw [ht9]; exact ⟨hB3, ho1⟩⟩, hS1.F ht9⟩) hS1.2.2 dL_addLot_24 hlocks
  · obtain ⟨ek, hrv, hc2⟩ := hu
    replace hB : va_P D vwCl u U8.heap := hB
    rw [ht] at hB
    have ho1 := va_at_keep ho (hk1 oa hoL hno)
    have hD2 : va_D A u := by
      obtain ⟨_, _, _, _, _, _, _, q⟩ := hc2
      exact q
    have hP2 : va_P D vwCl (u ++ [(oa, oE cJ x)]) H1 := va_P_app hB (va_P_one ho1)
    refine lv_i2l (v := Int32.toInt64 r) hx hb dL_addLot_8 rfl ?_
    refine va_last hx hb hKJ hP2 (va_D_out hD2 hno) hS1 u.length 0 (by rw [List.getElem?_append_right (Nat.le_refl _), Nat.sub_self]; rfl) rfl (vp_in_nI (by decide) (by decide)) dL_addLot_9 (fun H2 locs2 hP3 hD3 hS2 => ?_)
    rw [set_out] at hP3
    refine lv_goto (tgt := 25) hx hb dL_addLot_10 (by decide) ?_
    refine lv_iconst (v := nI 0) hx hb dL_addLot_25 (by decide) ?_
    refine W.widen (k := 6) (n := 126) (Nat.le_of_eq (Nat.zero_add _)) (Nat.le_of_eq (Nat.zero_add _)) ?_
    exact W.iret (v := nI 0) hx hb hr (fun U9 ht9 hW9 => ⟨⟨_, (u, Int32.toInt64 (r)), rfl, ⟨by rw [ek], by rw [ek]; decide, fun _ => by first | rfl | rw [hrv], hc2⟩, by show va_P D vwCl u U9.heap ∧ va_at D vwCl (oa, oE cJ (Int32.toInt64 (r))) U9.heap; rw [ht9]; exact ⟨va_P_l hP3, out_at (va_P_r hP3 0 _ rfl)⟩⟩, hS2.F ht9⟩) hS2.2.2 dL_addLot_26 hlocks
set_option maxHeartbeats 4000000 in
set_option maxRecDepth 100000 in
theorem cL9_paper (l : Launch) (hst : l.stackTraces = false) (D : va_G) (cI cO cb : ClassId) (eA mi : Nat) (st : Nat → Nat) (dO dT : Nat) (vF : Value) {A : Nat → Prop} (ws : va_W) {h : Nat} {M : MS} (hc : cSt cI cO eA st A h M ws) (hM : MI M) (hs : sInj st) (cJ : ClassId) (oa : Nat) (x : Int64) (hno : ¬ A oa) (b : Int32) (k : Int32) (uu : Int32) : Met l yL_paper wsL_paper ({ frames := 7, cells := 1, slots := 6, locals := 106 }) (va_Pc [.ref h, .int b, .int k, .int uu, .ref oa] (lB D cI cO cb eA mi st dO dT vF A ws cJ oa x)) (va_Qi (fun (ri : Int32) (u : va_W × Int64) => ri = nI (k_paper b k uu) ∧ k_paper b k uu ≤ 3 ∧ (k_paper b k uu = 0 → u.2 = Int32.toInt64 (r_paper M b k uu)) ∧ cSt cI cO eA st A h (g_paper M b k uu) u.1) (fun u U9 => va_P D vwCl u.1 U9.heap ∧ va_at D vwCl (oa, oE cJ u.2) U9.heap) (fun q => A q ∨ q = oa)) 1 6 (fun q => A q ∨ q = oa) := by
  have hcx : k_paper b k uu ≠ 0 → cSt cI cO eA st A h (g_paper M b k uu) ws := fun e9 => by
    have e8 : g_paper M b k uu = M := by
      unfold g_paper
      exact if_neg e9
    rw [e8]; exact hc
  obtain ⟨k9, hk9, hk9S, hMet⟩ := cq_paper l hst D cI cO cb eA mi st ws hc hM hs b k uu
  obtain ⟨own9, kd, F, L, hC, hW, ⟨tn, lo, aw, co, ct, ow, G⟩, hD⟩ := hc
  have hm_1 : (h, .inr (9, [.ref (F 0 h), .ref (F 1 h), .ref (F 2 h), .ref (F 3 h), .ref (F 4 h), .int (nI (F 5 h))])) ∈ ws := hC.at G.1.1 (by decide) (by decide)
  refine met_ofWH (cc := cL_paper) (maxL := 6) (ret := (some .int)) (hh := [(0, 12, 15, 21), (0, 12, 19, 13)]) (by decide) rfl ?_
  intro p e s m args below meth c s₁ B hml htab hv
  obtain ⟨rfl, ⟨hP, hK, ⟨hG, hGT⟩, hA⟩, hKJ, ho, hoL, hn1, hn2, hn3⟩ := hv
  have hx := B.exec
  have hb := B.bytes
  have hr := B.returns
  have hts := atoms_spec (ws := wsL_paper) B.pre
  have hown : s.vm.findClass RL = some m.cls := findClass_of_methodNamed B.named
  have hlocks := B.notSynchronized
  have hS : va_S (fun q => A q ∨ q = oa) s.heap s.heap [] := va_S.rf
  have hSA : va_S A s.heap s.heap [] := va_S.rf
  have hl := lv_entry ([.ref h, .int b, .int k, .int uu, .ref oa]) (n := 6) (Nat.le_of_ble_eq_true rfl)
  rw [lg_entry_eq]
  generalize (lg_sl ([.ref h, .int b, .int k, .int uu, .ref oa]) ++ List.replicate (6 - (lg_sl ([.ref h, .int b, .int k, .int uu, .ref oa])).length) Slot.unset).toArray = ls at hl ⊢
  have hl : lv_has ls 6 [(0, .ref h), (1, .int b), (2, .int k), (3, .int uu), (4, .ref oa)] := hl
  refine lv_aload hx hb dL_paper_0 (lv_at hl 4 rfl) ?_
  refine lv_iconst (v := nI 0) hx hb dL_paper_2 (by decide) ?_
  refine lv_aload_n hx hb dL_paper_3 rfl (lv_at hl 0 rfl) ?_
  refine lv_iload_n hx hb dL_paper_4 rfl (lv_at hl 1 rfl) ?_
  refine lv_iload_n hx hb dL_paper_5 rfl (lv_at hl 2 rfl) ?_
  refine lv_iload_n hx hb dL_paper_6 rfl (lv_at hl 3 rfl) ?_
  refine vx_calli (vx_runV (As := [.int b, .int k, .int uu]) (rest := [.int (nI 0), .ref oa]) ⟨hx, hb, hml, hown, hts⟩ hMet (cwV 3 hts gL_paper_X8_paper rfl rfl rfl kd_X8_paper ⟨Nat.le_of_ble_eq_true rfl, Nat.le_of_ble_eq_true rfl⟩) ⟨cB_blind, c_recv hK hP rfl hm_1, cB_pre hK hG hA hSA hP _⟩ rfl rfl hl.1 rfl (lv_room (Nat.le_of_ble_eq_true rfl)) dL_paper_7 ⟨Nat.le_of_eq (Nat.zero_add _), Nat.le_of_eq (Nat.zero_add _)⟩) hS (fun _ _ h => Or.inl h) (fun _ h => Or.inl h) (fun _ _ h => Or.inl h) (fun E9 ce9 q9 u9 U8 H1 locs1 ht hvm hu hB hz1 hk1 hS1 hc1 hc2 hc3 => ?_) (fun r u U8 H1 locs1 ht hvm hu hB hz1 hk1 hS1 => ?_)
  · obtain ⟨hB1, hB2, hB3⟩ := hB
    rw [ht] at hB3
    have ho1 := va_at_keep ho (hk1 oa hoL hno)
    simp only [List.mem_cons, List.not_mem_nil, or_false] at hk9S
    rcases hk9S with rfl | rfl | rfl
    · exact absurd rfl hB2
    · obtain rfl : E9 = "java/lang/IndexOutOfBoundsException" := hB1.trans rfl
      refine vx_catch (own := RL) (name := "java/lang/IndexOutOfBoundsException") hown [] ⟨0, 12, 15, 21⟩ [⟨0, 12, 19, 13⟩] htab (fun z hz => ?_) (by decide) (by decide) (hts (.classLink RL 21 "java/lang/IndexOutOfBoundsException") (List.mem_of_getElem? (i := 1) rfl)) (hG.2.2.2.2.2.2.1.1 ("java/lang/IndexOutOfBoundsException", "java/lang/IndexOutOfBoundsException") (by decide)) hc1 hc2 hc3 ?_
      · cases hz
      · refine lv_astore (lv' := [(5, .ref q9), (0, .ref h), (1, .int b), (2, .int k), (3, .int uu), (4, .ref oa)]) hx hb dL_paper_15 hl (by decide) rfl (fun ls hl => ?_)
        refine lv_iconst (v := nI 1) hx hb dL_paper_17 (by decide) ?_
        refine W.widen (k := 1) (n := 6) (Nat.le_of_eq (Nat.zero_add _)) (Nat.le_of_eq (Nat.zero_add _)) ?_
        exact W.iret (v := nI 1) hx hb hr (fun U9 ht9 hW9 => ⟨⟨_, (ws, x), rfl, ⟨by rw [← hk9]; rfl, by rw [← hk9]; decide, fun e9 => absurd (hk9.trans e9) (by decide), hcx (fun e9 => absurd (hk9.trans e9) (by decide))⟩, by show va_P D vwCl ws U9.heap ∧ va_at D vwCl (oa, oE cJ x) U9.heap; rw [ht9]; exact ⟨hB3, ho1⟩⟩, hS1.F ht9⟩) hS1.2.2 dL_paper_18 hlocks
    · obtain rfl : E9 = "java/lang/IllegalArgumentException" := hB1.trans rfl
      refine vx_catch (own := RL) (name := "java/lang/IllegalArgumentException") hown [⟨0, 12, 15, 21⟩] ⟨0, 12, 19, 13⟩ [] htab (fun z hz => ?_) (by decide) (by decide) (hts (.classLink RL 13 "java/lang/IllegalArgumentException") (List.mem_of_getElem? (i := 2) rfl)) (hG.2.2.2.2.2.2.1.1 ("java/lang/IllegalArgumentException", "java/lang/IllegalArgumentException") (by decide)) hc1 hc2 hc3 ?_
      · obtain rfl := List.mem_singleton.mp hz
        exact Or.inr ⟨by decide, _, (hts (.classLink RL 21 "java/lang/IndexOutOfBoundsException") (List.mem_of_getElem? (i := 1) rfl)), hn1⟩
      · refine lv_astore (lv' := [(5, .ref q9), (0, .ref h), (1, .int b), (2, .int k), (3, .int uu), (4, .ref oa)]) hx hb dL_paper_19 hl (by decide) rfl (fun ls hl => ?_)
        refine lv_iconst (v := nI 2) hx hb dL_paper_21 (by decide) ?_
        refine W.widen (k := 1) (n := 6) (Nat.le_of_eq (Nat.zero_add _)) (Nat.le_of_eq (Nat.zero_add _)) ?_
        exact W.iret (v := nI 2) hx hb hr (fun U9 ht9 hW9 => ⟨⟨_, (ws, x), rfl, ⟨by rw [← hk9]; rfl, by rw [← hk9]; decide, fun e9 => absurd (hk9.trans e9) (by decide), hcx (fun e9 => absurd (hk9.trans e9) (by decide))⟩, by show va_P D vwCl ws U9.heap ∧ va_at D vwCl (oa, oE cJ x) U9.heap; rw [ht9]; exact ⟨hB3, ho1⟩⟩, hS1.F ht9⟩) hS1.2.2 dL_paper_22 hlocks
  · obtain ⟨ek, hrv, hc2⟩ := hu
    replace hB : va_P D vwCl u U8.heap := hB
    rw [ht] at hB
    have ho1 := va_at_keep ho (hk1 oa hoL hno)
    have hD2 : va_D A u := by
      obtain ⟨_, _, _, _, _, _, _, q⟩ := hc2
      exact q
    have hP2 : va_P D vwCl (u ++ [(oa, oE cJ x)]) H1 := va_P_app hB (va_P_one ho1)
    refine lv_i2l (v := Int32.toInt64 r) hx hb dL_paper_10 rfl ?_
    refine va_last hx hb hKJ hP2 (va_D_out hD2 hno) hS1 u.length 0 (by rw [List.getElem?_append_right (Nat.le_refl _), Nat.sub_self]; rfl) rfl (vp_in_nI (by decide) (by decide)) dL_paper_11 (fun H2 locs2 hP3 hD3 hS2 => ?_)
    rw [set_out] at hP3
    refine lv_goto (tgt := 23) hx hb dL_paper_12 (by decide) ?_
    refine lv_iconst (v := nI 0) hx hb dL_paper_23 (by decide) ?_
    refine W.widen (k := 1) (n := 6) (Nat.le_of_eq (Nat.zero_add _)) (Nat.le_of_eq (Nat.zero_add _)) ?_
    exact W.iret (v := nI 0) hx hb hr (fun U9 ht9 hW9 => ⟨⟨_, (u, Int32.toInt64 (r)), rfl, ⟨by rw [ek], by rw [ek]; decide, fun _ => by first | rfl | rw [hrv], hc2⟩, by show va_P D vwCl u U9.heap ∧ va_at D vwCl (oa, oE cJ (Int32.toInt64 (r))) U9.heap; rw [ht9]; exact ⟨va_P_l hP3, out_at (va_P_r hP3 0 _ rfl)⟩⟩, hS2.F ht9⟩) hS2.2.2 dL_paper_24 hlocks
set_option maxHeartbeats 4000000 in
set_option maxRecDepth 100000 in
theorem cL9_bid (l : Launch) (hst : l.stackTraces = false) (D : va_G) (cI cO cb : ClassId) (eA mi : Nat) (st : Nat → Nat) (dO dT : Nat) (vF : Value) {A : Nat → Prop} (ws : va_W) {h : Nat} {M : MS} (hc : cSt cI cO eA st A h M ws) (hM : MI M) (hs : sInj st) (cJ : ClassId) (oa : Nat) (x : Int64) (hno : ¬ A oa) (b : Int32) (t : Int32) (k : Int32) (pr : Int32) (qu : Int32) : Met l yL_bid wsL_bid ({ frames := 9, cells := 6, slots := 132, locals := 217 }) (va_Pc [.ref h, .int b, .int t, .int k, .int pr, .int qu, .ref oa] (lB D cI cO cb eA mi st dO dT vF A ws cJ oa x)) (va_Qi (fun (ri : Int32) (u : va_W × Int64) => ri = nI (k_bid M b t k pr qu) ∧ k_bid M b t k pr qu ≤ 3 ∧ (k_bid M b t k pr qu = 0 → u.2 = Int32.toInt64 (r_bid M b t k pr qu)) ∧ cSt cI cO eA st A h (g_bid M b t k pr qu) u.1) (fun u U9 => va_P D vwCl u.1 U9.heap ∧ va_at D vwCl (oa, oE cJ u.2) U9.heap) (fun q => A q ∨ q = oa)) 6 132 (fun q => A q ∨ q = oa) := by
  have hcx : k_bid M b t k pr qu ≠ 0 → cSt cI cO eA st A h (g_bid M b t k pr qu) ws := fun e9 => by
    have e8 : g_bid M b t k pr qu = M := by
      unfold g_bid
      exact if_neg e9
    rw [e8]; exact hc
  obtain ⟨k9, hk9, hk9S, hMet⟩ := cq_bid l hst D cI cO cb eA mi st ws hc hM hs b t k pr qu
  obtain ⟨own9, kd, F, L, hC, hW, ⟨tn, lo, aw, co, ct, ow, G⟩, hD⟩ := hc
  have hm_1 : (h, .inr (9, [.ref (F 0 h), .ref (F 1 h), .ref (F 2 h), .ref (F 3 h), .ref (F 4 h), .int (nI (F 5 h))])) ∈ ws := hC.at G.1.1 (by decide) (by decide)
  refine met_ofWH (cc := cL_bid) (maxL := 8) (ret := (some .int)) (hh := [(0, 16, 19, 21), (0, 16, 23, 13), (0, 16, 27, 15)]) (by decide) rfl ?_
  intro p e s m args below meth c s₁ B hml htab hv
  obtain ⟨rfl, ⟨hP, hK, ⟨hG, hGT⟩, hA⟩, hKJ, ho, hoL, hn1, hn2, hn3⟩ := hv
  have hx := B.exec
  have hb := B.bytes
  have hr := B.returns
  have hts := atoms_spec (ws := wsL_bid) B.pre
  have hown : s.vm.findClass RL = some m.cls := findClass_of_methodNamed B.named
  have hlocks := B.notSynchronized
  have hS : va_S (fun q => A q ∨ q = oa) s.heap s.heap [] := va_S.rf
  have hSA : va_S A s.heap s.heap [] := va_S.rf
  have hl := lv_entry ([.ref h, .int b, .int t, .int k, .int pr, .int qu, .ref oa]) (n := 8) (Nat.le_of_ble_eq_true rfl)
  rw [lg_entry_eq]
  generalize (lg_sl ([.ref h, .int b, .int t, .int k, .int pr, .int qu, .ref oa]) ++ List.replicate (8 - (lg_sl ([.ref h, .int b, .int t, .int k, .int pr, .int qu, .ref oa])).length) Slot.unset).toArray = ls at hl ⊢
  have hl : lv_has ls 8 [(0, .ref h), (1, .int b), (2, .int t), (3, .int k), (4, .int pr), (5, .int qu), (6, .ref oa)] := hl
  refine lv_aload hx hb dL_bid_0 (lv_at hl 6 rfl) ?_
  refine lv_iconst (v := nI 0) hx hb dL_bid_2 (by decide) ?_
  refine lv_aload_n hx hb dL_bid_3 rfl (lv_at hl 0 rfl) ?_
  refine lv_iload_n hx hb dL_bid_4 rfl (lv_at hl 1 rfl) ?_
  refine lv_iload_n hx hb dL_bid_5 rfl (lv_at hl 2 rfl) ?_
  refine lv_iload_n hx hb dL_bid_6 rfl (lv_at hl 3 rfl) ?_
  refine lv_iload hx hb dL_bid_7 (lv_at hl 4 rfl) ?_
  refine lv_iload hx hb dL_bid_9 (lv_at hl 5 rfl) ?_
  refine vx_calli (vx_runV (As := [.int b, .int t, .int k, .int pr, .int qu]) (rest := [.int (nI 0), .ref oa]) ⟨hx, hb, hml, hown, hts⟩ hMet (cwV 5 hts gL_bid_X8_bid rfl rfl rfl kd_X8_bid ⟨Nat.le_of_ble_eq_true rfl, Nat.le_of_ble_eq_true rfl⟩) ⟨cB_blind, c_recv hK hP rfl hm_1, cB_pre hK hG hA hSA hP _⟩ rfl rfl hl.1 rfl (lv_room (Nat.le_of_ble_eq_true rfl)) dL_bid_11 ⟨Nat.le_of_eq (Nat.zero_add _), Nat.le_of_eq (Nat.zero_add _)⟩) hS (fun _ _ h => Or.inl h) (fun _ h => Or.inl h) (fun _ _ h => Or.inl h) (fun E9 ce9 q9 u9 U8 H1 locs1 ht hvm hu hB hz1 hk1 hS1 hc1 hc2 hc3 => ?_) (fun r u U8 H1 locs1 ht hvm hu hB hz1 hk1 hS1 => ?_)
  · obtain ⟨hB1, hB2, hB3⟩ := hB
    rw [ht] at hB3
    have ho1 := va_at_keep ho (hk1 oa hoL hno)
    simp only [List.mem_cons, List.not_mem_nil, or_false] at hk9S
    rcases hk9S with rfl | rfl | rfl | rfl
    · exact absurd rfl hB2
    · obtain rfl : E9 = "java/lang/IndexOutOfBoundsException" := hB1.trans rfl
      refine vx_catch (own := RL) (name := "java/lang/IndexOutOfBoundsException") hown [] ⟨0, 16, 19, 21⟩ [⟨0, 16, 23, 13⟩, ⟨0, 16, 27, 15⟩] htab (fun z hz => ?_) (by decide) (by decide) (hts (.classLink RL 21 "java/lang/IndexOutOfBoundsException") (List.mem_of_getElem? (i := 1) rfl)) (hG.2.2.2.2.2.2.1.1 ("java/lang/IndexOutOfBoundsException", "java/lang/IndexOutOfBoundsException") (by decide)) hc1 hc2 hc3 ?_
      · cases hz
      · refine lv_astore (lv' := [(7, .ref q9), (0, .ref h), (1, .int b), (2, .int t), (3, .int k), (4, .int pr), (5, .int qu), (6, .ref oa)]) hx hb dL_bid_19 hl (by decide) rfl (fun ls hl => ?_)
        refine lv_iconst (v := nI 1) hx hb dL_bid_21 (by decide) ?_
        refine W.widen (k := 6) (n := 132) (Nat.le_of_eq (Nat.zero_add _)) (Nat.le_of_eq (Nat.zero_add _)) ?_
        exact W.iret (v := nI 1) hx hb hr (fun U9 ht9 hW9 => ⟨⟨_, (ws, x), rfl, ⟨by rw [← hk9]; rfl, by rw [← hk9]; decide, fun e9 => absurd (hk9.trans e9) (by decide), hcx (fun e9 => absurd (hk9.trans e9) (by decide))⟩, by show va_P D vwCl ws U9.heap ∧ va_at D vwCl (oa, oE cJ x) U9.heap; rw [ht9]; exact ⟨hB3, ho1⟩⟩, hS1.F ht9⟩) hS1.2.2 dL_bid_22 hlocks
    · obtain rfl : E9 = "java/lang/IllegalArgumentException" := hB1.trans rfl
      refine vx_catch (own := RL) (name := "java/lang/IllegalArgumentException") hown [⟨0, 16, 19, 21⟩] ⟨0, 16, 23, 13⟩ [⟨0, 16, 27, 15⟩] htab (fun z hz => ?_) (by decide) (by decide) (hts (.classLink RL 13 "java/lang/IllegalArgumentException") (List.mem_of_getElem? (i := 2) rfl)) (hG.2.2.2.2.2.2.1.1 ("java/lang/IllegalArgumentException", "java/lang/IllegalArgumentException") (by decide)) hc1 hc2 hc3 ?_
      · obtain rfl := List.mem_singleton.mp hz
        exact Or.inr ⟨by decide, _, (hts (.classLink RL 21 "java/lang/IndexOutOfBoundsException") (List.mem_of_getElem? (i := 1) rfl)), hn1⟩
      · refine lv_astore (lv' := [(7, .ref q9), (0, .ref h), (1, .int b), (2, .int t), (3, .int k), (4, .int pr), (5, .int qu), (6, .ref oa)]) hx hb dL_bid_23 hl (by decide) rfl (fun ls hl => ?_)
        refine lv_iconst (v := nI 2) hx hb dL_bid_25 (by decide) ?_
        refine W.widen (k := 6) (n := 132) (Nat.le_of_eq (Nat.zero_add _)) (Nat.le_of_eq (Nat.zero_add _)) ?_
        exact W.iret (v := nI 2) hx hb hr (fun U9 ht9 hW9 => ⟨⟨_, (ws, x), rfl, ⟨by rw [← hk9]; rfl, by rw [← hk9]; decide, fun e9 => absurd (hk9.trans e9) (by decide), hcx (fun e9 => absurd (hk9.trans e9) (by decide))⟩, by show va_P D vwCl ws U9.heap ∧ va_at D vwCl (oa, oE cJ x) U9.heap; rw [ht9]; exact ⟨hB3, ho1⟩⟩, hS1.F ht9⟩) hS1.2.2 dL_bid_26 hlocks
    · obtain rfl : E9 = "java/lang/IllegalStateException" := hB1.trans rfl
      refine vx_catch (own := RL) (name := "java/lang/IllegalStateException") hown [⟨0, 16, 19, 21⟩, ⟨0, 16, 23, 13⟩] ⟨0, 16, 27, 15⟩ [] htab (fun z hz => ?_) (by decide) (by decide) (hts (.classLink RL 15 "java/lang/IllegalStateException") (List.mem_of_getElem? (i := 3) rfl)) (hG.2.2.2.2.2.2.1.1 ("java/lang/IllegalStateException", "java/lang/IllegalStateException") (by decide)) hc1 hc2 hc3 ?_
      · rcases List.mem_cons.mp hz with rfl | hz
        · exact Or.inr ⟨by decide, _, (hts (.classLink RL 21 "java/lang/IndexOutOfBoundsException") (List.mem_of_getElem? (i := 1) rfl)), hn2⟩
        · obtain rfl := List.mem_singleton.mp hz
          exact Or.inr ⟨by decide, _, (hts (.classLink RL 13 "java/lang/IllegalArgumentException") (List.mem_of_getElem? (i := 2) rfl)), hn3⟩
      · refine lv_astore (lv' := [(7, .ref q9), (0, .ref h), (1, .int b), (2, .int t), (3, .int k), (4, .int pr), (5, .int qu), (6, .ref oa)]) hx hb dL_bid_27 hl (by decide) rfl (fun ls hl => ?_)
        refine lv_iconst (v := nI 3) hx hb dL_bid_29 (by decide) ?_
        refine W.widen (k := 6) (n := 132) (Nat.le_of_eq (Nat.zero_add _)) (Nat.le_of_eq (Nat.zero_add _)) ?_
        exact W.iret (v := nI 3) hx hb hr (fun U9 ht9 hW9 => ⟨⟨_, (ws, x), rfl, ⟨by rw [← hk9]; rfl, by rw [← hk9]; decide, fun e9 => absurd (hk9.trans e9) (by decide), hcx (fun e9 => absurd (hk9.trans e9) (by decide))⟩, by show va_P D vwCl ws U9.heap ∧ va_at D vwCl (oa, oE cJ x) U9.heap; rw [ht9]; exact ⟨hB3, ho1⟩⟩, hS1.F ht9⟩) hS1.2.2 dL_bid_30 hlocks
  · obtain ⟨ek, hrv, hc2⟩ := hu
    replace hB : va_P D vwCl u U8.heap := hB
    rw [ht] at hB
    have ho1 := va_at_keep ho (hk1 oa hoL hno)
    have hD2 : va_D A u := by
      obtain ⟨_, _, _, _, _, _, _, q⟩ := hc2
      exact q
    have hP2 : va_P D vwCl (u ++ [(oa, oE cJ x)]) H1 := va_P_app hB (va_P_one ho1)
    refine lv_i2l (v := Int32.toInt64 r) hx hb dL_bid_14 rfl ?_
    refine va_last hx hb hKJ hP2 (va_D_out hD2 hno) hS1 u.length 0 (by rw [List.getElem?_append_right (Nat.le_refl _), Nat.sub_self]; rfl) rfl (vp_in_nI (by decide) (by decide)) dL_bid_15 (fun H2 locs2 hP3 hD3 hS2 => ?_)
    rw [set_out] at hP3
    refine lv_goto (tgt := 31) hx hb dL_bid_16 (by decide) ?_
    refine lv_iconst (v := nI 0) hx hb dL_bid_31 (by decide) ?_
    refine W.widen (k := 6) (n := 132) (Nat.le_of_eq (Nat.zero_add _)) (Nat.le_of_eq (Nat.zero_add _)) ?_
    exact W.iret (v := nI 0) hx hb hr (fun U9 ht9 hW9 => ⟨⟨_, (u, Int32.toInt64 (r)), rfl, ⟨by rw [ek], by rw [ek]; decide, fun _ => by first | rfl | rw [hrv], hc2⟩, by show va_P D vwCl u U9.heap ∧ va_at D vwCl (oa, oE cJ (Int32.toInt64 (r))) U9.heap; rw [ht9]; exact ⟨va_P_l hP3, out_at (va_P_r hP3 0 _ rfl)⟩⟩, hS2.F ht9⟩) hS2.2.2 dL_bid_32 hlocks
set_option maxHeartbeats 4000000 in
set_option maxRecDepth 100000 in
theorem cL9_withdraw (l : Launch) (hst : l.stackTraces = false) (D : va_G) (cI cO cb : ClassId) (eA mi : Nat) (st : Nat → Nat) (dO dT : Nat) (vF : Value) {A : Nat → Prop} (ws : va_W) {h : Nat} {M : MS} (hc : cSt cI cO eA st A h M ws) (hM : MI M) (hs : sInj st) (cJ : ClassId) (oa : Nat) (x : Int64) (hno : ¬ A oa) (b : Int32) (t : Int32) (k : Int32) : Met l yL_withdraw wsL_withdraw ({ frames := 9, cells := 4, slots := 24, locals := 153 }) (va_Pc [.ref h, .int b, .int t, .int k, .ref oa] (lB D cI cO cb eA mi st dO dT vF A ws cJ oa x)) (va_Qi (fun (ri : Int32) (u : va_W × Int64) => ri = nI (k_withdraw M b t k) ∧ k_withdraw M b t k ≤ 3 ∧ (k_withdraw M b t k = 0 → u.2 = Int32.toInt64 (r_withdraw M b t k)) ∧ cSt cI cO eA st A h (g_withdraw M b t k) u.1) (fun u U9 => va_P D vwCl u.1 U9.heap ∧ va_at D vwCl (oa, oE cJ u.2) U9.heap) (fun q => A q ∨ q = oa)) 4 24 (fun q => A q ∨ q = oa) := by
  have hcx : k_withdraw M b t k ≠ 0 → cSt cI cO eA st A h (g_withdraw M b t k) ws := fun e9 => by
    have e8 : g_withdraw M b t k = M := by
      unfold g_withdraw
      exact if_neg e9
    rw [e8]; exact hc
  obtain ⟨k9, hk9, hk9S, hMet⟩ := cq_withdraw l hst D cI cO cb eA mi st ws hc hM hs b t k
  obtain ⟨own9, kd, F, L, hC, hW, ⟨tn, lo, aw, co, ct, ow, G⟩, hD⟩ := hc
  have hm_1 : (h, .inr (9, [.ref (F 0 h), .ref (F 1 h), .ref (F 2 h), .ref (F 3 h), .ref (F 4 h), .int (nI (F 5 h))])) ∈ ws := hC.at G.1.1 (by decide) (by decide)
  refine met_ofWH (cc := cL_withdraw) (maxL := 6) (ret := (some .int)) (hh := [(0, 12, 15, 21), (0, 12, 19, 15)]) (by decide) rfl ?_
  intro p e s m args below meth c s₁ B hml htab hv
  obtain ⟨rfl, ⟨hP, hK, ⟨hG, hGT⟩, hA⟩, hKJ, ho, hoL, hn1, hn2, hn3⟩ := hv
  have hx := B.exec
  have hb := B.bytes
  have hr := B.returns
  have hts := atoms_spec (ws := wsL_withdraw) B.pre
  have hown : s.vm.findClass RL = some m.cls := findClass_of_methodNamed B.named
  have hlocks := B.notSynchronized
  have hS : va_S (fun q => A q ∨ q = oa) s.heap s.heap [] := va_S.rf
  have hSA : va_S A s.heap s.heap [] := va_S.rf
  have hl := lv_entry ([.ref h, .int b, .int t, .int k, .ref oa]) (n := 6) (Nat.le_of_ble_eq_true rfl)
  rw [lg_entry_eq]
  generalize (lg_sl ([.ref h, .int b, .int t, .int k, .ref oa]) ++ List.replicate (6 - (lg_sl ([.ref h, .int b, .int t, .int k, .ref oa])).length) Slot.unset).toArray = ls at hl ⊢
  have hl : lv_has ls 6 [(0, .ref h), (1, .int b), (2, .int t), (3, .int k), (4, .ref oa)] := hl
  refine lv_aload hx hb dL_withdraw_0 (lv_at hl 4 rfl) ?_
  refine lv_iconst (v := nI 0) hx hb dL_withdraw_2 (by decide) ?_
  refine lv_aload_n hx hb dL_withdraw_3 rfl (lv_at hl 0 rfl) ?_
  refine lv_iload_n hx hb dL_withdraw_4 rfl (lv_at hl 1 rfl) ?_
  refine lv_iload_n hx hb dL_withdraw_5 rfl (lv_at hl 2 rfl) ?_
  refine lv_iload_n hx hb dL_withdraw_6 rfl (lv_at hl 3 rfl) ?_
  refine vx_calli (vx_runV (As := [.int b, .int t, .int k]) (rest := [.int (nI 0), .ref oa]) ⟨hx, hb, hml, hown, hts⟩ hMet (cwV 3 hts gL_withdraw_X8_withdraw rfl rfl rfl kd_X8_withdraw ⟨Nat.le_of_ble_eq_true rfl, Nat.le_of_ble_eq_true rfl⟩) ⟨cB_blind, c_recv hK hP rfl hm_1, cB_pre hK hG hA hSA hP _⟩ rfl rfl hl.1 rfl (lv_room (Nat.le_of_ble_eq_true rfl)) dL_withdraw_7 ⟨Nat.le_of_eq (Nat.zero_add _), Nat.le_of_eq (Nat.zero_add _)⟩) hS (fun _ _ h => Or.inl h) (fun _ h => Or.inl h) (fun _ _ h => Or.inl h) (fun E9 ce9 q9 u9 U8 H1 locs1 ht hvm hu hB hz1 hk1 hS1 hc1 hc2 hc3 => ?_) (fun r u U8 H1 locs1 ht hvm hu hB hz1 hk1 hS1 => ?_)
  · obtain ⟨hB1, hB2, hB3⟩ := hB
    rw [ht] at hB3
    have ho1 := va_at_keep ho (hk1 oa hoL hno)
    simp only [List.mem_cons, List.not_mem_nil, or_false] at hk9S
    rcases hk9S with rfl | rfl | rfl
    · exact absurd rfl hB2
    · obtain rfl : E9 = "java/lang/IndexOutOfBoundsException" := hB1.trans rfl
      refine vx_catch (own := RL) (name := "java/lang/IndexOutOfBoundsException") hown [] ⟨0, 12, 15, 21⟩ [⟨0, 12, 19, 15⟩] htab (fun z hz => ?_) (by decide) (by decide) (hts (.classLink RL 21 "java/lang/IndexOutOfBoundsException") (List.mem_of_getElem? (i := 1) rfl)) (hG.2.2.2.2.2.2.1.1 ("java/lang/IndexOutOfBoundsException", "java/lang/IndexOutOfBoundsException") (by decide)) hc1 hc2 hc3 ?_
      · cases hz
      · refine lv_astore (lv' := [(5, .ref q9), (0, .ref h), (1, .int b), (2, .int t), (3, .int k), (4, .ref oa)]) hx hb dL_withdraw_15 hl (by decide) rfl (fun ls hl => ?_)
        refine lv_iconst (v := nI 1) hx hb dL_withdraw_17 (by decide) ?_
        refine W.widen (k := 4) (n := 24) (Nat.le_of_eq (Nat.zero_add _)) (Nat.le_of_eq (Nat.zero_add _)) ?_
        exact W.iret (v := nI 1) hx hb hr (fun U9 ht9 hW9 => ⟨⟨_, (ws, x), rfl, ⟨by rw [← hk9]; rfl, by rw [← hk9]; decide, fun e9 => absurd (hk9.trans e9) (by decide), hcx (fun e9 => absurd (hk9.trans e9) (by decide))⟩, by show va_P D vwCl ws U9.heap ∧ va_at D vwCl (oa, oE cJ x) U9.heap; rw [ht9]; exact ⟨hB3, ho1⟩⟩, hS1.F ht9⟩) hS1.2.2 dL_withdraw_18 hlocks
    · obtain rfl : E9 = "java/lang/IllegalStateException" := hB1.trans rfl
      refine vx_catch (own := RL) (name := "java/lang/IllegalStateException") hown [⟨0, 12, 15, 21⟩] ⟨0, 12, 19, 15⟩ [] htab (fun z hz => ?_) (by decide) (by decide) (hts (.classLink RL 15 "java/lang/IllegalStateException") (List.mem_of_getElem? (i := 2) rfl)) (hG.2.2.2.2.2.2.1.1 ("java/lang/IllegalStateException", "java/lang/IllegalStateException") (by decide)) hc1 hc2 hc3 ?_
      · obtain rfl := List.mem_singleton.mp hz
        exact Or.inr ⟨by decide, _, (hts (.classLink RL 21 "java/lang/IndexOutOfBoundsException") (List.mem_of_getElem? (i := 1) rfl)), hn2⟩
      · refine lv_astore (lv' := [(5, .ref q9), (0, .ref h), (1, .int b), (2, .int t), (3, .int k), (4, .ref oa)]) hx hb dL_withdraw_19 hl (by decide) rfl (fun ls hl => ?_)
        refine lv_iconst (v := nI 2) hx hb dL_withdraw_21 (by decide) ?_
        refine W.widen (k := 4) (n := 24) (Nat.le_of_eq (Nat.zero_add _)) (Nat.le_of_eq (Nat.zero_add _)) ?_
        exact W.iret (v := nI 2) hx hb hr (fun U9 ht9 hW9 => ⟨⟨_, (ws, x), rfl, ⟨by rw [← hk9]; rfl, by rw [← hk9]; decide, fun e9 => absurd (hk9.trans e9) (by decide), hcx (fun e9 => absurd (hk9.trans e9) (by decide))⟩, by show va_P D vwCl ws U9.heap ∧ va_at D vwCl (oa, oE cJ x) U9.heap; rw [ht9]; exact ⟨hB3, ho1⟩⟩, hS1.F ht9⟩) hS1.2.2 dL_withdraw_22 hlocks
  · obtain ⟨ek, hrv, hc2⟩ := hu
    replace hB : va_P D vwCl u U8.heap := hB
    rw [ht] at hB
    have ho1 := va_at_keep ho (hk1 oa hoL hno)
    have hD2 : va_D A u := by
      obtain ⟨_, _, _, _, _, _, _, q⟩ := hc2
      exact q
    have hP2 : va_P D vwCl (u ++ [(oa, oE cJ x)]) H1 := va_P_app hB (va_P_one ho1)
    refine lv_i2l (v := Int32.toInt64 r) hx hb dL_withdraw_10 rfl ?_
    refine va_last hx hb hKJ hP2 (va_D_out hD2 hno) hS1 u.length 0 (by rw [List.getElem?_append_right (Nat.le_refl _), Nat.sub_self]; rfl) rfl (vp_in_nI (by decide) (by decide)) dL_withdraw_11 (fun H2 locs2 hP3 hD3 hS2 => ?_)
    rw [set_out] at hP3
    refine lv_goto (tgt := 23) hx hb dL_withdraw_12 (by decide) ?_
    refine lv_iconst (v := nI 0) hx hb dL_withdraw_23 (by decide) ?_
    refine W.widen (k := 4) (n := 24) (Nat.le_of_eq (Nat.zero_add _)) (Nat.le_of_eq (Nat.zero_add _)) ?_
    exact W.iret (v := nI 0) hx hb hr (fun U9 ht9 hW9 => ⟨⟨_, (u, Int32.toInt64 (r)), rfl, ⟨by rw [ek], by rw [ek]; decide, fun _ => by first | rfl | rw [hrv], hc2⟩, by show va_P D vwCl u U9.heap ∧ va_at D vwCl (oa, oE cJ (Int32.toInt64 (r))) U9.heap; rw [ht9]; exact ⟨va_P_l hP3, out_at (va_P_r hP3 0 _ rfl)⟩⟩, hS2.F ht9⟩) hS2.2.2 dL_withdraw_24 hlocks
set_option maxHeartbeats 4000000 in
set_option maxRecDepth 100000 in
theorem cL9_pass (l : Launch) (hst : l.stackTraces = false) (D : va_G) (cI cO cb : ClassId) (eA mi : Nat) (st : Nat → Nat) (dO dT : Nat) (vF : Value) {A : Nat → Prop} (ws : va_W) {h : Nat} {M : MS} (hc : cSt cI cO eA st A h M ws) (hM : MI M) (hs : sInj st) (hLB : m_LB M) (cJ : ClassId) (oa : Nat) (x : Int64) (hno : ¬ A oa) (dd : Int32) : Met l yL_pass wsL_pass ({ frames := 11, cells := (4 * dyN M dd dd.toNatClampNeg + 1), slots := (202 * dyN M dd dd.toNatClampNeg + 6), locals := 283 }) (va_Pc [.ref h, .int dd, .ref oa] (lB D cI cO cb eA mi st dO dT vF A ws cJ oa x)) (va_Qi (fun (ri : Int32) (u : va_W × Int64) => ri = nI (k_pass M dd) ∧ k_pass M dd ≤ 3 ∧ (k_pass M dd = 0 → u.2 = Int32.toInt64 (r_pass M dd)) ∧ cSt cI cO eA st A h (g_pass M dd) u.1) (fun u U9 => va_P D vwCl u.1 U9.heap ∧ va_at D vwCl (oa, oE cJ u.2) U9.heap) (fun q => A q ∨ q = oa)) (4 * dyN M dd dd.toNatClampNeg + 1) (202 * dyN M dd dd.toNatClampNeg + 6) (fun q => A q ∨ q = oa) := by
  have hcx : k_pass M dd ≠ 0 → cSt cI cO eA st A h (g_pass M dd) ws := fun e9 => by
    have e8 : g_pass M dd = M := by
      unfold g_pass
      exact if_neg e9
    rw [e8]; exact hc
  obtain ⟨k9, hk9, hk9S, hMet⟩ := cq_pass l hst D cI cO cb eA mi st ws hc hM hs hLB dd
  obtain ⟨own9, kd, F, L, hC, hW, ⟨tn, lo, aw, co, ct, ow, G⟩, hD⟩ := hc
  have hm_1 : (h, .inr (9, [.ref (F 0 h), .ref (F 1 h), .ref (F 2 h), .ref (F 3 h), .ref (F 4 h), .int (nI (F 5 h))])) ∈ ws := hC.at G.1.1 (by decide) (by decide)
  refine met_ofWH (cc := cL_pass) (maxL := 4) (ret := (some .int)) (hh := [(0, 9, 12, 13), (0, 9, 15, 15)]) (by decide) rfl ?_
  intro p e s m args below meth c s₁ B hml htab hv
  obtain ⟨rfl, ⟨hP, hK, ⟨hG, hGT⟩, hA⟩, hKJ, ho, hoL, hn1, hn2, hn3⟩ := hv
  have hx := B.exec
  have hb := B.bytes
  have hr := B.returns
  have hts := atoms_spec (ws := wsL_pass) B.pre
  have hown : s.vm.findClass RL = some m.cls := findClass_of_methodNamed B.named
  have hlocks := B.notSynchronized
  have hS : va_S (fun q => A q ∨ q = oa) s.heap s.heap [] := va_S.rf
  have hSA : va_S A s.heap s.heap [] := va_S.rf
  have hl := lv_entry ([.ref h, .int dd, .ref oa]) (n := 4) (Nat.le_of_ble_eq_true rfl)
  rw [lg_entry_eq]
  generalize (lg_sl ([.ref h, .int dd, .ref oa]) ++ List.replicate (4 - (lg_sl ([.ref h, .int dd, .ref oa])).length) Slot.unset).toArray = ls at hl ⊢
  have hl : lv_has ls 4 [(0, .ref h), (1, .int dd), (2, .ref oa)] := hl
  refine lv_aload_n hx hb dL_pass_0 rfl (lv_at hl 2 rfl) ?_
  refine lv_iconst (v := nI 0) hx hb dL_pass_1 (by decide) ?_
  refine lv_aload_n hx hb dL_pass_2 rfl (lv_at hl 0 rfl) ?_
  refine lv_iload_n hx hb dL_pass_3 rfl (lv_at hl 1 rfl) ?_
  refine vx_calli (vx_runV (As := [.int dd]) (rest := [.int (nI 0), .ref oa]) ⟨hx, hb, hml, hown, hts⟩ hMet (cwV 1 hts gL_pass_X8_pass rfl rfl rfl kd_X8_pass ⟨Nat.le_of_ble_eq_true rfl, Nat.le_of_ble_eq_true rfl⟩) ⟨cB_blind, c_recv hK hP rfl hm_1, cB_pre hK hG hA hSA hP _⟩ rfl rfl hl.1 rfl (lv_room (Nat.le_of_ble_eq_true rfl)) dL_pass_4 ⟨Nat.le_of_eq (Nat.zero_add _), Nat.le_of_eq (Nat.zero_add _)⟩) hS (fun _ _ h => Or.inl h) (fun _ h => Or.inl h) (fun _ _ h => Or.inl h) (fun E9 ce9 q9 u9 U8 H1 locs1 ht hvm hu hB hz1 hk1 hS1 hc1 hc2 hc3 => ?_) (fun r u U8 H1 locs1 ht hvm hu hB hz1 hk1 hS1 => ?_)
  · obtain ⟨hB1, hB2, hB3⟩ := hB
    rw [ht] at hB3
    have ho1 := va_at_keep ho (hk1 oa hoL hno)
    simp only [List.mem_cons, List.not_mem_nil, or_false] at hk9S
    rcases hk9S with rfl | rfl | rfl
    · exact absurd rfl hB2
    · obtain rfl : E9 = "java/lang/IllegalArgumentException" := hB1.trans rfl
      refine vx_catch (own := RL) (name := "java/lang/IllegalArgumentException") hown [] ⟨0, 9, 12, 13⟩ [⟨0, 9, 15, 15⟩] htab (fun z hz => ?_) (by decide) (by decide) (hts (.classLink RL 13 "java/lang/IllegalArgumentException") (List.mem_of_getElem? (i := 1) rfl)) (hG.2.2.2.2.2.2.1.1 ("java/lang/IllegalArgumentException", "java/lang/IllegalArgumentException") (by decide)) hc1 hc2 hc3 ?_
      · cases hz
      · refine lv_astore_n (lv' := [(3, .ref q9), (0, .ref h), (1, .int dd), (2, .ref oa)]) hx hb dL_pass_12 rfl hl (by decide) rfl (fun ls hl => ?_)
        refine lv_iconst (v := nI 1) hx hb dL_pass_13 (by decide) ?_
        refine W.widen (k := (4 * dyN M dd dd.toNatClampNeg + 1)) (n := (202 * dyN M dd dd.toNatClampNeg + 6)) (Nat.le_of_eq (Nat.zero_add _)) (Nat.le_of_eq (Nat.zero_add _)) ?_
        exact W.iret (v := nI 1) hx hb hr (fun U9 ht9 hW9 => ⟨⟨_, (ws, x), rfl, ⟨by rw [← hk9]; rfl, by rw [← hk9]; decide, fun e9 => absurd (hk9.trans e9) (by decide), hcx (fun e9 => absurd (hk9.trans e9) (by decide))⟩, by show va_P D vwCl ws U9.heap ∧ va_at D vwCl (oa, oE cJ x) U9.heap; rw [ht9]; exact ⟨hB3, ho1⟩⟩, hS1.F ht9⟩) hS1.2.2 dL_pass_14 hlocks
    · obtain rfl : E9 = "java/lang/IllegalStateException" := hB1.trans rfl
      refine vx_catch (own := RL) (name := "java/lang/IllegalStateException") hown [⟨0, 9, 12, 13⟩] ⟨0, 9, 15, 15⟩ [] htab (fun z hz => ?_) (by decide) (by decide) (hts (.classLink RL 15 "java/lang/IllegalStateException") (List.mem_of_getElem? (i := 2) rfl)) (hG.2.2.2.2.2.2.1.1 ("java/lang/IllegalStateException", "java/lang/IllegalStateException") (by decide)) hc1 hc2 hc3 ?_
      · obtain rfl := List.mem_singleton.mp hz
        exact Or.inr ⟨by decide, _, (hts (.classLink RL 13 "java/lang/IllegalArgumentException") (List.mem_of_getElem? (i := 1) rfl)), hn3⟩
      · refine lv_astore_n (lv' := [(3, .ref q9), (0, .ref h), (1, .int dd), (2, .ref oa)]) hx hb dL_pass_15 rfl hl (by decide) rfl (fun ls hl => ?_)
        refine lv_iconst (v := nI 2) hx hb dL_pass_16 (by decide) ?_
        refine W.widen (k := (4 * dyN M dd dd.toNatClampNeg + 1)) (n := (202 * dyN M dd dd.toNatClampNeg + 6)) (Nat.le_of_eq (Nat.zero_add _)) (Nat.le_of_eq (Nat.zero_add _)) ?_
        exact W.iret (v := nI 2) hx hb hr (fun U9 ht9 hW9 => ⟨⟨_, (ws, x), rfl, ⟨by rw [← hk9]; rfl, by rw [← hk9]; decide, fun e9 => absurd (hk9.trans e9) (by decide), hcx (fun e9 => absurd (hk9.trans e9) (by decide))⟩, by show va_P D vwCl ws U9.heap ∧ va_at D vwCl (oa, oE cJ x) U9.heap; rw [ht9]; exact ⟨hB3, ho1⟩⟩, hS1.F ht9⟩) hS1.2.2 dL_pass_17 hlocks
  · obtain ⟨ek, hrv, hc2⟩ := hu
    replace hB : va_P D vwCl u U8.heap := hB
    rw [ht] at hB
    have ho1 := va_at_keep ho (hk1 oa hoL hno)
    have hD2 : va_D A u := by
      obtain ⟨_, _, _, _, _, _, _, q⟩ := hc2
      exact q
    have hP2 : va_P D vwCl (u ++ [(oa, oE cJ x)]) H1 := va_P_app hB (va_P_one ho1)
    refine lv_i2l (v := Int32.toInt64 r) hx hb dL_pass_7 rfl ?_
    refine va_last hx hb hKJ hP2 (va_D_out hD2 hno) hS1 u.length 0 (by rw [List.getElem?_append_right (Nat.le_refl _), Nat.sub_self]; rfl) rfl (vp_in_nI (by decide) (by decide)) dL_pass_8 (fun H2 locs2 hP3 hD3 hS2 => ?_)
    rw [set_out] at hP3
    refine lv_goto (tgt := 18) hx hb dL_pass_9 (by decide) ?_
    refine lv_iconst (v := nI 0) hx hb dL_pass_18 (by decide) ?_
    refine W.widen (k := (4 * dyN M dd dd.toNatClampNeg + 1)) (n := (202 * dyN M dd dd.toNatClampNeg + 6)) (Nat.le_of_eq (Nat.zero_add _)) (Nat.le_of_eq (Nat.zero_add _)) ?_
    exact W.iret (v := nI 0) hx hb hr (fun U9 ht9 hW9 => ⟨⟨_, (u, Int32.toInt64 (r)), rfl, ⟨by rw [ek], by rw [ek]; decide, fun _ => by first | rfl | rw [hrv], hc2⟩, by show va_P D vwCl u U9.heap ∧ va_at D vwCl (oa, oE cJ (Int32.toInt64 (r))) U9.heap; rw [ht9]; exact ⟨va_P_l hP3, out_at (va_P_r hP3 0 _ rfl)⟩⟩, hS2.F ht9⟩) hS2.2.2 dL_pass_19 hlocks
set_option maxHeartbeats 4000000 in
set_option maxRecDepth 100000 in
theorem cL9_award (l : Launch) (hst : l.stackTraces = false) (D : va_G) (cI cO cb : ClassId) (eA mi : Nat) (st : Nat → Nat) (dO dT : Nat) (vF : Value) {A : Nat → Prop} (ws : va_W) {h : Nat} {M : MS} (hc : cSt cI cO eA st A h M ws) (hM : MI M) (hs : sInj st) (cJ : ClassId) (oa : Nat) (x : Int64) (hno : ¬ A oa) (t : Int32) (k : Int32) : Met l yL_award wsL_award ({ frames := 9, cells := 4, slots := 115, locals := 237 }) (va_Pc [.ref h, .int t, .int k, .ref oa] (lB D cI cO cb eA mi st dO dT vF A ws cJ oa x)) (va_Qi (fun (ri : Int32) (u : va_W × Int64) => ri = nI (k_award M t k) ∧ k_award M t k ≤ 3 ∧ (k_award M t k = 0 → u.2 = Int32.toInt64 (r_award M t k)) ∧ cSt cI cO eA st A h (g_award M t k) u.1) (fun u U9 => va_P D vwCl u.1 U9.heap ∧ va_at D vwCl (oa, oE cJ u.2) U9.heap) (fun q => A q ∨ q = oa)) 4 115 (fun q => A q ∨ q = oa) := by
  have hcx : k_award M t k ≠ 0 → cSt cI cO eA st A h (g_award M t k) ws := fun e9 => by
    have e8 : g_award M t k = M := by
      unfold g_award
      exact if_neg e9
    rw [e8]; exact hc
  obtain ⟨k9, hk9, hk9S, hMet⟩ := cq_award l hst D cI cO cb eA mi st ws hc hM hs t k
  obtain ⟨own9, kd, F, L, hC, hW, ⟨tn, lo, aw, co, ct, ow, G⟩, hD⟩ := hc
  have hm_1 : (h, .inr (9, [.ref (F 0 h), .ref (F 1 h), .ref (F 2 h), .ref (F 3 h), .ref (F 4 h), .int (nI (F 5 h))])) ∈ ws := hC.at G.1.1 (by decide) (by decide)
  refine met_ofWH (cc := cL_award) (maxL := 5) (ret := (some .int)) (hh := [(0, 10, 13, 21), (0, 10, 17, 15)]) (by decide) rfl ?_
  intro p e s m args below meth c s₁ B hml htab hv
  obtain ⟨rfl, ⟨hP, hK, ⟨hG, hGT⟩, hA⟩, hKJ, ho, hoL, hn1, hn2, hn3⟩ := hv
  have hx := B.exec
  have hb := B.bytes
  have hr := B.returns
  have hts := atoms_spec (ws := wsL_award) B.pre
  have hown : s.vm.findClass RL = some m.cls := findClass_of_methodNamed B.named
  have hlocks := B.notSynchronized
  have hS : va_S (fun q => A q ∨ q = oa) s.heap s.heap [] := va_S.rf
  have hSA : va_S A s.heap s.heap [] := va_S.rf
  have hl := lv_entry ([.ref h, .int t, .int k, .ref oa]) (n := 5) (Nat.le_of_ble_eq_true rfl)
  rw [lg_entry_eq]
  generalize (lg_sl ([.ref h, .int t, .int k, .ref oa]) ++ List.replicate (5 - (lg_sl ([.ref h, .int t, .int k, .ref oa])).length) Slot.unset).toArray = ls at hl ⊢
  have hl : lv_has ls 5 [(0, .ref h), (1, .int t), (2, .int k), (3, .ref oa)] := hl
  refine lv_aload_n hx hb dL_award_0 rfl (lv_at hl 3 rfl) ?_
  refine lv_iconst (v := nI 0) hx hb dL_award_1 (by decide) ?_
  refine lv_aload_n hx hb dL_award_2 rfl (lv_at hl 0 rfl) ?_
  refine lv_iload_n hx hb dL_award_3 rfl (lv_at hl 1 rfl) ?_
  refine lv_iload_n hx hb dL_award_4 rfl (lv_at hl 2 rfl) ?_
  refine vx_calli (vx_runV (As := [.int t, .int k]) (rest := [.int (nI 0), .ref oa]) ⟨hx, hb, hml, hown, hts⟩ hMet (cwV 2 hts gL_award_X8_award rfl rfl rfl kd_X8_award ⟨Nat.le_of_ble_eq_true rfl, Nat.le_of_ble_eq_true rfl⟩) ⟨cB_blind, c_recv hK hP rfl hm_1, cB_pre hK hG hA hSA hP _⟩ rfl rfl hl.1 rfl (lv_room (Nat.le_of_ble_eq_true rfl)) dL_award_5 ⟨Nat.le_of_eq (Nat.zero_add _), Nat.le_of_eq (Nat.zero_add _)⟩) hS (fun _ _ h => Or.inl h) (fun _ h => Or.inl h) (fun _ _ h => Or.inl h) (fun E9 ce9 q9 u9 U8 H1 locs1 ht hvm hu hB hz1 hk1 hS1 hc1 hc2 hc3 => ?_) (fun r u U8 H1 locs1 ht hvm hu hB hz1 hk1 hS1 => ?_)
  · obtain ⟨hB1, hB2, hB3⟩ := hB
    rw [ht] at hB3
    have ho1 := va_at_keep ho (hk1 oa hoL hno)
    simp only [List.mem_cons, List.not_mem_nil, or_false] at hk9S
    rcases hk9S with rfl | rfl | rfl
    · exact absurd rfl hB2
    · obtain rfl : E9 = "java/lang/IndexOutOfBoundsException" := hB1.trans rfl
      refine vx_catch (own := RL) (name := "java/lang/IndexOutOfBoundsException") hown [] ⟨0, 10, 13, 21⟩ [⟨0, 10, 17, 15⟩] htab (fun z hz => ?_) (by decide) (by decide) (hts (.classLink RL 21 "java/lang/IndexOutOfBoundsException") (List.mem_of_getElem? (i := 1) rfl)) (hG.2.2.2.2.2.2.1.1 ("java/lang/IndexOutOfBoundsException", "java/lang/IndexOutOfBoundsException") (by decide)) hc1 hc2 hc3 ?_
      · cases hz
      · refine lv_astore (lv' := [(4, .ref q9), (0, .ref h), (1, .int t), (2, .int k), (3, .ref oa)]) hx hb dL_award_13 hl (by decide) rfl (fun ls hl => ?_)
        refine lv_iconst (v := nI 1) hx hb dL_award_15 (by decide) ?_
        refine W.widen (k := 4) (n := 115) (Nat.le_of_eq (Nat.zero_add _)) (Nat.le_of_eq (Nat.zero_add _)) ?_
        exact W.iret (v := nI 1) hx hb hr (fun U9 ht9 hW9 => ⟨⟨_, (ws, x), rfl, ⟨by rw [← hk9]; rfl, by rw [← hk9]; decide, fun e9 => absurd (hk9.trans e9) (by decide), hcx (fun e9 => absurd (hk9.trans e9) (by decide))⟩, by show va_P D vwCl ws U9.heap ∧ va_at D vwCl (oa, oE cJ x) U9.heap; rw [ht9]; exact ⟨hB3, ho1⟩⟩, hS1.F ht9⟩) hS1.2.2 dL_award_16 hlocks
    · obtain rfl : E9 = "java/lang/IllegalStateException" := hB1.trans rfl
      refine vx_catch (own := RL) (name := "java/lang/IllegalStateException") hown [⟨0, 10, 13, 21⟩] ⟨0, 10, 17, 15⟩ [] htab (fun z hz => ?_) (by decide) (by decide) (hts (.classLink RL 15 "java/lang/IllegalStateException") (List.mem_of_getElem? (i := 2) rfl)) (hG.2.2.2.2.2.2.1.1 ("java/lang/IllegalStateException", "java/lang/IllegalStateException") (by decide)) hc1 hc2 hc3 ?_
      · obtain rfl := List.mem_singleton.mp hz
        exact Or.inr ⟨by decide, _, (hts (.classLink RL 21 "java/lang/IndexOutOfBoundsException") (List.mem_of_getElem? (i := 1) rfl)), hn2⟩
      · refine lv_astore (lv' := [(4, .ref q9), (0, .ref h), (1, .int t), (2, .int k), (3, .ref oa)]) hx hb dL_award_17 hl (by decide) rfl (fun ls hl => ?_)
        refine lv_iconst (v := nI 2) hx hb dL_award_19 (by decide) ?_
        refine W.widen (k := 4) (n := 115) (Nat.le_of_eq (Nat.zero_add _)) (Nat.le_of_eq (Nat.zero_add _)) ?_
        exact W.iret (v := nI 2) hx hb hr (fun U9 ht9 hW9 => ⟨⟨_, (ws, x), rfl, ⟨by rw [← hk9]; rfl, by rw [← hk9]; decide, fun e9 => absurd (hk9.trans e9) (by decide), hcx (fun e9 => absurd (hk9.trans e9) (by decide))⟩, by show va_P D vwCl ws U9.heap ∧ va_at D vwCl (oa, oE cJ x) U9.heap; rw [ht9]; exact ⟨hB3, ho1⟩⟩, hS1.F ht9⟩) hS1.2.2 dL_award_20 hlocks
  · obtain ⟨ek, hrv, hc2⟩ := hu
    replace hB : va_P D vwCl u U8.heap := hB
    rw [ht] at hB
    have ho1 := va_at_keep ho (hk1 oa hoL hno)
    have hD2 : va_D A u := by
      obtain ⟨_, _, _, _, _, _, _, q⟩ := hc2
      exact q
    have hP2 : va_P D vwCl (u ++ [(oa, oE cJ x)]) H1 := va_P_app hB (va_P_one ho1)
    refine lv_i2l (v := Int32.toInt64 r) hx hb dL_award_8 rfl ?_
    refine va_last hx hb hKJ hP2 (va_D_out hD2 hno) hS1 u.length 0 (by rw [List.getElem?_append_right (Nat.le_refl _), Nat.sub_self]; rfl) rfl (vp_in_nI (by decide) (by decide)) dL_award_9 (fun H2 locs2 hP3 hD3 hS2 => ?_)
    rw [set_out] at hP3
    refine lv_goto (tgt := 21) hx hb dL_award_10 (by decide) ?_
    refine lv_iconst (v := nI 0) hx hb dL_award_21 (by decide) ?_
    refine W.widen (k := 4) (n := 115) (Nat.le_of_eq (Nat.zero_add _)) (Nat.le_of_eq (Nat.zero_add _)) ?_
    exact W.iret (v := nI 0) hx hb hr (fun U9 ht9 hW9 => ⟨⟨_, (u, Int32.toInt64 (r)), rfl, ⟨by rw [ek], by rw [ek]; decide, fun _ => by first | rfl | rw [hrv], hc2⟩, by show va_P D vwCl u U9.heap ∧ va_at D vwCl (oa, oE cJ (Int32.toInt64 (r))) U9.heap; rw [ht9]; exact ⟨va_P_l hP3, out_at (va_P_r hP3 0 _ rfl)⟩⟩, hS2.F ht9⟩) hS2.2.2 dL_award_22 hlocks
set_option maxHeartbeats 4000000 in
set_option maxRecDepth 100000 in
theorem cL9_complain (l : Launch) (hst : l.stackTraces = false) (D : va_G) (cI cO cb : ClassId) (eA mi : Nat) (st : Nat → Nat) (dO dT : Nat) (vF : Value) {A : Nat → Prop} (ws : va_W) {h : Nat} {M : MS} (hc : cSt cI cO eA st A h M ws) (hM : MI M) (hs : sInj st) (cJ : ClassId) (oa : Nat) (x : Int64) (hno : ¬ A oa) (b : Int32) (i : Int32) (g : Int32) : Met l yL_complain wsL_complain ({ frames := 8, cells := 4, slots := 114, locals := 216 }) (va_Pc [.ref h, .int b, .int i, .int g, .ref oa] (lB D cI cO cb eA mi st dO dT vF A ws cJ oa x)) (va_Qi (fun (ri : Int32) (u : va_W × Int64) => ri = nI (k_complain M b i g) ∧ k_complain M b i g ≤ 3 ∧ (k_complain M b i g = 0 → u.2 = Int32.toInt64 (if k_complain M b i g = 0 then nI (M 22 0) else nI 0)) ∧ cSt cI cO eA st A h (g_complain M b i g) u.1) (fun u U9 => va_P D vwCl u.1 U9.heap ∧ va_at D vwCl (oa, oE cJ u.2) U9.heap) (fun q => A q ∨ q = oa)) 4 114 (fun q => A q ∨ q = oa) := by
  have hcx : k_complain M b i g ≠ 0 → cSt cI cO eA st A h (g_complain M b i g) ws := fun e9 => by
    have e8 : g_complain M b i g = M := by
      unfold g_complain
      exact if_neg e9
    rw [e8]; exact hc
  obtain ⟨k9, hk9, hk9S, hMet⟩ := cq_complain l hst D cI cO cb eA mi st ws hc hM hs b i g
  obtain ⟨own9, kd, F, L, hC, hW, ⟨tn, lo, aw, co, ct, ow, G⟩, hD⟩ := hc
  have hm_1 : (h, .inr (9, [.ref (F 0 h), .ref (F 1 h), .ref (F 2 h), .ref (F 3 h), .ref (F 4 h), .int (nI (F 5 h))])) ∈ ws := hC.at G.1.1 (by decide) (by decide)
  refine met_ofWH (cc := cL_complain) (maxL := 6) (ret := (some .int)) (hh := [(0, 12, 15, 21), (0, 12, 19, 13), (0, 12, 23, 15)]) (by decide) rfl ?_
  intro p e s m args below meth c s₁ B hml htab hv
  obtain ⟨rfl, ⟨hP, hK, ⟨hG, hGT⟩, hA⟩, hKJ, ho, hoL, hn1, hn2, hn3⟩ := hv
  have hx := B.exec
  have hb := B.bytes
  have hr := B.returns
  have hts := atoms_spec (ws := wsL_complain) B.pre
  have hown : s.vm.findClass RL = some m.cls := findClass_of_methodNamed B.named
  have hlocks := B.notSynchronized
  have hS : va_S (fun q => A q ∨ q = oa) s.heap s.heap [] := va_S.rf
  have hSA : va_S A s.heap s.heap [] := va_S.rf
  have hl := lv_entry ([.ref h, .int b, .int i, .int g, .ref oa]) (n := 6) (Nat.le_of_ble_eq_true rfl)
  rw [lg_entry_eq]
  generalize (lg_sl ([.ref h, .int b, .int i, .int g, .ref oa]) ++ List.replicate (6 - (lg_sl ([.ref h, .int b, .int i, .int g, .ref oa])).length) Slot.unset).toArray = ls at hl ⊢
  have hl : lv_has ls 6 [(0, .ref h), (1, .int b), (2, .int i), (3, .int g), (4, .ref oa)] := hl
  refine lv_aload hx hb dL_complain_0 (lv_at hl 4 rfl) ?_
  refine lv_iconst (v := nI 0) hx hb dL_complain_2 (by decide) ?_
  refine lv_aload_n hx hb dL_complain_3 rfl (lv_at hl 0 rfl) ?_
  refine lv_iload_n hx hb dL_complain_4 rfl (lv_at hl 1 rfl) ?_
  refine lv_iload_n hx hb dL_complain_5 rfl (lv_at hl 2 rfl) ?_
  refine lv_iload_n hx hb dL_complain_6 rfl (lv_at hl 3 rfl) ?_
  refine vx_calli (vx_runV (As := [.int b, .int i, .int g]) (rest := [.int (nI 0), .ref oa]) ⟨hx, hb, hml, hown, hts⟩ hMet (cwV 3 hts gL_complain_X8_complain rfl rfl rfl kd_X8_complain ⟨Nat.le_of_ble_eq_true rfl, Nat.le_of_ble_eq_true rfl⟩) ⟨cB_blind, c_recv hK hP rfl hm_1, cB_pre hK hG hA hSA hP _⟩ rfl rfl hl.1 rfl (lv_room (Nat.le_of_ble_eq_true rfl)) dL_complain_7 ⟨Nat.le_of_eq (Nat.zero_add _), Nat.le_of_eq (Nat.zero_add _)⟩) hS (fun _ _ h => Or.inl h) (fun _ h => Or.inl h) (fun _ _ h => Or.inl h) (fun E9 ce9 q9 u9 U8 H1 locs1 ht hvm hu hB hz1 hk1 hS1 hc1 hc2 hc3 => ?_) (fun r u U8 H1 locs1 ht hvm hu hB hz1 hk1 hS1 => ?_)
  · obtain ⟨hB1, hB2, hB3⟩ := hB
    rw [ht] at hB3
    have ho1 := va_at_keep ho (hk1 oa hoL hno)
    simp only [List.mem_cons, List.not_mem_nil, or_false] at hk9S
    rcases hk9S with rfl | rfl | rfl | rfl
    · exact absurd rfl hB2
    · obtain rfl : E9 = "java/lang/IndexOutOfBoundsException" := hB1.trans rfl
      refine vx_catch (own := RL) (name := "java/lang/IndexOutOfBoundsException") hown [] ⟨0, 12, 15, 21⟩ [⟨0, 12, 19, 13⟩, ⟨0, 12, 23, 15⟩] htab (fun z hz => ?_) (by decide) (by decide) (hts (.classLink RL 21 "java/lang/IndexOutOfBoundsException") (List.mem_of_getElem? (i := 1) rfl)) (hG.2.2.2.2.2.2.1.1 ("java/lang/IndexOutOfBoundsException", "java/lang/IndexOutOfBoundsException") (by decide)) hc1 hc2 hc3 ?_
      · cases hz
      · refine lv_astore (lv' := [(5, .ref q9), (0, .ref h), (1, .int b), (2, .int i), (3, .int g), (4, .ref oa)]) hx hb dL_complain_15 hl (by decide) rfl (fun ls hl => ?_)
        refine lv_iconst (v := nI 1) hx hb dL_complain_17 (by decide) ?_
        refine W.widen (k := 4) (n := 114) (Nat.le_of_eq (Nat.zero_add _)) (Nat.le_of_eq (Nat.zero_add _)) ?_
        exact W.iret (v := nI 1) hx hb hr (fun U9 ht9 hW9 => ⟨⟨_, (ws, x), rfl, ⟨by rw [← hk9]; rfl, by rw [← hk9]; decide, fun e9 => absurd (hk9.trans e9) (by decide), hcx (fun e9 => absurd (hk9.trans e9) (by decide))⟩, by show va_P D vwCl ws U9.heap ∧ va_at D vwCl (oa, oE cJ x) U9.heap; rw [ht9]; exact ⟨hB3, ho1⟩⟩, hS1.F ht9⟩) hS1.2.2 dL_complain_18 hlocks
    · obtain rfl : E9 = "java/lang/IllegalArgumentException" := hB1.trans rfl
      refine vx_catch (own := RL) (name := "java/lang/IllegalArgumentException") hown [⟨0, 12, 15, 21⟩] ⟨0, 12, 19, 13⟩ [⟨0, 12, 23, 15⟩] htab (fun z hz => ?_) (by decide) (by decide) (hts (.classLink RL 13 "java/lang/IllegalArgumentException") (List.mem_of_getElem? (i := 2) rfl)) (hG.2.2.2.2.2.2.1.1 ("java/lang/IllegalArgumentException", "java/lang/IllegalArgumentException") (by decide)) hc1 hc2 hc3 ?_
      · obtain rfl := List.mem_singleton.mp hz
        exact Or.inr ⟨by decide, _, (hts (.classLink RL 21 "java/lang/IndexOutOfBoundsException") (List.mem_of_getElem? (i := 1) rfl)), hn1⟩
      · refine lv_astore (lv' := [(5, .ref q9), (0, .ref h), (1, .int b), (2, .int i), (3, .int g), (4, .ref oa)]) hx hb dL_complain_19 hl (by decide) rfl (fun ls hl => ?_)
        refine lv_iconst (v := nI 2) hx hb dL_complain_21 (by decide) ?_
        refine W.widen (k := 4) (n := 114) (Nat.le_of_eq (Nat.zero_add _)) (Nat.le_of_eq (Nat.zero_add _)) ?_
        exact W.iret (v := nI 2) hx hb hr (fun U9 ht9 hW9 => ⟨⟨_, (ws, x), rfl, ⟨by rw [← hk9]; rfl, by rw [← hk9]; decide, fun e9 => absurd (hk9.trans e9) (by decide), hcx (fun e9 => absurd (hk9.trans e9) (by decide))⟩, by show va_P D vwCl ws U9.heap ∧ va_at D vwCl (oa, oE cJ x) U9.heap; rw [ht9]; exact ⟨hB3, ho1⟩⟩, hS1.F ht9⟩) hS1.2.2 dL_complain_22 hlocks
    · obtain rfl : E9 = "java/lang/IllegalStateException" := hB1.trans rfl
      refine vx_catch (own := RL) (name := "java/lang/IllegalStateException") hown [⟨0, 12, 15, 21⟩, ⟨0, 12, 19, 13⟩] ⟨0, 12, 23, 15⟩ [] htab (fun z hz => ?_) (by decide) (by decide) (hts (.classLink RL 15 "java/lang/IllegalStateException") (List.mem_of_getElem? (i := 3) rfl)) (hG.2.2.2.2.2.2.1.1 ("java/lang/IllegalStateException", "java/lang/IllegalStateException") (by decide)) hc1 hc2 hc3 ?_
      · rcases List.mem_cons.mp hz with rfl | hz
        · exact Or.inr ⟨by decide, _, (hts (.classLink RL 21 "java/lang/IndexOutOfBoundsException") (List.mem_of_getElem? (i := 1) rfl)), hn2⟩
        · obtain rfl := List.mem_singleton.mp hz
          exact Or.inr ⟨by decide, _, (hts (.classLink RL 13 "java/lang/IllegalArgumentException") (List.mem_of_getElem? (i := 2) rfl)), hn3⟩
      · refine lv_astore (lv' := [(5, .ref q9), (0, .ref h), (1, .int b), (2, .int i), (3, .int g), (4, .ref oa)]) hx hb dL_complain_23 hl (by decide) rfl (fun ls hl => ?_)
        refine lv_iconst (v := nI 3) hx hb dL_complain_25 (by decide) ?_
        refine W.widen (k := 4) (n := 114) (Nat.le_of_eq (Nat.zero_add _)) (Nat.le_of_eq (Nat.zero_add _)) ?_
        exact W.iret (v := nI 3) hx hb hr (fun U9 ht9 hW9 => ⟨⟨_, (ws, x), rfl, ⟨by rw [← hk9]; rfl, by rw [← hk9]; decide, fun e9 => absurd (hk9.trans e9) (by decide), hcx (fun e9 => absurd (hk9.trans e9) (by decide))⟩, by show va_P D vwCl ws U9.heap ∧ va_at D vwCl (oa, oE cJ x) U9.heap; rw [ht9]; exact ⟨hB3, ho1⟩⟩, hS1.F ht9⟩) hS1.2.2 dL_complain_26 hlocks
  · obtain ⟨ek, hrv, hc2⟩ := hu
    replace hB : va_P D vwCl u U8.heap := hB
    rw [ht] at hB
    have ho1 := va_at_keep ho (hk1 oa hoL hno)
    have hD2 : va_D A u := by
      obtain ⟨_, _, _, _, _, _, _, q⟩ := hc2
      exact q
    have hP2 : va_P D vwCl (u ++ [(oa, oE cJ x)]) H1 := va_P_app hB (va_P_one ho1)
    refine lv_i2l (v := Int32.toInt64 r) hx hb dL_complain_10 rfl ?_
    refine va_last hx hb hKJ hP2 (va_D_out hD2 hno) hS1 u.length 0 (by rw [List.getElem?_append_right (Nat.le_refl _), Nat.sub_self]; rfl) rfl (vp_in_nI (by decide) (by decide)) dL_complain_11 (fun H2 locs2 hP3 hD3 hS2 => ?_)
    rw [set_out] at hP3
    refine lv_goto (tgt := 27) hx hb dL_complain_12 (by decide) ?_
    refine lv_iconst (v := nI 0) hx hb dL_complain_27 (by decide) ?_
    refine W.widen (k := 4) (n := 114) (Nat.le_of_eq (Nat.zero_add _)) (Nat.le_of_eq (Nat.zero_add _)) ?_
    exact W.iret (v := nI 0) hx hb hr (fun U9 ht9 hW9 => ⟨⟨_, (u, Int32.toInt64 (r)), rfl, ⟨by rw [ek], by rw [ek]; decide, fun _ => by first | rfl | rw [hrv], hc2⟩, by show va_P D vwCl u U9.heap ∧ va_at D vwCl (oa, oE cJ (Int32.toInt64 (r))) U9.heap; rw [ht9]; exact ⟨va_P_l hP3, out_at (va_P_r hP3 0 _ rfl)⟩⟩, hS2.F ht9⟩) hS2.2.2 dL_complain_28 hlocks
set_option maxHeartbeats 4000000 in
set_option maxRecDepth 100000 in
theorem cL9_rule (l : Launch) (hst : l.stackTraces = false) (D : va_G) (cI cO cb : ClassId) (eA mi : Nat) (st : Nat → Nat) (dO dT : Nat) (vF : Value) {A : Nat → Prop} (ws : va_W) {h : Nat} {M : MS} (hc : cSt cI cO eA st A h M ws) (hM : MI M) (hs : sInj st) (cJ : ClassId) (oa : Nat) (x : Int64) (hno : ¬ A oa) (i : Int32) (v : Bool) (qv : Int32) : Met l yL_rule wsL_rule ({ frames := 11, cells := 6, slots := 214, locals := 285 }) (va_Pc [.ref h, .int i, .int (bi v), .int qv, .ref oa] (lB D cI cO cb eA mi st dO dT vF A ws cJ oa x)) (va_Qi (fun (ri : Int32) (u : va_W × Int64) => ri = nI (k_rule M i v qv) ∧ k_rule M i v qv ≤ 3 ∧ (k_rule M i v qv = 0 → u.2 = Int32.toInt64 (r_rule M i v qv)) ∧ cSt cI cO eA st A h (g_rule M i v qv) u.1) (fun u U9 => va_P D vwCl u.1 U9.heap ∧ va_at D vwCl (oa, oE cJ u.2) U9.heap) (fun q => A q ∨ q = oa)) 6 214 (fun q => A q ∨ q = oa) := by
  have hcx : k_rule M i v qv ≠ 0 → cSt cI cO eA st A h (g_rule M i v qv) ws := fun e9 => by
    have e8 : g_rule M i v qv = M := by
      unfold g_rule
      exact if_neg e9
    rw [e8]; exact hc
  obtain ⟨k9, hk9, hk9S, hMet⟩ := cq_rule l hst D cI cO cb eA mi st ws hc hM hs i v qv
  obtain ⟨own9, kd, F, L, hC, hW, ⟨tn, lo, aw, co, ct, ow, G⟩, hD⟩ := hc
  have hm_1 : (h, .inr (9, [.ref (F 0 h), .ref (F 1 h), .ref (F 2 h), .ref (F 3 h), .ref (F 4 h), .int (nI (F 5 h))])) ∈ ws := hC.at G.1.1 (by decide) (by decide)
  refine met_ofWH (cc := cL_rule) (maxL := 6) (ret := (some .int)) (hh := [(0, 12, 15, 21), (0, 12, 19, 13), (0, 12, 23, 15)]) (by decide) rfl ?_
  intro p e s m args below meth c s₁ B hml htab hv
  obtain ⟨rfl, ⟨hP, hK, ⟨hG, hGT⟩, hA⟩, hKJ, ho, hoL, hn1, hn2, hn3⟩ := hv
  have hx := B.exec
  have hb := B.bytes
  have hr := B.returns
  have hts := atoms_spec (ws := wsL_rule) B.pre
  have hown : s.vm.findClass RL = some m.cls := findClass_of_methodNamed B.named
  have hlocks := B.notSynchronized
  have hS : va_S (fun q => A q ∨ q = oa) s.heap s.heap [] := va_S.rf
  have hSA : va_S A s.heap s.heap [] := va_S.rf
  have hl := lv_entry ([.ref h, .int i, .int (bi v), .int qv, .ref oa]) (n := 6) (Nat.le_of_ble_eq_true rfl)
  rw [lg_entry_eq]
  generalize (lg_sl ([.ref h, .int i, .int (bi v), .int qv, .ref oa]) ++ List.replicate (6 - (lg_sl ([.ref h, .int i, .int (bi v), .int qv, .ref oa])).length) Slot.unset).toArray = ls at hl ⊢
  have hl : lv_has ls 6 [(0, .ref h), (1, .int i), (2, .int (bi v)), (3, .int qv), (4, .ref oa)] := hl
  refine lv_aload hx hb dL_rule_0 (lv_at hl 4 rfl) ?_
  refine lv_iconst (v := nI 0) hx hb dL_rule_2 (by decide) ?_
  refine lv_aload_n hx hb dL_rule_3 rfl (lv_at hl 0 rfl) ?_
  refine lv_iload_n hx hb dL_rule_4 rfl (lv_at hl 1 rfl) ?_
  refine lv_iload_n hx hb dL_rule_5 rfl (lv_at hl 2 rfl) ?_
  refine lv_iload_n hx hb dL_rule_6 rfl (lv_at hl 3 rfl) ?_
  refine vx_calli (vx_runV (As := [.int i, .int (bi v), .int qv]) (rest := [.int (nI 0), .ref oa]) ⟨hx, hb, hml, hown, hts⟩ hMet (cwV 3 hts gL_rule_X8_rule rfl rfl rfl kd_X8_rule ⟨Nat.le_of_ble_eq_true rfl, Nat.le_of_ble_eq_true rfl⟩) ⟨cB_blind, c_recv hK hP rfl hm_1, cB_pre hK hG hA hSA hP _⟩ rfl rfl hl.1 rfl (lv_room (Nat.le_of_ble_eq_true rfl)) dL_rule_7 ⟨Nat.le_of_eq (Nat.zero_add _), Nat.le_of_eq (Nat.zero_add _)⟩) hS (fun _ _ h => Or.inl h) (fun _ h => Or.inl h) (fun _ _ h => Or.inl h) (fun E9 ce9 q9 u9 U8 H1 locs1 ht hvm hu hB hz1 hk1 hS1 hc1 hc2 hc3 => ?_) (fun r u U8 H1 locs1 ht hvm hu hB hz1 hk1 hS1 => ?_)
  · obtain ⟨hB1, hB2, hB3⟩ := hB
    rw [ht] at hB3
    have ho1 := va_at_keep ho (hk1 oa hoL hno)
    simp only [List.mem_cons, List.not_mem_nil, or_false] at hk9S
    rcases hk9S with rfl | rfl | rfl | rfl
    · exact absurd rfl hB2
    · obtain rfl : E9 = "java/lang/IndexOutOfBoundsException" := hB1.trans rfl
      refine vx_catch (own := RL) (name := "java/lang/IndexOutOfBoundsException") hown [] ⟨0, 12, 15, 21⟩ [⟨0, 12, 19, 13⟩, ⟨0, 12, 23, 15⟩] htab (fun z hz => ?_) (by decide) (by decide) (hts (.classLink RL 21 "java/lang/IndexOutOfBoundsException") (List.mem_of_getElem? (i := 1) rfl)) (hG.2.2.2.2.2.2.1.1 ("java/lang/IndexOutOfBoundsException", "java/lang/IndexOutOfBoundsException") (by decide)) hc1 hc2 hc3 ?_
      · cases hz
      · refine lv_astore (lv' := [(5, .ref q9), (0, .ref h), (1, .int i), (2, .int (bi v)), (3, .int qv), (4, .ref oa)]) hx hb dL_rule_15 hl (by decide) rfl (fun ls hl => ?_)
        refine lv_iconst (v := nI 1) hx hb dL_rule_17 (by decide) ?_
        refine W.widen (k := 6) (n := 214) (Nat.le_of_eq (Nat.zero_add _)) (Nat.le_of_eq (Nat.zero_add _)) ?_
        exact W.iret (v := nI 1) hx hb hr (fun U9 ht9 hW9 => ⟨⟨_, (ws, x), rfl, ⟨by rw [← hk9]; rfl, by rw [← hk9]; decide, fun e9 => absurd (hk9.trans e9) (by decide), hcx (fun e9 => absurd (hk9.trans e9) (by decide))⟩, by show va_P D vwCl ws U9.heap ∧ va_at D vwCl (oa, oE cJ x) U9.heap; rw [ht9]; exact ⟨hB3, ho1⟩⟩, hS1.F ht9⟩) hS1.2.2 dL_rule_18 hlocks
    · obtain rfl : E9 = "java/lang/IllegalArgumentException" := hB1.trans rfl
      refine vx_catch (own := RL) (name := "java/lang/IllegalArgumentException") hown [⟨0, 12, 15, 21⟩] ⟨0, 12, 19, 13⟩ [⟨0, 12, 23, 15⟩] htab (fun z hz => ?_) (by decide) (by decide) (hts (.classLink RL 13 "java/lang/IllegalArgumentException") (List.mem_of_getElem? (i := 2) rfl)) (hG.2.2.2.2.2.2.1.1 ("java/lang/IllegalArgumentException", "java/lang/IllegalArgumentException") (by decide)) hc1 hc2 hc3 ?_
      · obtain rfl := List.mem_singleton.mp hz
        exact Or.inr ⟨by decide, _, (hts (.classLink RL 21 "java/lang/IndexOutOfBoundsException") (List.mem_of_getElem? (i := 1) rfl)), hn1⟩
      · refine lv_astore (lv' := [(5, .ref q9), (0, .ref h), (1, .int i), (2, .int (bi v)), (3, .int qv), (4, .ref oa)]) hx hb dL_rule_19 hl (by decide) rfl (fun ls hl => ?_)
        refine lv_iconst (v := nI 2) hx hb dL_rule_21 (by decide) ?_
        refine W.widen (k := 6) (n := 214) (Nat.le_of_eq (Nat.zero_add _)) (Nat.le_of_eq (Nat.zero_add _)) ?_
        exact W.iret (v := nI 2) hx hb hr (fun U9 ht9 hW9 => ⟨⟨_, (ws, x), rfl, ⟨by rw [← hk9]; rfl, by rw [← hk9]; decide, fun e9 => absurd (hk9.trans e9) (by decide), hcx (fun e9 => absurd (hk9.trans e9) (by decide))⟩, by show va_P D vwCl ws U9.heap ∧ va_at D vwCl (oa, oE cJ x) U9.heap; rw [ht9]; exact ⟨hB3, ho1⟩⟩, hS1.F ht9⟩) hS1.2.2 dL_rule_22 hlocks
    · obtain rfl : E9 = "java/lang/IllegalStateException" := hB1.trans rfl
      refine vx_catch (own := RL) (name := "java/lang/IllegalStateException") hown [⟨0, 12, 15, 21⟩, ⟨0, 12, 19, 13⟩] ⟨0, 12, 23, 15⟩ [] htab (fun z hz => ?_) (by decide) (by decide) (hts (.classLink RL 15 "java/lang/IllegalStateException") (List.mem_of_getElem? (i := 3) rfl)) (hG.2.2.2.2.2.2.1.1 ("java/lang/IllegalStateException", "java/lang/IllegalStateException") (by decide)) hc1 hc2 hc3 ?_
      · rcases List.mem_cons.mp hz with rfl | hz
        · exact Or.inr ⟨by decide, _, (hts (.classLink RL 21 "java/lang/IndexOutOfBoundsException") (List.mem_of_getElem? (i := 1) rfl)), hn2⟩
        · obtain rfl := List.mem_singleton.mp hz
          exact Or.inr ⟨by decide, _, (hts (.classLink RL 13 "java/lang/IllegalArgumentException") (List.mem_of_getElem? (i := 2) rfl)), hn3⟩
      · refine lv_astore (lv' := [(5, .ref q9), (0, .ref h), (1, .int i), (2, .int (bi v)), (3, .int qv), (4, .ref oa)]) hx hb dL_rule_23 hl (by decide) rfl (fun ls hl => ?_)
        refine lv_iconst (v := nI 3) hx hb dL_rule_25 (by decide) ?_
        refine W.widen (k := 6) (n := 214) (Nat.le_of_eq (Nat.zero_add _)) (Nat.le_of_eq (Nat.zero_add _)) ?_
        exact W.iret (v := nI 3) hx hb hr (fun U9 ht9 hW9 => ⟨⟨_, (ws, x), rfl, ⟨by rw [← hk9]; rfl, by rw [← hk9]; decide, fun e9 => absurd (hk9.trans e9) (by decide), hcx (fun e9 => absurd (hk9.trans e9) (by decide))⟩, by show va_P D vwCl ws U9.heap ∧ va_at D vwCl (oa, oE cJ x) U9.heap; rw [ht9]; exact ⟨hB3, ho1⟩⟩, hS1.F ht9⟩) hS1.2.2 dL_rule_26 hlocks
  · obtain ⟨ek, hrv, hc2⟩ := hu
    replace hB : va_P D vwCl u U8.heap := hB
    rw [ht] at hB
    have ho1 := va_at_keep ho (hk1 oa hoL hno)
    have hD2 : va_D A u := by
      obtain ⟨_, _, _, _, _, _, _, q⟩ := hc2
      exact q
    have hP2 : va_P D vwCl (u ++ [(oa, oE cJ x)]) H1 := va_P_app hB (va_P_one ho1)
    refine lv_i2l (v := Int32.toInt64 r) hx hb dL_rule_10 rfl ?_
    refine va_last hx hb hKJ hP2 (va_D_out hD2 hno) hS1 u.length 0 (by rw [List.getElem?_append_right (Nat.le_refl _), Nat.sub_self]; rfl) rfl (vp_in_nI (by decide) (by decide)) dL_rule_11 (fun H2 locs2 hP3 hD3 hS2 => ?_)
    rw [set_out] at hP3
    refine lv_goto (tgt := 27) hx hb dL_rule_12 (by decide) ?_
    refine lv_iconst (v := nI 0) hx hb dL_rule_27 (by decide) ?_
    refine W.widen (k := 6) (n := 214) (Nat.le_of_eq (Nat.zero_add _)) (Nat.le_of_eq (Nat.zero_add _)) ?_
    exact W.iret (v := nI 0) hx hb hr (fun U9 ht9 hW9 => ⟨⟨_, (u, Int32.toInt64 (r)), rfl, ⟨by rw [ek], by rw [ek]; decide, fun _ => by first | rfl | rw [hrv], hc2⟩, by show va_P D vwCl u U9.heap ∧ va_at D vwCl (oa, oE cJ (Int32.toInt64 (r))) U9.heap; rw [ht9]; exact ⟨va_P_l hP3, out_at (va_P_r hP3 0 _ rfl)⟩⟩, hS2.F ht9⟩) hS2.2.2 dL_rule_28 hlocks
set_option maxHeartbeats 4000000 in
set_option maxRecDepth 100000 in
theorem cL9_appeal (l : Launch) (hst : l.stackTraces = false) (D : va_G) (cI cO cb : ClassId) (eA mi : Nat) (st : Nat → Nat) (dO dT : Nat) (vF : Value) {A : Nat → Prop} (ws : va_W) {h : Nat} {M : MS} (hc : cSt cI cO eA st A h M ws) (hM : MI M) (hs : sInj st) (cJ : ClassId) (oa : Nat) (x : Int64) (hno : ¬ A oa) (i : Int32) : Met l yL_appeal wsL_appeal ({ frames := 8, cells := 2, slots := 12, locals := 124 }) (va_Pc [.ref h, .int i, .ref oa] (lB D cI cO cb eA mi st dO dT vF A ws cJ oa x)) (va_Qi (fun (ri : Int32) (u : va_W × Int64) => ri = nI (k_appeal M i) ∧ k_appeal M i ≤ 3 ∧ (k_appeal M i = 0 → u.2 = Int32.toInt64 (r_appeal M i)) ∧ cSt cI cO eA st A h (g_appeal M i) u.1) (fun u U9 => va_P D vwCl u.1 U9.heap ∧ va_at D vwCl (oa, oE cJ u.2) U9.heap) (fun q => A q ∨ q = oa)) 2 12 (fun q => A q ∨ q = oa) := by
  have hcx : k_appeal M i ≠ 0 → cSt cI cO eA st A h (g_appeal M i) ws := fun e9 => by
    have e8 : g_appeal M i = M := by
      unfold g_appeal
      exact if_neg e9
    rw [e8]; exact hc
  obtain ⟨k9, hk9, hk9S, hMet⟩ := cq_appeal l hst D cI cO cb eA mi st ws hc hM hs i
  obtain ⟨own9, kd, F, L, hC, hW, ⟨tn, lo, aw, co, ct, ow, G⟩, hD⟩ := hc
  have hm_1 : (h, .inr (9, [.ref (F 0 h), .ref (F 1 h), .ref (F 2 h), .ref (F 3 h), .ref (F 4 h), .int (nI (F 5 h))])) ∈ ws := hC.at G.1.1 (by decide) (by decide)
  refine met_ofWH (cc := cL_appeal) (maxL := 4) (ret := (some .int)) (hh := [(0, 9, 12, 21), (0, 9, 15, 15)]) (by decide) rfl ?_
  intro p e s m args below meth c s₁ B hml htab hv
  obtain ⟨rfl, ⟨hP, hK, ⟨hG, hGT⟩, hA⟩, hKJ, ho, hoL, hn1, hn2, hn3⟩ := hv
  have hx := B.exec
  have hb := B.bytes
  have hr := B.returns
  have hts := atoms_spec (ws := wsL_appeal) B.pre
  have hown : s.vm.findClass RL = some m.cls := findClass_of_methodNamed B.named
  have hlocks := B.notSynchronized
  have hS : va_S (fun q => A q ∨ q = oa) s.heap s.heap [] := va_S.rf
  have hSA : va_S A s.heap s.heap [] := va_S.rf
  have hl := lv_entry ([.ref h, .int i, .ref oa]) (n := 4) (Nat.le_of_ble_eq_true rfl)
  rw [lg_entry_eq]
  generalize (lg_sl ([.ref h, .int i, .ref oa]) ++ List.replicate (4 - (lg_sl ([.ref h, .int i, .ref oa])).length) Slot.unset).toArray = ls at hl ⊢
  have hl : lv_has ls 4 [(0, .ref h), (1, .int i), (2, .ref oa)] := hl
  refine lv_aload_n hx hb dL_appeal_0 rfl (lv_at hl 2 rfl) ?_
  refine lv_iconst (v := nI 0) hx hb dL_appeal_1 (by decide) ?_
  refine lv_aload_n hx hb dL_appeal_2 rfl (lv_at hl 0 rfl) ?_
  refine lv_iload_n hx hb dL_appeal_3 rfl (lv_at hl 1 rfl) ?_
  refine vx_calli (vx_runV (As := [.int i]) (rest := [.int (nI 0), .ref oa]) ⟨hx, hb, hml, hown, hts⟩ hMet (cwV 1 hts gL_appeal_X8_appeal rfl rfl rfl kd_X8_appeal ⟨Nat.le_of_ble_eq_true rfl, Nat.le_of_ble_eq_true rfl⟩) ⟨cB_blind, c_recv hK hP rfl hm_1, cB_pre hK hG hA hSA hP _⟩ rfl rfl hl.1 rfl (lv_room (Nat.le_of_ble_eq_true rfl)) dL_appeal_4 ⟨Nat.le_of_eq (Nat.zero_add _), Nat.le_of_eq (Nat.zero_add _)⟩) hS (fun _ _ h => Or.inl h) (fun _ h => Or.inl h) (fun _ _ h => Or.inl h) (fun E9 ce9 q9 u9 U8 H1 locs1 ht hvm hu hB hz1 hk1 hS1 hc1 hc2 hc3 => ?_) (fun r u U8 H1 locs1 ht hvm hu hB hz1 hk1 hS1 => ?_)
  · obtain ⟨hB1, hB2, hB3⟩ := hB
    rw [ht] at hB3
    have ho1 := va_at_keep ho (hk1 oa hoL hno)
    simp only [List.mem_cons, List.not_mem_nil, or_false] at hk9S
    rcases hk9S with rfl | rfl | rfl
    · exact absurd rfl hB2
    · obtain rfl : E9 = "java/lang/IndexOutOfBoundsException" := hB1.trans rfl
      refine vx_catch (own := RL) (name := "java/lang/IndexOutOfBoundsException") hown [] ⟨0, 9, 12, 21⟩ [⟨0, 9, 15, 15⟩] htab (fun z hz => ?_) (by decide) (by decide) (hts (.classLink RL 21 "java/lang/IndexOutOfBoundsException") (List.mem_of_getElem? (i := 1) rfl)) (hG.2.2.2.2.2.2.1.1 ("java/lang/IndexOutOfBoundsException", "java/lang/IndexOutOfBoundsException") (by decide)) hc1 hc2 hc3 ?_
      · cases hz
      · refine lv_astore_n (lv' := [(3, .ref q9), (0, .ref h), (1, .int i), (2, .ref oa)]) hx hb dL_appeal_12 rfl hl (by decide) rfl (fun ls hl => ?_)
        refine lv_iconst (v := nI 1) hx hb dL_appeal_13 (by decide) ?_
        refine W.widen (k := 2) (n := 12) (Nat.le_of_eq (Nat.zero_add _)) (Nat.le_of_eq (Nat.zero_add _)) ?_
        exact W.iret (v := nI 1) hx hb hr (fun U9 ht9 hW9 => ⟨⟨_, (ws, x), rfl, ⟨by rw [← hk9]; rfl, by rw [← hk9]; decide, fun e9 => absurd (hk9.trans e9) (by decide), hcx (fun e9 => absurd (hk9.trans e9) (by decide))⟩, by show va_P D vwCl ws U9.heap ∧ va_at D vwCl (oa, oE cJ x) U9.heap; rw [ht9]; exact ⟨hB3, ho1⟩⟩, hS1.F ht9⟩) hS1.2.2 dL_appeal_14 hlocks
    · obtain rfl : E9 = "java/lang/IllegalStateException" := hB1.trans rfl
      refine vx_catch (own := RL) (name := "java/lang/IllegalStateException") hown [⟨0, 9, 12, 21⟩] ⟨0, 9, 15, 15⟩ [] htab (fun z hz => ?_) (by decide) (by decide) (hts (.classLink RL 15 "java/lang/IllegalStateException") (List.mem_of_getElem? (i := 2) rfl)) (hG.2.2.2.2.2.2.1.1 ("java/lang/IllegalStateException", "java/lang/IllegalStateException") (by decide)) hc1 hc2 hc3 ?_
      · obtain rfl := List.mem_singleton.mp hz
        exact Or.inr ⟨by decide, _, (hts (.classLink RL 21 "java/lang/IndexOutOfBoundsException") (List.mem_of_getElem? (i := 1) rfl)), hn2⟩
      · refine lv_astore_n (lv' := [(3, .ref q9), (0, .ref h), (1, .int i), (2, .ref oa)]) hx hb dL_appeal_15 rfl hl (by decide) rfl (fun ls hl => ?_)
        refine lv_iconst (v := nI 2) hx hb dL_appeal_16 (by decide) ?_
        refine W.widen (k := 2) (n := 12) (Nat.le_of_eq (Nat.zero_add _)) (Nat.le_of_eq (Nat.zero_add _)) ?_
        exact W.iret (v := nI 2) hx hb hr (fun U9 ht9 hW9 => ⟨⟨_, (ws, x), rfl, ⟨by rw [← hk9]; rfl, by rw [← hk9]; decide, fun e9 => absurd (hk9.trans e9) (by decide), hcx (fun e9 => absurd (hk9.trans e9) (by decide))⟩, by show va_P D vwCl ws U9.heap ∧ va_at D vwCl (oa, oE cJ x) U9.heap; rw [ht9]; exact ⟨hB3, ho1⟩⟩, hS1.F ht9⟩) hS1.2.2 dL_appeal_17 hlocks
  · obtain ⟨ek, hrv, hc2⟩ := hu
    replace hB : va_P D vwCl u U8.heap := hB
    rw [ht] at hB
    have ho1 := va_at_keep ho (hk1 oa hoL hno)
    have hD2 : va_D A u := by
      obtain ⟨_, _, _, _, _, _, _, q⟩ := hc2
      exact q
    have hP2 : va_P D vwCl (u ++ [(oa, oE cJ x)]) H1 := va_P_app hB (va_P_one ho1)
    refine lv_i2l (v := Int32.toInt64 r) hx hb dL_appeal_7 rfl ?_
    refine va_last hx hb hKJ hP2 (va_D_out hD2 hno) hS1 u.length 0 (by rw [List.getElem?_append_right (Nat.le_refl _), Nat.sub_self]; rfl) rfl (vp_in_nI (by decide) (by decide)) dL_appeal_8 (fun H2 locs2 hP3 hD3 hS2 => ?_)
    rw [set_out] at hP3
    refine lv_goto (tgt := 18) hx hb dL_appeal_9 (by decide) ?_
    refine lv_iconst (v := nI 0) hx hb dL_appeal_18 (by decide) ?_
    refine W.widen (k := 2) (n := 12) (Nat.le_of_eq (Nat.zero_add _)) (Nat.le_of_eq (Nat.zero_add _)) ?_
    exact W.iret (v := nI 0) hx hb hr (fun U9 ht9 hW9 => ⟨⟨_, (u, Int32.toInt64 (r)), rfl, ⟨by rw [ek], by rw [ek]; decide, fun _ => by first | rfl | rw [hrv], hc2⟩, by show va_P D vwCl u U9.heap ∧ va_at D vwCl (oa, oE cJ (Int32.toInt64 (r))) U9.heap; rw [ht9]; exact ⟨va_P_l hP3, out_at (va_P_r hP3 0 _ rfl)⟩⟩, hS2.F ht9⟩) hS2.2.2 dL_appeal_19 hlocks
set_option maxHeartbeats 4000000 in
set_option maxRecDepth 100000 in
theorem cL9_sign (l : Launch) (hst : l.stackTraces = false) (D : va_G) (cI cO cb : ClassId) (eA mi : Nat) (st : Nat → Nat) (dO dT : Nat) (vF : Value) {A : Nat → Prop} (ws : va_W) {h : Nat} {M : MS} (hc : cSt cI cO eA st A h M ws) (hM : MI M) (hs : sInj st) (cJ : ClassId) (oa : Nat) (x : Int64) (hno : ¬ A oa) (i : Int32) : Met l yL_sign wsL_sign ({ frames := 8, cells := 4, slots := 120, locals := 214 }) (va_Pc [.ref h, .int i, .ref oa] (lB D cI cO cb eA mi st dO dT vF A ws cJ oa x)) (va_Qi (fun (ri : Int32) (u : va_W × Int64) => ri = nI (k_sign M i) ∧ k_sign M i ≤ 3 ∧ (k_sign M i = 0 → u.2 = Int32.toInt64 (r_sign M i)) ∧ cSt cI cO eA st A h (g_sign M i) u.1) (fun u U9 => va_P D vwCl u.1 U9.heap ∧ va_at D vwCl (oa, oE cJ u.2) U9.heap) (fun q => A q ∨ q = oa)) 4 120 (fun q => A q ∨ q = oa) := by
  have hcx : k_sign M i ≠ 0 → cSt cI cO eA st A h (g_sign M i) ws := fun e9 => by
    have e8 : g_sign M i = M := by
      unfold g_sign
      exact if_neg e9
    rw [e8]; exact hc
  obtain ⟨k9, hk9, hk9S, hMet⟩ := cq_sign l hst D cI cO cb eA mi st ws hc hM hs i
  obtain ⟨own9, kd, F, L, hC, hW, ⟨tn, lo, aw, co, ct, ow, G⟩, hD⟩ := hc
  have hm_1 : (h, .inr (9, [.ref (F 0 h), .ref (F 1 h), .ref (F 2 h), .ref (F 3 h), .ref (F 4 h), .int (nI (F 5 h))])) ∈ ws := hC.at G.1.1 (by decide) (by decide)
  refine met_ofWH (cc := cL_sign) (maxL := 4) (ret := (some .int)) (hh := [(0, 9, 12, 21), (0, 9, 15, 15)]) (by decide) rfl ?_
  intro p e s m args below meth c s₁ B hml htab hv
  obtain ⟨rfl, ⟨hP, hK, ⟨hG, hGT⟩, hA⟩, hKJ, ho, hoL, hn1, hn2, hn3⟩ := hv
  have hx := B.exec
  have hb := B.bytes
  have hr := B.returns
  have hts := atoms_spec (ws := wsL_sign) B.pre
  have hown : s.vm.findClass RL = some m.cls := findClass_of_methodNamed B.named
  have hlocks := B.notSynchronized
  have hS : va_S (fun q => A q ∨ q = oa) s.heap s.heap [] := va_S.rf
  have hSA : va_S A s.heap s.heap [] := va_S.rf
  have hl := lv_entry ([.ref h, .int i, .ref oa]) (n := 4) (Nat.le_of_ble_eq_true rfl)
  rw [lg_entry_eq]
  generalize (lg_sl ([.ref h, .int i, .ref oa]) ++ List.replicate (4 - (lg_sl ([.ref h, .int i, .ref oa])).length) Slot.unset).toArray = ls at hl ⊢
  have hl : lv_has ls 4 [(0, .ref h), (1, .int i), (2, .ref oa)] := hl
  refine lv_aload_n hx hb dL_sign_0 rfl (lv_at hl 2 rfl) ?_
  refine lv_iconst (v := nI 0) hx hb dL_sign_1 (by decide) ?_
  refine lv_aload_n hx hb dL_sign_2 rfl (lv_at hl 0 rfl) ?_
  refine lv_iload_n hx hb dL_sign_3 rfl (lv_at hl 1 rfl) ?_
  refine vx_calli (vx_runV (As := [.int i]) (rest := [.int (nI 0), .ref oa]) ⟨hx, hb, hml, hown, hts⟩ hMet (cwV 1 hts gL_sign_X8_sign rfl rfl rfl kd_X8_sign ⟨Nat.le_of_ble_eq_true rfl, Nat.le_of_ble_eq_true rfl⟩) ⟨cB_blind, c_recv hK hP rfl hm_1, cB_pre hK hG hA hSA hP _⟩ rfl rfl hl.1 rfl (lv_room (Nat.le_of_ble_eq_true rfl)) dL_sign_4 ⟨Nat.le_of_eq (Nat.zero_add _), Nat.le_of_eq (Nat.zero_add _)⟩) hS (fun _ _ h => Or.inl h) (fun _ h => Or.inl h) (fun _ _ h => Or.inl h) (fun E9 ce9 q9 u9 U8 H1 locs1 ht hvm hu hB hz1 hk1 hS1 hc1 hc2 hc3 => ?_) (fun r u U8 H1 locs1 ht hvm hu hB hz1 hk1 hS1 => ?_)
  · obtain ⟨hB1, hB2, hB3⟩ := hB
    rw [ht] at hB3
    have ho1 := va_at_keep ho (hk1 oa hoL hno)
    simp only [List.mem_cons, List.not_mem_nil, or_false] at hk9S
    rcases hk9S with rfl | rfl | rfl
    · exact absurd rfl hB2
    · obtain rfl : E9 = "java/lang/IndexOutOfBoundsException" := hB1.trans rfl
      refine vx_catch (own := RL) (name := "java/lang/IndexOutOfBoundsException") hown [] ⟨0, 9, 12, 21⟩ [⟨0, 9, 15, 15⟩] htab (fun z hz => ?_) (by decide) (by decide) (hts (.classLink RL 21 "java/lang/IndexOutOfBoundsException") (List.mem_of_getElem? (i := 1) rfl)) (hG.2.2.2.2.2.2.1.1 ("java/lang/IndexOutOfBoundsException", "java/lang/IndexOutOfBoundsException") (by decide)) hc1 hc2 hc3 ?_
      · cases hz
      · refine lv_astore_n (lv' := [(3, .ref q9), (0, .ref h), (1, .int i), (2, .ref oa)]) hx hb dL_sign_12 rfl hl (by decide) rfl (fun ls hl => ?_)
        refine lv_iconst (v := nI 1) hx hb dL_sign_13 (by decide) ?_
        refine W.widen (k := 4) (n := 120) (Nat.le_of_eq (Nat.zero_add _)) (Nat.le_of_eq (Nat.zero_add _)) ?_
        exact W.iret (v := nI 1) hx hb hr (fun U9 ht9 hW9 => ⟨⟨_, (ws, x), rfl, ⟨by rw [← hk9]; rfl, by rw [← hk9]; decide, fun e9 => absurd (hk9.trans e9) (by decide), hcx (fun e9 => absurd (hk9.trans e9) (by decide))⟩, by show va_P D vwCl ws U9.heap ∧ va_at D vwCl (oa, oE cJ x) U9.heap; rw [ht9]; exact ⟨hB3, ho1⟩⟩, hS1.F ht9⟩) hS1.2.2 dL_sign_14 hlocks
    · obtain rfl : E9 = "java/lang/IllegalStateException" := hB1.trans rfl
      refine vx_catch (own := RL) (name := "java/lang/IllegalStateException") hown [⟨0, 9, 12, 21⟩] ⟨0, 9, 15, 15⟩ [] htab (fun z hz => ?_) (by decide) (by decide) (hts (.classLink RL 15 "java/lang/IllegalStateException") (List.mem_of_getElem? (i := 2) rfl)) (hG.2.2.2.2.2.2.1.1 ("java/lang/IllegalStateException", "java/lang/IllegalStateException") (by decide)) hc1 hc2 hc3 ?_
      · obtain rfl := List.mem_singleton.mp hz
        exact Or.inr ⟨by decide, _, (hts (.classLink RL 21 "java/lang/IndexOutOfBoundsException") (List.mem_of_getElem? (i := 1) rfl)), hn2⟩
      · refine lv_astore_n (lv' := [(3, .ref q9), (0, .ref h), (1, .int i), (2, .ref oa)]) hx hb dL_sign_15 rfl hl (by decide) rfl (fun ls hl => ?_)
        refine lv_iconst (v := nI 2) hx hb dL_sign_16 (by decide) ?_
        refine W.widen (k := 4) (n := 120) (Nat.le_of_eq (Nat.zero_add _)) (Nat.le_of_eq (Nat.zero_add _)) ?_
        exact W.iret (v := nI 2) hx hb hr (fun U9 ht9 hW9 => ⟨⟨_, (ws, x), rfl, ⟨by rw [← hk9]; rfl, by rw [← hk9]; decide, fun e9 => absurd (hk9.trans e9) (by decide), hcx (fun e9 => absurd (hk9.trans e9) (by decide))⟩, by show va_P D vwCl ws U9.heap ∧ va_at D vwCl (oa, oE cJ x) U9.heap; rw [ht9]; exact ⟨hB3, ho1⟩⟩, hS1.F ht9⟩) hS1.2.2 dL_sign_17 hlocks
  · obtain ⟨ek, hrv, hc2⟩ := hu
    replace hB : va_P D vwCl u U8.heap := hB
    rw [ht] at hB
    have ho1 := va_at_keep ho (hk1 oa hoL hno)
    have hD2 : va_D A u := by
      obtain ⟨_, _, _, _, _, _, _, q⟩ := hc2
      exact q
    have hP2 : va_P D vwCl (u ++ [(oa, oE cJ x)]) H1 := va_P_app hB (va_P_one ho1)
    refine lv_i2l (v := Int32.toInt64 r) hx hb dL_sign_7 rfl ?_
    refine va_last hx hb hKJ hP2 (va_D_out hD2 hno) hS1 u.length 0 (by rw [List.getElem?_append_right (Nat.le_refl _), Nat.sub_self]; rfl) rfl (vp_in_nI (by decide) (by decide)) dL_sign_8 (fun H2 locs2 hP3 hD3 hS2 => ?_)
    rw [set_out] at hP3
    refine lv_goto (tgt := 18) hx hb dL_sign_9 (by decide) ?_
    refine lv_iconst (v := nI 0) hx hb dL_sign_18 (by decide) ?_
    refine W.widen (k := 4) (n := 120) (Nat.le_of_eq (Nat.zero_add _)) (Nat.le_of_eq (Nat.zero_add _)) ?_
    exact W.iret (v := nI 0) hx hb hr (fun U9 ht9 hW9 => ⟨⟨_, (u, Int32.toInt64 (r)), rfl, ⟨by rw [ek], by rw [ek]; decide, fun _ => by first | rfl | rw [hrv], hc2⟩, by show va_P D vwCl u U9.heap ∧ va_at D vwCl (oa, oE cJ (Int32.toInt64 (r))) U9.heap; rw [ht9]; exact ⟨va_P_l hP3, out_at (va_P_r hP3 0 _ rfl)⟩⟩, hS2.F ht9⟩) hS2.2.2 dL_sign_19 hlocks
set_option maxHeartbeats 4000000 in
set_option maxRecDepth 100000 in
theorem cL9_call (l : Launch) (hst : l.stackTraces = false) (D : va_G) (cI cO cb : ClassId) (eA mi : Nat) (st : Nat → Nat) (dO dT : Nat) (vF : Value) {A : Nat → Prop} (ws : va_W) {h : Nat} {M : MS} (hc : cSt cI cO eA st A h M ws) (hM : MI M) (hs : sInj st) (cJ : ClassId) (oa : Nat) (x : Int64) (hno : ¬ A oa) (i : Int32) (v : Int32) : Met l yL_call wsL_call ({ frames := 8, cells := 2, slots := 12, locals := 125 }) (va_Pc [.ref h, .int i, .int v, .ref oa] (lB D cI cO cb eA mi st dO dT vF A ws cJ oa x)) (va_Qi (fun (ri : Int32) (u : va_W × Int64) => ri = nI (k_call M i v) ∧ k_call M i v ≤ 3 ∧ (k_call M i v = 0 → u.2 = Int32.toInt64 (r_call M i v)) ∧ cSt cI cO eA st A h (g_call M i v) u.1) (fun u U9 => va_P D vwCl u.1 U9.heap ∧ va_at D vwCl (oa, oE cJ u.2) U9.heap) (fun q => A q ∨ q = oa)) 2 12 (fun q => A q ∨ q = oa) := by
  have hcx : k_call M i v ≠ 0 → cSt cI cO eA st A h (g_call M i v) ws := fun e9 => by
    have e8 : g_call M i v = M := by
      unfold g_call
      exact if_neg e9
    rw [e8]; exact hc
  obtain ⟨k9, hk9, hk9S, hMet⟩ := cq_call l hst D cI cO cb eA mi st ws hc hM hs i v
  obtain ⟨own9, kd, F, L, hC, hW, ⟨tn, lo, aw, co, ct, ow, G⟩, hD⟩ := hc
  have hm_1 : (h, .inr (9, [.ref (F 0 h), .ref (F 1 h), .ref (F 2 h), .ref (F 3 h), .ref (F 4 h), .int (nI (F 5 h))])) ∈ ws := hC.at G.1.1 (by decide) (by decide)
  refine met_ofWH (cc := cL_call) (maxL := 5) (ret := (some .int)) (hh := [(0, 10, 13, 21), (0, 10, 17, 13), (0, 10, 21, 15)]) (by decide) rfl ?_
  intro p e s m args below meth c s₁ B hml htab hv
  obtain ⟨rfl, ⟨hP, hK, ⟨hG, hGT⟩, hA⟩, hKJ, ho, hoL, hn1, hn2, hn3⟩ := hv
  have hx := B.exec
  have hb := B.bytes
  have hr := B.returns
  have hts := atoms_spec (ws := wsL_call) B.pre
  have hown : s.vm.findClass RL = some m.cls := findClass_of_methodNamed B.named
  have hlocks := B.notSynchronized
  have hS : va_S (fun q => A q ∨ q = oa) s.heap s.heap [] := va_S.rf
  have hSA : va_S A s.heap s.heap [] := va_S.rf
  have hl := lv_entry ([.ref h, .int i, .int v, .ref oa]) (n := 5) (Nat.le_of_ble_eq_true rfl)
  rw [lg_entry_eq]
  generalize (lg_sl ([.ref h, .int i, .int v, .ref oa]) ++ List.replicate (5 - (lg_sl ([.ref h, .int i, .int v, .ref oa])).length) Slot.unset).toArray = ls at hl ⊢
  have hl : lv_has ls 5 [(0, .ref h), (1, .int i), (2, .int v), (3, .ref oa)] := hl
  refine lv_aload_n hx hb dL_call_0 rfl (lv_at hl 3 rfl) ?_
  refine lv_iconst (v := nI 0) hx hb dL_call_1 (by decide) ?_
  refine lv_aload_n hx hb dL_call_2 rfl (lv_at hl 0 rfl) ?_
  refine lv_iload_n hx hb dL_call_3 rfl (lv_at hl 1 rfl) ?_
  refine lv_iload_n hx hb dL_call_4 rfl (lv_at hl 2 rfl) ?_
  refine vx_calli (vx_runV (As := [.int i, .int v]) (rest := [.int (nI 0), .ref oa]) ⟨hx, hb, hml, hown, hts⟩ hMet (cwV 2 hts gL_call_X8_call rfl rfl rfl kd_X8_call ⟨Nat.le_of_ble_eq_true rfl, Nat.le_of_ble_eq_true rfl⟩) ⟨cB_blind, c_recv hK hP rfl hm_1, cB_pre hK hG hA hSA hP _⟩ rfl rfl hl.1 rfl (lv_room (Nat.le_of_ble_eq_true rfl)) dL_call_5 ⟨Nat.le_of_eq (Nat.zero_add _), Nat.le_of_eq (Nat.zero_add _)⟩) hS (fun _ _ h => Or.inl h) (fun _ h => Or.inl h) (fun _ _ h => Or.inl h) (fun E9 ce9 q9 u9 U8 H1 locs1 ht hvm hu hB hz1 hk1 hS1 hc1 hc2 hc3 => ?_) (fun r u U8 H1 locs1 ht hvm hu hB hz1 hk1 hS1 => ?_)
  · obtain ⟨hB1, hB2, hB3⟩ := hB
    rw [ht] at hB3
    have ho1 := va_at_keep ho (hk1 oa hoL hno)
    simp only [List.mem_cons, List.not_mem_nil, or_false] at hk9S
    rcases hk9S with rfl | rfl | rfl | rfl
    · exact absurd rfl hB2
    · obtain rfl : E9 = "java/lang/IndexOutOfBoundsException" := hB1.trans rfl
      refine vx_catch (own := RL) (name := "java/lang/IndexOutOfBoundsException") hown [] ⟨0, 10, 13, 21⟩ [⟨0, 10, 17, 13⟩, ⟨0, 10, 21, 15⟩] htab (fun z hz => ?_) (by decide) (by decide) (hts (.classLink RL 21 "java/lang/IndexOutOfBoundsException") (List.mem_of_getElem? (i := 1) rfl)) (hG.2.2.2.2.2.2.1.1 ("java/lang/IndexOutOfBoundsException", "java/lang/IndexOutOfBoundsException") (by decide)) hc1 hc2 hc3 ?_
      · cases hz
      · refine lv_astore (lv' := [(4, .ref q9), (0, .ref h), (1, .int i), (2, .int v), (3, .ref oa)]) hx hb dL_call_13 hl (by decide) rfl (fun ls hl => ?_)
        refine lv_iconst (v := nI 1) hx hb dL_call_15 (by decide) ?_
        refine W.widen (k := 2) (n := 12) (Nat.le_of_eq (Nat.zero_add _)) (Nat.le_of_eq (Nat.zero_add _)) ?_
        exact W.iret (v := nI 1) hx hb hr (fun U9 ht9 hW9 => ⟨⟨_, (ws, x), rfl, ⟨by rw [← hk9]; rfl, by rw [← hk9]; decide, fun e9 => absurd (hk9.trans e9) (by decide), hcx (fun e9 => absurd (hk9.trans e9) (by decide))⟩, by show va_P D vwCl ws U9.heap ∧ va_at D vwCl (oa, oE cJ x) U9.heap; rw [ht9]; exact ⟨hB3, ho1⟩⟩, hS1.F ht9⟩) hS1.2.2 dL_call_16 hlocks
    · obtain rfl : E9 = "java/lang/IllegalArgumentException" := hB1.trans rfl
      refine vx_catch (own := RL) (name := "java/lang/IllegalArgumentException") hown [⟨0, 10, 13, 21⟩] ⟨0, 10, 17, 13⟩ [⟨0, 10, 21, 15⟩] htab (fun z hz => ?_) (by decide) (by decide) (hts (.classLink RL 13 "java/lang/IllegalArgumentException") (List.mem_of_getElem? (i := 2) rfl)) (hG.2.2.2.2.2.2.1.1 ("java/lang/IllegalArgumentException", "java/lang/IllegalArgumentException") (by decide)) hc1 hc2 hc3 ?_
      · obtain rfl := List.mem_singleton.mp hz
        exact Or.inr ⟨by decide, _, (hts (.classLink RL 21 "java/lang/IndexOutOfBoundsException") (List.mem_of_getElem? (i := 1) rfl)), hn1⟩
      · refine lv_astore (lv' := [(4, .ref q9), (0, .ref h), (1, .int i), (2, .int v), (3, .ref oa)]) hx hb dL_call_17 hl (by decide) rfl (fun ls hl => ?_)
        refine lv_iconst (v := nI 2) hx hb dL_call_19 (by decide) ?_
        refine W.widen (k := 2) (n := 12) (Nat.le_of_eq (Nat.zero_add _)) (Nat.le_of_eq (Nat.zero_add _)) ?_
        exact W.iret (v := nI 2) hx hb hr (fun U9 ht9 hW9 => ⟨⟨_, (ws, x), rfl, ⟨by rw [← hk9]; rfl, by rw [← hk9]; decide, fun e9 => absurd (hk9.trans e9) (by decide), hcx (fun e9 => absurd (hk9.trans e9) (by decide))⟩, by show va_P D vwCl ws U9.heap ∧ va_at D vwCl (oa, oE cJ x) U9.heap; rw [ht9]; exact ⟨hB3, ho1⟩⟩, hS1.F ht9⟩) hS1.2.2 dL_call_20 hlocks
    · obtain rfl : E9 = "java/lang/IllegalStateException" := hB1.trans rfl
      refine vx_catch (own := RL) (name := "java/lang/IllegalStateException") hown [⟨0, 10, 13, 21⟩, ⟨0, 10, 17, 13⟩] ⟨0, 10, 21, 15⟩ [] htab (fun z hz => ?_) (by decide) (by decide) (hts (.classLink RL 15 "java/lang/IllegalStateException") (List.mem_of_getElem? (i := 3) rfl)) (hG.2.2.2.2.2.2.1.1 ("java/lang/IllegalStateException", "java/lang/IllegalStateException") (by decide)) hc1 hc2 hc3 ?_
      · rcases List.mem_cons.mp hz with rfl | hz
        · exact Or.inr ⟨by decide, _, (hts (.classLink RL 21 "java/lang/IndexOutOfBoundsException") (List.mem_of_getElem? (i := 1) rfl)), hn2⟩
        · obtain rfl := List.mem_singleton.mp hz
          exact Or.inr ⟨by decide, _, (hts (.classLink RL 13 "java/lang/IllegalArgumentException") (List.mem_of_getElem? (i := 2) rfl)), hn3⟩
      · refine lv_astore (lv' := [(4, .ref q9), (0, .ref h), (1, .int i), (2, .int v), (3, .ref oa)]) hx hb dL_call_21 hl (by decide) rfl (fun ls hl => ?_)
        refine lv_iconst (v := nI 3) hx hb dL_call_23 (by decide) ?_
        refine W.widen (k := 2) (n := 12) (Nat.le_of_eq (Nat.zero_add _)) (Nat.le_of_eq (Nat.zero_add _)) ?_
        exact W.iret (v := nI 3) hx hb hr (fun U9 ht9 hW9 => ⟨⟨_, (ws, x), rfl, ⟨by rw [← hk9]; rfl, by rw [← hk9]; decide, fun e9 => absurd (hk9.trans e9) (by decide), hcx (fun e9 => absurd (hk9.trans e9) (by decide))⟩, by show va_P D vwCl ws U9.heap ∧ va_at D vwCl (oa, oE cJ x) U9.heap; rw [ht9]; exact ⟨hB3, ho1⟩⟩, hS1.F ht9⟩) hS1.2.2 dL_call_24 hlocks
  · obtain ⟨ek, hrv, hc2⟩ := hu
    replace hB : va_P D vwCl u U8.heap := hB
    rw [ht] at hB
    have ho1 := va_at_keep ho (hk1 oa hoL hno)
    have hD2 : va_D A u := by
      obtain ⟨_, _, _, _, _, _, _, q⟩ := hc2
      exact q
    have hP2 : va_P D vwCl (u ++ [(oa, oE cJ x)]) H1 := va_P_app hB (va_P_one ho1)
    refine lv_i2l (v := Int32.toInt64 r) hx hb dL_call_8 rfl ?_
    refine va_last hx hb hKJ hP2 (va_D_out hD2 hno) hS1 u.length 0 (by rw [List.getElem?_append_right (Nat.le_refl _), Nat.sub_self]; rfl) rfl (vp_in_nI (by decide) (by decide)) dL_call_9 (fun H2 locs2 hP3 hD3 hS2 => ?_)
    rw [set_out] at hP3
    refine lv_goto (tgt := 25) hx hb dL_call_10 (by decide) ?_
    refine lv_iconst (v := nI 0) hx hb dL_call_25 (by decide) ?_
    refine W.widen (k := 2) (n := 12) (Nat.le_of_eq (Nat.zero_add _)) (Nat.le_of_eq (Nat.zero_add _)) ?_
    exact W.iret (v := nI 0) hx hb hr (fun U9 ht9 hW9 => ⟨⟨_, (u, Int32.toInt64 (r)), rfl, ⟨by rw [ek], by rw [ek]; decide, fun _ => by first | rfl | rw [hrv], hc2⟩, by show va_P D vwCl u U9.heap ∧ va_at D vwCl (oa, oE cJ (Int32.toInt64 (r))) U9.heap; rw [ht9]; exact ⟨va_P_l hP3, out_at (va_P_r hP3 0 _ rfl)⟩⟩, hS2.F ht9⟩) hS2.2.2 dL_call_26 hlocks
set_option maxHeartbeats 4000000 in
set_option maxRecDepth 100000 in
theorem cL9_isIn (l : Launch) (hst : l.stackTraces = false) (D : va_G) (cI cO cb : ClassId) (eA mi : Nat) (st : Nat → Nat) (dO dT : Nat) (vF : Value) {A : Nat → Prop} (ws : va_W) {h : Nat} {M : MS} (hc : cSt cI cO eA st A h M ws) (hM : MI M) (hs : sInj st) (cJ : ClassId) (oa : Nat) (x : Int64) (hno : ¬ A oa) (b : Int32) (t : Int32) (k : Int32) : Met l yL_isIn wsL_isIn ({ frames := 9, cells := 3, slots := 18, locals := 149 }) (va_Pc [.ref h, .int b, .int t, .int k, .ref oa] (lB D cI cO cb eA mi st dO dT vF A ws cJ oa x)) (va_Qi (fun (ri : Int32) (u : va_W × Int64) => ri = nI (k_ask M b t k) ∧ k_ask M b t k ≤ 3 ∧ (k_ask M b t k = 0 → u.2 = Int32.toInt64 (bi (r_isIn M b t k))) ∧ cSt cI cO eA st A h (M) u.1) (fun u U9 => va_P D vwCl u.1 U9.heap ∧ va_at D vwCl (oa, oE cJ u.2) U9.heap) (fun q => A q ∨ q = oa)) 3 18 (fun q => A q ∨ q = oa) := by
  have hcx : k_ask M b t k ≠ 0 → cSt cI cO eA st A h (M) ws := fun _ => hc
  obtain ⟨k9, hk9, hk9S, hMet⟩ := cq_isIn l hst D cI cO cb eA mi st ws hc hM hs b t k
  obtain ⟨own9, kd, F, L, hC, hW, ⟨tn, lo, aw, co, ct, ow, G⟩, hD⟩ := hc
  have hm_1 : (h, .inr (9, [.ref (F 0 h), .ref (F 1 h), .ref (F 2 h), .ref (F 3 h), .ref (F 4 h), .int (nI (F 5 h))])) ∈ ws := hC.at G.1.1 (by decide) (by decide)
  refine met_ofWH (cc := cL_isIn) (maxL := 6) (ret := (some .int)) (hh := [(0, 19, 22, 21)]) (by decide) rfl ?_
  intro p e s m args below meth c s₁ B hml htab hv
  obtain ⟨rfl, ⟨hP, hK, ⟨hG, hGT⟩, hA⟩, hKJ, ho, hoL, hn1, hn2, hn3⟩ := hv
  have hx := B.exec
  have hb := B.bytes
  have hr := B.returns
  have hts := atoms_spec (ws := wsL_isIn) B.pre
  have hown : s.vm.findClass RL = some m.cls := findClass_of_methodNamed B.named
  have hlocks := B.notSynchronized
  have hS : va_S (fun q => A q ∨ q = oa) s.heap s.heap [] := va_S.rf
  have hSA : va_S A s.heap s.heap [] := va_S.rf
  have hl := lv_entry ([.ref h, .int b, .int t, .int k, .ref oa]) (n := 6) (Nat.le_of_ble_eq_true rfl)
  rw [lg_entry_eq]
  generalize (lg_sl ([.ref h, .int b, .int t, .int k, .ref oa]) ++ List.replicate (6 - (lg_sl ([.ref h, .int b, .int t, .int k, .ref oa])).length) Slot.unset).toArray = ls at hl ⊢
  have hl : lv_has ls 6 [(0, .ref h), (1, .int b), (2, .int t), (3, .int k), (4, .ref oa)] := hl
  refine lv_aload hx hb dL_isIn_0 (lv_at hl 4 rfl) ?_
  refine lv_iconst (v := nI 0) hx hb dL_isIn_2 (by decide) ?_
  refine lv_aload_n hx hb dL_isIn_3 rfl (lv_at hl 0 rfl) ?_
  refine lv_iload_n hx hb dL_isIn_4 rfl (lv_at hl 1 rfl) ?_
  refine lv_iload_n hx hb dL_isIn_5 rfl (lv_at hl 2 rfl) ?_
  refine lv_iload_n hx hb dL_isIn_6 rfl (lv_at hl 3 rfl) ?_
  refine vx_calli (vx_runV (As := [.int b, .int t, .int k]) (rest := [.int (nI 0), .ref oa]) ⟨hx, hb, hml, hown, hts⟩ hMet (cwV 3 hts gL_isIn_X8_isIn rfl rfl rfl kd_X8_isIn ⟨Nat.le_of_ble_eq_true rfl, Nat.le_of_ble_eq_true rfl⟩) ⟨cB_blind, c_recv hK hP rfl hm_1, cB_pre hK hG hA hSA hP _⟩ rfl rfl hl.1 rfl (lv_room (Nat.le_of_ble_eq_true rfl)) dL_isIn_7 ⟨Nat.le_of_eq (Nat.zero_add _), Nat.le_of_eq (Nat.zero_add _)⟩) hS (fun _ _ h => Or.inl h) (fun _ h => Or.inl h) (fun _ _ h => Or.inl h) (fun E9 ce9 q9 u9 U8 H1 locs1 ht hvm hu hB hz1 hk1 hS1 hc1 hc2 hc3 => ?_) (fun r u U8 H1 locs1 ht hvm hu hB hz1 hk1 hS1 => ?_)
  · obtain ⟨hB1, hB2, hB3⟩ := hB
    rw [ht] at hB3
    have ho1 := va_at_keep ho (hk1 oa hoL hno)
    simp only [List.mem_cons, List.not_mem_nil, or_false] at hk9S
    rcases hk9S with rfl | rfl
    · exact absurd rfl hB2
    · obtain rfl : E9 = "java/lang/IndexOutOfBoundsException" := hB1.trans rfl
      refine vx_catch (own := RL) (name := "java/lang/IndexOutOfBoundsException") hown [] ⟨0, 19, 22, 21⟩ [] htab (fun z hz => ?_) (by decide) (by decide) (hts (.classLink RL 21 "java/lang/IndexOutOfBoundsException") (List.mem_of_getElem? (i := 1) rfl)) (hG.2.2.2.2.2.2.1.1 ("java/lang/IndexOutOfBoundsException", "java/lang/IndexOutOfBoundsException") (by decide)) hc1 hc2 hc3 ?_
      · cases hz
      · refine lv_astore (lv' := [(5, .ref q9), (0, .ref h), (1, .int b), (2, .int t), (3, .int k), (4, .ref oa)]) hx hb dL_isIn_22 hl (by decide) rfl (fun ls hl => ?_)
        refine lv_iconst (v := nI 1) hx hb dL_isIn_24 (by decide) ?_
        refine W.widen (k := 3) (n := 18) (Nat.le_of_eq (Nat.zero_add _)) (Nat.le_of_eq (Nat.zero_add _)) ?_
        exact W.iret (v := nI 1) hx hb hr (fun U9 ht9 hW9 => ⟨⟨_, (ws, x), rfl, ⟨by rw [← hk9]; rfl, by rw [← hk9]; decide, fun e9 => absurd (hk9.trans e9) (by decide), hcx (fun e9 => absurd (hk9.trans e9) (by decide))⟩, by show va_P D vwCl ws U9.heap ∧ va_at D vwCl (oa, oE cJ x) U9.heap; rw [ht9]; exact ⟨hB3, ho1⟩⟩, hS1.F ht9⟩) hS1.2.2 dL_isIn_25 hlocks
  · obtain ⟨ek, hrv, hc2⟩ := hu
    replace hB : va_P D vwCl u U8.heap := hB
    rw [ht] at hB
    have ho1 := va_at_keep ho (hk1 oa hoL hno)
    have hD2 : va_D A u := by
      obtain ⟨_, _, _, _, _, _, _, q⟩ := hc2
      exact q
    have hP2 : va_P D vwCl (u ++ [(oa, oE cJ x)]) H1 := va_P_app hB (va_P_one ho1)
    subst hrv
    refine b_if_eq (tgt := 17) hx hb dL_isIn_10 (by decide) (fun c9 => ?_) (fun c9 => ?_)
    · refine lv_lconst (v := Int32.toInt64 (bi (r_isIn M b t k))) hx hb dL_isIn_17 (by rw [c9]; first | rfl | decide) ?_
      refine va_last hx hb hKJ hP2 (va_D_out hD2 hno) hS1 u.length 0 (by rw [List.getElem?_append_right (Nat.le_refl _), Nat.sub_self]; rfl) rfl (vp_in_nI (by decide) (by decide)) dL_isIn_18 (fun H2 locs2 hP3 hD3 hS2 => ?_)
      rw [set_out] at hP3
      refine lv_goto (tgt := 26) hx hb dL_isIn_19 (by decide) ?_
      refine lv_iconst (v := nI 0) hx hb dL_isIn_26 (by decide) ?_
      refine W.widen (k := 3) (n := 18) (Nat.le_of_eq (Nat.zero_add _)) (Nat.le_of_eq (Nat.zero_add _)) ?_
      exact W.iret (v := nI 0) hx hb hr (fun U9 ht9 hW9 => ⟨⟨_, (u, Int32.toInt64 (bi (r_isIn M b t k))), rfl, ⟨by rw [ek], by rw [ek]; decide, fun _ => by first | rfl | rw [hrv], hc2⟩, by show va_P D vwCl u U9.heap ∧ va_at D vwCl (oa, oE cJ (Int32.toInt64 (bi (r_isIn M b t k)))) U9.heap; rw [ht9]; exact ⟨va_P_l hP3, out_at (va_P_r hP3 0 _ rfl)⟩⟩, hS2.F ht9⟩) hS2.2.2 dL_isIn_27 hlocks
    · refine lv_lconst (v := Int32.toInt64 (bi (r_isIn M b t k))) hx hb dL_isIn_13 (by rw [c9]; first | rfl | decide) ?_
      refine lv_goto (tgt := 18) hx hb dL_isIn_14 (by decide) ?_
      refine va_last hx hb hKJ hP2 (va_D_out hD2 hno) hS1 u.length 0 (by rw [List.getElem?_append_right (Nat.le_refl _), Nat.sub_self]; rfl) rfl (vp_in_nI (by decide) (by decide)) dL_isIn_18 (fun H2 locs2 hP3 hD3 hS2 => ?_)
      rw [set_out] at hP3
      refine lv_goto (tgt := 26) hx hb dL_isIn_19 (by decide) ?_
      refine lv_iconst (v := nI 0) hx hb dL_isIn_26 (by decide) ?_
      refine W.widen (k := 3) (n := 18) (Nat.le_of_eq (Nat.zero_add _)) (Nat.le_of_eq (Nat.zero_add _)) ?_
      exact W.iret (v := nI 0) hx hb hr (fun U9 ht9 hW9 => ⟨⟨_, (u, Int32.toInt64 (bi (r_isIn M b t k))), rfl, ⟨by rw [ek], by rw [ek]; decide, fun _ => by first | rfl | rw [hrv], hc2⟩, by show va_P D vwCl u U9.heap ∧ va_at D vwCl (oa, oE cJ (Int32.toInt64 (bi (r_isIn M b t k)))) U9.heap; rw [ht9]; exact ⟨va_P_l hP3, out_at (va_P_r hP3 0 _ rfl)⟩⟩, hS2.F ht9⟩) hS2.2.2 dL_isIn_27 hlocks
set_option maxHeartbeats 4000000 in
set_option maxRecDepth 100000 in
theorem cL9_score (l : Launch) (hst : l.stackTraces = false) (D : va_G) (cI cO cb : ClassId) (eA mi : Nat) (st : Nat → Nat) (dO dT : Nat) (vF : Value) {A : Nat → Prop} (ws : va_W) {h : Nat} {M : MS} (hc : cSt cI cO eA st A h M ws) (hM : MI M) (hs : sInj st) (cJ : ClassId) (oa : Nat) (x : Int64) (hno : ¬ A oa) (b : Int32) (t : Int32) (k : Int32) : Met l yL_score wsL_score ({ frames := 9, cells := 3, slots := 18, locals := 150 }) (va_Pc [.ref h, .int b, .int t, .int k, .ref oa] (lB D cI cO cb eA mi st dO dT vF A ws cJ oa x)) (va_Qi (fun (ri : Int32) (u : va_W × Int64) => ri = nI (k_ask M b t k) ∧ k_ask M b t k ≤ 3 ∧ (k_ask M b t k = 0 → u.2 = Int32.toInt64 (r_score M b t k)) ∧ cSt cI cO eA st A h (M) u.1) (fun u U9 => va_P D vwCl u.1 U9.heap ∧ va_at D vwCl (oa, oE cJ u.2) U9.heap) (fun q => A q ∨ q = oa)) 3 18 (fun q => A q ∨ q = oa) := by
  have hcx : k_ask M b t k ≠ 0 → cSt cI cO eA st A h (M) ws := fun _ => hc
  obtain ⟨k9, hk9, hk9S, hMet⟩ := cq_score l hst D cI cO cb eA mi st ws hc hM hs b t k
  obtain ⟨own9, kd, F, L, hC, hW, ⟨tn, lo, aw, co, ct, ow, G⟩, hD⟩ := hc
  have hm_1 : (h, .inr (9, [.ref (F 0 h), .ref (F 1 h), .ref (F 2 h), .ref (F 3 h), .ref (F 4 h), .int (nI (F 5 h))])) ∈ ws := hC.at G.1.1 (by decide) (by decide)
  refine met_ofWH (cc := cL_score) (maxL := 6) (ret := (some .int)) (hh := [(0, 12, 15, 21)]) (by decide) rfl ?_
  intro p e s m args below meth c s₁ B hml htab hv
  obtain ⟨rfl, ⟨hP, hK, ⟨hG, hGT⟩, hA⟩, hKJ, ho, hoL, hn1, hn2, hn3⟩ := hv
  have hx := B.exec
  have hb := B.bytes
  have hr := B.returns
  have hts := atoms_spec (ws := wsL_score) B.pre
  have hown : s.vm.findClass RL = some m.cls := findClass_of_methodNamed B.named
  have hlocks := B.notSynchronized
  have hS : va_S (fun q => A q ∨ q = oa) s.heap s.heap [] := va_S.rf
  have hSA : va_S A s.heap s.heap [] := va_S.rf
  have hl := lv_entry ([.ref h, .int b, .int t, .int k, .ref oa]) (n := 6) (Nat.le_of_ble_eq_true rfl)
  rw [lg_entry_eq]
  generalize (lg_sl ([.ref h, .int b, .int t, .int k, .ref oa]) ++ List.replicate (6 - (lg_sl ([.ref h, .int b, .int t, .int k, .ref oa])).length) Slot.unset).toArray = ls at hl ⊢
  have hl : lv_has ls 6 [(0, .ref h), (1, .int b), (2, .int t), (3, .int k), (4, .ref oa)] := hl
  refine lv_aload hx hb dL_score_0 (lv_at hl 4 rfl) ?_
  refine lv_iconst (v := nI 0) hx hb dL_score_2 (by decide) ?_
  refine lv_aload_n hx hb dL_score_3 rfl (lv_at hl 0 rfl) ?_
  refine lv_iload_n hx hb dL_score_4 rfl (lv_at hl 1 rfl) ?_
  refine lv_iload_n hx hb dL_score_5 rfl (lv_at hl 2 rfl) ?_
  refine lv_iload_n hx hb dL_score_6 rfl (lv_at hl 3 rfl) ?_
  refine vx_calli (vx_runV (As := [.int b, .int t, .int k]) (rest := [.int (nI 0), .ref oa]) ⟨hx, hb, hml, hown, hts⟩ hMet (cwV 3 hts gL_score_X8_score rfl rfl rfl kd_X8_score ⟨Nat.le_of_ble_eq_true rfl, Nat.le_of_ble_eq_true rfl⟩) ⟨cB_blind, c_recv hK hP rfl hm_1, cB_pre hK hG hA hSA hP _⟩ rfl rfl hl.1 rfl (lv_room (Nat.le_of_ble_eq_true rfl)) dL_score_7 ⟨Nat.le_of_eq (Nat.zero_add _), Nat.le_of_eq (Nat.zero_add _)⟩) hS (fun _ _ h => Or.inl h) (fun _ h => Or.inl h) (fun _ _ h => Or.inl h) (fun E9 ce9 q9 u9 U8 H1 locs1 ht hvm hu hB hz1 hk1 hS1 hc1 hc2 hc3 => ?_) (fun r u U8 H1 locs1 ht hvm hu hB hz1 hk1 hS1 => ?_)
  · obtain ⟨hB1, hB2, hB3⟩ := hB
    rw [ht] at hB3
    have ho1 := va_at_keep ho (hk1 oa hoL hno)
    simp only [List.mem_cons, List.not_mem_nil, or_false] at hk9S
    rcases hk9S with rfl | rfl
    · exact absurd rfl hB2
    · obtain rfl : E9 = "java/lang/IndexOutOfBoundsException" := hB1.trans rfl
      refine vx_catch (own := RL) (name := "java/lang/IndexOutOfBoundsException") hown [] ⟨0, 12, 15, 21⟩ [] htab (fun z hz => ?_) (by decide) (by decide) (hts (.classLink RL 21 "java/lang/IndexOutOfBoundsException") (List.mem_of_getElem? (i := 1) rfl)) (hG.2.2.2.2.2.2.1.1 ("java/lang/IndexOutOfBoundsException", "java/lang/IndexOutOfBoundsException") (by decide)) hc1 hc2 hc3 ?_
      · cases hz
      · refine lv_astore (lv' := [(5, .ref q9), (0, .ref h), (1, .int b), (2, .int t), (3, .int k), (4, .ref oa)]) hx hb dL_score_15 hl (by decide) rfl (fun ls hl => ?_)
        refine lv_iconst (v := nI 1) hx hb dL_score_17 (by decide) ?_
        refine W.widen (k := 3) (n := 18) (Nat.le_of_eq (Nat.zero_add _)) (Nat.le_of_eq (Nat.zero_add _)) ?_
        exact W.iret (v := nI 1) hx hb hr (fun U9 ht9 hW9 => ⟨⟨_, (ws, x), rfl, ⟨by rw [← hk9]; rfl, by rw [← hk9]; decide, fun e9 => absurd (hk9.trans e9) (by decide), hcx (fun e9 => absurd (hk9.trans e9) (by decide))⟩, by show va_P D vwCl ws U9.heap ∧ va_at D vwCl (oa, oE cJ x) U9.heap; rw [ht9]; exact ⟨hB3, ho1⟩⟩, hS1.F ht9⟩) hS1.2.2 dL_score_18 hlocks
  · obtain ⟨ek, hrv, hc2⟩ := hu
    replace hB : va_P D vwCl u U8.heap := hB
    rw [ht] at hB
    have ho1 := va_at_keep ho (hk1 oa hoL hno)
    have hD2 : va_D A u := by
      obtain ⟨_, _, _, _, _, _, _, q⟩ := hc2
      exact q
    have hP2 : va_P D vwCl (u ++ [(oa, oE cJ x)]) H1 := va_P_app hB (va_P_one ho1)
    refine lv_i2l (v := Int32.toInt64 r) hx hb dL_score_10 rfl ?_
    refine va_last hx hb hKJ hP2 (va_D_out hD2 hno) hS1 u.length 0 (by rw [List.getElem?_append_right (Nat.le_refl _), Nat.sub_self]; rfl) rfl (vp_in_nI (by decide) (by decide)) dL_score_11 (fun H2 locs2 hP3 hD3 hS2 => ?_)
    rw [set_out] at hP3
    refine lv_goto (tgt := 19) hx hb dL_score_12 (by decide) ?_
    refine lv_iconst (v := nI 0) hx hb dL_score_19 (by decide) ?_
    refine W.widen (k := 3) (n := 18) (Nat.le_of_eq (Nat.zero_add _)) (Nat.le_of_eq (Nat.zero_add _)) ?_
    exact W.iret (v := nI 0) hx hb hr (fun U9 ht9 hW9 => ⟨⟨_, (u, Int32.toInt64 (r)), rfl, ⟨by rw [ek], by rw [ek]; decide, fun _ => by first | rfl | rw [hrv], hc2⟩, by show va_P D vwCl u U9.heap ∧ va_at D vwCl (oa, oE cJ (Int32.toInt64 (r))) U9.heap; rw [ht9]; exact ⟨va_P_l hP3, out_at (va_P_r hP3 0 _ rfl)⟩⟩, hS2.F ht9⟩) hS2.2.2 dL_score_20 hlocks
