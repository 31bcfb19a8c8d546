/-! the law's helpers, the others -/
set_option maxHeartbeats 4000000 in
set_option maxRecDepth 100000 in
theorem cL9_ranked (l : Launch) (hst : l.stackTraces = false) (D : va_G) (cI cO cb : ClassId) (eA mi : Nat) (st : Nat → Nat) (dO dT : Nat) (vF : Value) {A : Nat → Prop} (ws : va_W) {h : Nat} {M : MS} (hc : cSt cI cO eA st A h M ws) (hM : MI M) (hs : sInj st) (cJ : ClassId) (oa : Nat) (x : Int64) (hno : ¬ A oa) (t : Int32) (k : Int32) (z : Int32) : Met l yL_ranked wsL_ranked ({ frames := 9, cells := 3, slots := 18, locals := 162 }) (va_Pc [.ref h, .int t, .int k, .int z, .ref oa] (lB D cI cO cb eA mi st dO dT vF A ws cJ oa x)) (va_Qi (fun (ri : Int32) (u : va_W × Int64) => ri = nI (k_ranked M t k z) ∧ k_ranked M t k z ≤ 3 ∧ (k_ranked M t k z = 0 → u.2 = Int32.toInt64 (r_ranked M t k z)) ∧ cSt cI cO eA st A h (M) u.1) (fun u U9 => va_P D vwCl u.1 U9.heap ∧ va_at D vwCl (oa, oE cJ u.2) U9.heap) (fun q => A q ∨ q = oa)) 3 18 (fun q => A q ∨ q = oa) := by
  have hcx : k_ranked M t k z ≠ 0 → cSt cI cO eA st A h (M) ws := fun _ => hc
  obtain ⟨k9, hk9, hk9S, hMet⟩ := cq_ranked l hst D cI cO cb eA mi st ws hc hM hs t k z
  obtain ⟨own9, kd, F, L, hC, hW, ⟨tn, lo, aw, co, ct, ow, G⟩, hD⟩ := hc
  have hm_1 : (h, .inr (9, [.ref (F 0 h), .ref (F 1 h), .ref (F 2 h), .ref (F 3 h), .ref (F 4 h), .int (nI (F 5 h))])) ∈ ws := hC.at G.1.1 (by decide) (by decide)
  refine met_ofWH (cc := cL_ranked) (maxL := 6) (ret := (some .int)) (hh := [(0, 12, 15, 21), (0, 12, 19, 13)]) (by decide) rfl ?_
  intro p e s m args below meth c s₁ B hml htab hv
  obtain ⟨rfl, ⟨hP, hK, ⟨hG, hGT⟩, hA⟩, hKJ, ho, hoL, hn1, hn2, hn3⟩ := hv
  have hx := B.exec
  have hb := B.bytes
  have hr := B.returns
  have hts := atoms_spec (ws := wsL_ranked) B.pre
  have hown : s.vm.findClass RL = some m.cls := findClass_of_methodNamed B.named
  have hlocks := B.notSynchronized
  have hS : va_S (fun q => A q ∨ q = oa) s.heap s.heap [] := va_S.rf
  have hSA : va_S A s.heap s.heap [] := va_S.rf
  have hl := lv_entry ([.ref h, .int t, .int k, .int z, .ref oa]) (n := 6) (Nat.le_of_ble_eq_true rfl)
  rw [lg_entry_eq]
  generalize (lg_sl ([.ref h, .int t, .int k, .int z, .ref oa]) ++ List.replicate (6 - (lg_sl ([.ref h, .int t, .int k, .int z, .ref oa])).length) Slot.unset).toArray = ls at hl ⊢
  have hl : lv_has ls 6 [(0, .ref h), (1, .int t), (2, .int k), (3, .int z), (4, .ref oa)] := hl
  refine lv_aload hx hb dL_ranked_0 (lv_at hl 4 rfl) ?_
  refine lv_iconst (v := nI 0) hx hb dL_ranked_2 (by decide) ?_
  refine lv_aload_n hx hb dL_ranked_3 rfl (lv_at hl 0 rfl) ?_
  refine lv_iload_n hx hb dL_ranked_4 rfl (lv_at hl 1 rfl) ?_
  refine lv_iload_n hx hb dL_ranked_5 rfl (lv_at hl 2 rfl) ?_
  refine lv_iload_n hx hb dL_ranked_6 rfl (lv_at hl 3 rfl) ?_
  refine vx_calli (vx_runV (As := [.int t, .int k, .int z]) (rest := [.int (nI 0), .ref oa]) ⟨hx, hb, hml, hown, hts⟩ hMet (cwV 3 hts gL_ranked_X8_ranked rfl rfl rfl kd_X8_ranked ⟨Nat.le_of_ble_eq_true rfl, Nat.le_of_ble_eq_true rfl⟩) ⟨cB_blind, c_recv hK hP rfl hm_1, cB_pre hK hG hA hSA hP _⟩ rfl rfl hl.1 rfl (lv_room (Nat.le_of_ble_eq_true rfl)) dL_ranked_7 ⟨Nat.le_of_eq (Nat.zero_add _), Nat.le_of_eq (Nat.zero_add _)⟩) hS (fun _ _ h => Or.inl h) (fun _ h => Or.inl h) (fun _ _ h => Or.inl h) (fun E9 ce9 q9 u9 U8 H1 locs1 ht hvm hu hB hz1 hk1 hS1 hc1 hc2 hc3 => ?_) (fun r u U8 H1 locs1 ht hvm hu hB hz1 hk1 hS1 => ?_)
  · obtain ⟨hB1, hB2, hB3⟩ := hB
    rw [ht] at hB3
    have ho1 := va_at_keep ho (hk1 oa hoL hno)
    simp only [List.mem_cons, List.not_mem_nil, or_false] at hk9S
    rcases hk9S with rfl | rfl | rfl
    · exact absurd rfl hB2
    · obtain rfl : E9 = "java/lang/IndexOutOfBoundsException" := hB1.trans rfl
      refine vx_catch (own := RL) (name := "java/lang/IndexOutOfBoundsException") hown [] ⟨0, 12, 15, 21⟩ [⟨0, 12, 19, 13⟩] htab (fun z hz => ?_) (by decide) (by decide) (hts (.classLink RL 21 "java/lang/IndexOutOfBoundsException") (List.mem_of_getElem? (i := 1) rfl)) (hG.2.2.2.2.2.2.1.1 ("java/lang/IndexOutOfBoundsException", "java/lang/IndexOutOfBoundsException") (by decide)) hc1 hc2 hc3 ?_
      · cases hz
      · refine lv_astore (lv' := [(5, .ref q9), (0, .ref h), (1, .int t), (2, .int k), (3, .int z), (4, .ref oa)]) hx hb dL_ranked_15 hl (by decide) rfl (fun ls hl => ?_)
        refine lv_iconst (v := nI 1) hx hb dL_ranked_17 (by decide) ?_
        refine W.widen (k := 3) (n := 18) (Nat.le_of_eq (Nat.zero_add _)) (Nat.le_of_eq (Nat.zero_add _)) ?_
        exact W.iret (v := nI 1) hx hb hr (fun U9 ht9 hW9 => ⟨⟨_, (ws, x), rfl, ⟨by rw [← hk9]; rfl, by rw [← hk9]; decide, fun e9 => absurd (hk9.trans e9) (by decide), hcx (fun e9 => absurd (hk9.trans e9) (by decide))⟩, by show va_P D vwCl ws U9.heap ∧ va_at D vwCl (oa, oE cJ x) U9.heap; rw [ht9]; exact ⟨hB3, ho1⟩⟩, hS1.F ht9⟩) hS1.2.2 dL_ranked_18 hlocks
    · obtain rfl : E9 = "java/lang/IllegalArgumentException" := hB1.trans rfl
      refine vx_catch (own := RL) (name := "java/lang/IllegalArgumentException") hown [⟨0, 12, 15, 21⟩] ⟨0, 12, 19, 13⟩ [] htab (fun z hz => ?_) (by decide) (by decide) (hts (.classLink RL 13 "java/lang/IllegalArgumentException") (List.mem_of_getElem? (i := 2) rfl)) (hG.2.2.2.2.2.2.1.1 ("java/lang/IllegalArgumentException", "java/lang/IllegalArgumentException") (by decide)) hc1 hc2 hc3 ?_
      · obtain rfl := List.mem_singleton.mp hz
        exact Or.inr ⟨by decide, _, (hts (.classLink RL 21 "java/lang/IndexOutOfBoundsException") (List.mem_of_getElem? (i := 1) rfl)), hn1⟩
      · refine lv_astore (lv' := [(5, .ref q9), (0, .ref h), (1, .int t), (2, .int k), (3, .int z), (4, .ref oa)]) hx hb dL_ranked_19 hl (by decide) rfl (fun ls hl => ?_)
        refine lv_iconst (v := nI 2) hx hb dL_ranked_21 (by decide) ?_
        refine W.widen (k := 3) (n := 18) (Nat.le_of_eq (Nat.zero_add _)) (Nat.le_of_eq (Nat.zero_add _)) ?_
        exact W.iret (v := nI 2) hx hb hr (fun U9 ht9 hW9 => ⟨⟨_, (ws, x), rfl, ⟨by rw [← hk9]; rfl, by rw [← hk9]; decide, fun e9 => absurd (hk9.trans e9) (by decide), hcx (fun e9 => absurd (hk9.trans e9) (by decide))⟩, by show va_P D vwCl ws U9.heap ∧ va_at D vwCl (oa, oE cJ x) U9.heap; rw [ht9]; exact ⟨hB3, ho1⟩⟩, hS1.F ht9⟩) hS1.2.2 dL_ranked_22 hlocks
  · obtain ⟨ek, hrv, hc2⟩ := hu
    replace hB : va_P D vwCl u U8.heap := hB
    rw [ht] at hB
    have ho1 := va_at_keep ho (hk1 oa hoL hno)
    have hD2 : va_D A u := by
      obtain ⟨_, _, _, _, _, _, _, q⟩ := hc2
      exact q
    have hP2 : va_P D vwCl (u ++ [(oa, oE cJ x)]) H1 := va_P_app hB (va_P_one ho1)
    refine lv_i2l (v := Int32.toInt64 r) hx hb dL_ranked_10 rfl ?_
    refine va_last hx hb hKJ hP2 (va_D_out hD2 hno) hS1 u.length 0 (by rw [List.getElem?_append_right (Nat.le_refl _), Nat.sub_self]; rfl) rfl (vp_in_nI (by decide) (by decide)) dL_ranked_11 (fun H2 locs2 hP3 hD3 hS2 => ?_)
    rw [set_out] at hP3
    refine lv_goto (tgt := 23) hx hb dL_ranked_12 (by decide) ?_
    refine lv_iconst (v := nI 0) hx hb dL_ranked_23 (by decide) ?_
    refine W.widen (k := 3) (n := 18) (Nat.le_of_eq (Nat.zero_add _)) (Nat.le_of_eq (Nat.zero_add _)) ?_
    exact W.iret (v := nI 0) hx hb hr (fun U9 ht9 hW9 => ⟨⟨_, (u, Int32.toInt64 (r)), rfl, ⟨by rw [ek], by rw [ek]; decide, fun _ => by first | rfl | rw [hrv], hc2⟩, by show va_P D vwCl u U9.heap ∧ va_at D vwCl (oa, oE cJ (Int32.toInt64 (r))) U9.heap; rw [ht9]; exact ⟨va_P_l hP3, out_at (va_P_r hP3 0 _ rfl)⟩⟩, hS2.F ht9⟩) hS2.2.2 dL_ranked_24 hlocks
set_option maxHeartbeats 4000000 in
set_option maxRecDepth 100000 in
theorem cL9_awardOf (l : Launch) (hst : l.stackTraces = false) (D : va_G) (cI cO cb : ClassId) (eA mi : Nat) (st : Nat → Nat) (dO dT : Nat) (vF : Value) {A : Nat → Prop} (ws : va_W) {h : Nat} {M : MS} (hc : cSt cI cO eA st A h M ws) (hM : MI M) (hs : sInj st) (cJ : ClassId) (oa : Nat) (x : Int64) (hno : ¬ A oa) (t : Int32) (k : Int32) : Met l yL_awardOf wsL_awardOf ({ frames := 9, cells := 2, slots := 12, locals := 148 }) (va_Pc [.ref h, .int t, .int k, .ref oa] (lB D cI cO cb eA mi st dO dT vF A ws cJ oa x)) (va_Qi (fun (ri : Int32) (u : va_W × Int64) => ri = nI (k_lot M t k) ∧ k_lot M t k ≤ 3 ∧ (k_lot M t k = 0 → u.2 = Int32.toInt64 (r_awardOf M t k)) ∧ cSt cI cO eA st A h (M) u.1) (fun u U9 => va_P D vwCl u.1 U9.heap ∧ va_at D vwCl (oa, oE cJ u.2) U9.heap) (fun q => A q ∨ q = oa)) 2 12 (fun q => A q ∨ q = oa) := by
  have hcx : k_lot M t k ≠ 0 → cSt cI cO eA st A h (M) ws := fun _ => hc
  obtain ⟨k9, hk9, hk9S, hMet⟩ := cq_awardOf l hst D cI cO cb eA mi st ws hc hM hs t k
  obtain ⟨own9, kd, F, L, hC, hW, ⟨tn, lo, aw, co, ct, ow, G⟩, hD⟩ := hc
  have hm_1 : (h, .inr (9, [.ref (F 0 h), .ref (F 1 h), .ref (F 2 h), .ref (F 3 h), .ref (F 4 h), .int (nI (F 5 h))])) ∈ ws := hC.at G.1.1 (by decide) (by decide)
  refine met_ofWH (cc := cL_awardOf) (maxL := 5) (ret := (some .int)) (hh := [(0, 10, 13, 21)]) (by decide) rfl ?_
  intro p e s m args below meth c s₁ B hml htab hv
  obtain ⟨rfl, ⟨hP, hK, ⟨hG, hGT⟩, hA⟩, hKJ, ho, hoL, hn1, hn2, hn3⟩ := hv
  have hx := B.exec
  have hb := B.bytes
  have hr := B.returns
  have hts := atoms_spec (ws := wsL_awardOf) B.pre
  have hown : s.vm.findClass RL = some m.cls := findClass_of_methodNamed B.named
  have hlocks := B.notSynchronized
  have hS : va_S (fun q => A q ∨ q = oa) s.heap s.heap [] := va_S.rf
  have hSA : va_S A s.heap s.heap [] := va_S.rf
  have hl := lv_entry ([.ref h, .int t, .int k, .ref oa]) (n := 5) (Nat.le_of_ble_eq_true rfl)
  rw [lg_entry_eq]
  generalize (lg_sl ([.ref h, .int t, .int k, .ref oa]) ++ List.replicate (5 - (lg_sl ([.ref h, .int t, .int k, .ref oa])).length) Slot.unset).toArray = ls at hl ⊢
  have hl : lv_has ls 5 [(0, .ref h), (1, .int t), (2, .int k), (3, .ref oa)] := hl
  refine lv_aload_n hx hb dL_awardOf_0 rfl (lv_at hl 3 rfl) ?_
  refine lv_iconst (v := nI 0) hx hb dL_awardOf_1 (by decide) ?_
  refine lv_aload_n hx hb dL_awardOf_2 rfl (lv_at hl 0 rfl) ?_
  refine lv_iload_n hx hb dL_awardOf_3 rfl (lv_at hl 1 rfl) ?_
  refine lv_iload_n hx hb dL_awardOf_4 rfl (lv_at hl 2 rfl) ?_
  refine vx_calli (vx_runV (As := [.int t, .int k]) (rest := [.int (nI 0), .ref oa]) ⟨hx, hb, hml, hown, hts⟩ hMet (cwV 2 hts gL_awardOf_X8_awardOf rfl rfl rfl kd_X8_awardOf ⟨Nat.le_of_ble_eq_true rfl, Nat.le_of_ble_eq_true rfl⟩) ⟨cB_blind, c_recv hK hP rfl hm_1, cB_pre hK hG hA hSA hP _⟩ rfl rfl hl.1 rfl (lv_room (Nat.le_of_ble_eq_true rfl)) dL_awardOf_5 ⟨Nat.le_of_eq (Nat.zero_add _), Nat.le_of_eq (Nat.zero_add _)⟩) hS (fun _ _ h => Or.inl h) (fun _ h => Or.inl h) (fun _ _ h => Or.inl h) (fun E9 ce9 q9 u9 U8 H1 locs1 ht hvm hu hB hz1 hk1 hS1 hc1 hc2 hc3 => ?_) (fun r u U8 H1 locs1 ht hvm hu hB hz1 hk1 hS1 => ?_)
  · obtain ⟨hB1, hB2, hB3⟩ := hB
    rw [ht] at hB3
    have ho1 := va_at_keep ho (hk1 oa hoL hno)
    simp only [List.mem_cons, List.not_mem_nil, or_false] at hk9S
    rcases hk9S with rfl | rfl
    · exact absurd rfl hB2
    · obtain rfl : E9 = "java/lang/IndexOutOfBoundsException" := hB1.trans rfl
      refine vx_catch (own := RL) (name := "java/lang/IndexOutOfBoundsException") hown [] ⟨0, 10, 13, 21⟩ [] htab (fun z hz => ?_) (by decide) (by decide) (hts (.classLink RL 21 "java/lang/IndexOutOfBoundsException") (List.mem_of_getElem? (i := 1) rfl)) (hG.2.2.2.2.2.2.1.1 ("java/lang/IndexOutOfBoundsException", "java/lang/IndexOutOfBoundsException") (by decide)) hc1 hc2 hc3 ?_
      · cases hz
      · refine lv_astore (lv' := [(4, .ref q9), (0, .ref h), (1, .int t), (2, .int k), (3, .ref oa)]) hx hb dL_awardOf_13 hl (by decide) rfl (fun ls hl => ?_)
        refine lv_iconst (v := nI 1) hx hb dL_awardOf_15 (by decide) ?_
        refine W.widen (k := 2) (n := 12) (Nat.le_of_eq (Nat.zero_add _)) (Nat.le_of_eq (Nat.zero_add _)) ?_
        exact W.iret (v := nI 1) hx hb hr (fun U9 ht9 hW9 => ⟨⟨_, (ws, x), rfl, ⟨by rw [← hk9]; rfl, by rw [← hk9]; decide, fun e9 => absurd (hk9.trans e9) (by decide), hcx (fun e9 => absurd (hk9.trans e9) (by decide))⟩, by show va_P D vwCl ws U9.heap ∧ va_at D vwCl (oa, oE cJ x) U9.heap; rw [ht9]; exact ⟨hB3, ho1⟩⟩, hS1.F ht9⟩) hS1.2.2 dL_awardOf_16 hlocks
  · obtain ⟨ek, hrv, hc2⟩ := hu
    replace hB : va_P D vwCl u U8.heap := hB
    rw [ht] at hB
    have ho1 := va_at_keep ho (hk1 oa hoL hno)
    have hD2 : va_D A u := by
      obtain ⟨_, _, _, _, _, _, _, q⟩ := hc2
      exact q
    have hP2 : va_P D vwCl (u ++ [(oa, oE cJ x)]) H1 := va_P_app hB (va_P_one ho1)
    refine lv_i2l (v := Int32.toInt64 r) hx hb dL_awardOf_8 rfl ?_
    refine va_last hx hb hKJ hP2 (va_D_out hD2 hno) hS1 u.length 0 (by rw [List.getElem?_append_right (Nat.le_refl _), Nat.sub_self]; rfl) rfl (vp_in_nI (by decide) (by decide)) dL_awardOf_9 (fun H2 locs2 hP3 hD3 hS2 => ?_)
    rw [set_out] at hP3
    refine lv_goto (tgt := 17) hx hb dL_awardOf_10 (by decide) ?_
    refine lv_iconst (v := nI 0) hx hb dL_awardOf_17 (by decide) ?_
    refine W.widen (k := 2) (n := 12) (Nat.le_of_eq (Nat.zero_add _)) (Nat.le_of_eq (Nat.zero_add _)) ?_
    exact W.iret (v := nI 0) hx hb hr (fun U9 ht9 hW9 => ⟨⟨_, (u, Int32.toInt64 (r)), rfl, ⟨by rw [ek], by rw [ek]; decide, fun _ => by first | rfl | rw [hrv], hc2⟩, by show va_P D vwCl u U9.heap ∧ va_at D vwCl (oa, oE cJ (Int32.toInt64 (r))) U9.heap; rw [ht9]; exact ⟨va_P_l hP3, out_at (va_P_r hP3 0 _ rfl)⟩⟩, hS2.F ht9⟩) hS2.2.2 dL_awardOf_18 hlocks
set_option maxHeartbeats 4000000 in
set_option maxRecDepth 100000 in
theorem cL9_winner (l : Launch) (hst : l.stackTraces = false) (D : va_G) (cI cO cb : ClassId) (eA mi : Nat) (st : Nat → Nat) (dO dT : Nat) (vF : Value) {A : Nat → Prop} (ws : va_W) {h : Nat} {M : MS} (hc : cSt cI cO eA st A h M ws) (hM : MI M) (hs : sInj st) (cJ : ClassId) (oa : Nat) (x : Int64) (hno : ¬ A oa) (i : Int32) : Met l yL_winner wsL_winner ({ frames := 8, cells := 1, slots := 6, locals := 123 }) (va_Pc [.ref h, .int i, .ref oa] (lB D cI cO cb eA mi st dO dT vF A ws cJ oa x)) (va_Qi (fun (ri : Int32) (u : va_W × Int64) => ri = nI (k_aw M i) ∧ k_aw M i ≤ 3 ∧ (k_aw M i = 0 → u.2 = Int32.toInt64 (r_winner M i)) ∧ cSt cI cO eA st A h (M) u.1) (fun u U9 => va_P D vwCl u.1 U9.heap ∧ va_at D vwCl (oa, oE cJ u.2) U9.heap) (fun q => A q ∨ q = oa)) 1 6 (fun q => A q ∨ q = oa) := by
  have hcx : k_aw M i ≠ 0 → cSt cI cO eA st A h (M) ws := fun _ => hc
  obtain ⟨k9, hk9, hk9S, hMet⟩ := cq_winner l hst D cI cO cb eA mi st ws hc hM hs i
  obtain ⟨own9, kd, F, L, hC, hW, ⟨tn, lo, aw, co, ct, ow, G⟩, hD⟩ := hc
  have hm_1 : (h, .inr (9, [.ref (F 0 h), .ref (F 1 h), .ref (F 2 h), .ref (F 3 h), .ref (F 4 h), .int (nI (F 5 h))])) ∈ ws := hC.at G.1.1 (by decide) (by decide)
  refine met_ofWH (cc := cL_winner) (maxL := 4) (ret := (some .int)) (hh := [(0, 9, 12, 21)]) (by decide) rfl ?_
  intro p e s m args below meth c s₁ B hml htab hv
  obtain ⟨rfl, ⟨hP, hK, ⟨hG, hGT⟩, hA⟩, hKJ, ho, hoL, hn1, hn2, hn3⟩ := hv
  have hx := B.exec
  have hb := B.bytes
  have hr := B.returns
  have hts := atoms_spec (ws := wsL_winner) B.pre
  have hown : s.vm.findClass RL = some m.cls := findClass_of_methodNamed B.named
  have hlocks := B.notSynchronized
  have hS : va_S (fun q => A q ∨ q = oa) s.heap s.heap [] := va_S.rf
  have hSA : va_S A s.heap s.heap [] := va_S.rf
  have hl := lv_entry ([.ref h, .int i, .ref oa]) (n := 4) (Nat.le_of_ble_eq_true rfl)
  rw [lg_entry_eq]
  generalize (lg_sl ([.ref h, .int i, .ref oa]) ++ List.replicate (4 - (lg_sl ([.ref h, .int i, .ref oa])).length) Slot.unset).toArray = ls at hl ⊢
  have hl : lv_has ls 4 [(0, .ref h), (1, .int i), (2, .ref oa)] := hl
  refine lv_aload_n hx hb dL_winner_0 rfl (lv_at hl 2 rfl) ?_
  refine lv_iconst (v := nI 0) hx hb dL_winner_1 (by decide) ?_
  refine lv_aload_n hx hb dL_winner_2 rfl (lv_at hl 0 rfl) ?_
  refine lv_iload_n hx hb dL_winner_3 rfl (lv_at hl 1 rfl) ?_
  refine vx_calli (vx_runV (As := [.int i]) (rest := [.int (nI 0), .ref oa]) ⟨hx, hb, hml, hown, hts⟩ hMet (cwV 1 hts gL_winner_X8_winner rfl rfl rfl kd_X8_winner ⟨Nat.le_of_ble_eq_true rfl, Nat.le_of_ble_eq_true rfl⟩) ⟨cB_blind, c_recv hK hP rfl hm_1, cB_pre hK hG hA hSA hP _⟩ rfl rfl hl.1 rfl (lv_room (Nat.le_of_ble_eq_true rfl)) dL_winner_4 ⟨Nat.le_of_eq (Nat.zero_add _), Nat.le_of_eq (Nat.zero_add _)⟩) hS (fun _ _ h => Or.inl h) (fun _ h => Or.inl h) (fun _ _ h => Or.inl h) (fun E9 ce9 q9 u9 U8 H1 locs1 ht hvm hu hB hz1 hk1 hS1 hc1 hc2 hc3 => ?_) (fun r u U8 H1 locs1 ht hvm hu hB hz1 hk1 hS1 => ?_)
  · obtain ⟨hB1, hB2, hB3⟩ := hB
    rw [ht] at hB3
    have ho1 := va_at_keep ho (hk1 oa hoL hno)
    simp only [List.mem_cons, List.not_mem_nil, or_false] at hk9S
    rcases hk9S with rfl | rfl
    · exact absurd rfl hB2
    · obtain rfl : E9 = "java/lang/IndexOutOfBoundsException" := hB1.trans rfl
      refine vx_catch (own := RL) (name := "java/lang/IndexOutOfBoundsException") hown [] ⟨0, 9, 12, 21⟩ [] htab (fun z hz => ?_) (by decide) (by decide) (hts (.classLink RL 21 "java/lang/IndexOutOfBoundsException") (List.mem_of_getElem? (i := 1) rfl)) (hG.2.2.2.2.2.2.1.1 ("java/lang/IndexOutOfBoundsException", "java/lang/IndexOutOfBoundsException") (by decide)) hc1 hc2 hc3 ?_
      · cases hz
      · refine lv_astore_n (lv' := [(3, .ref q9), (0, .ref h), (1, .int i), (2, .ref oa)]) hx hb dL_winner_12 rfl hl (by decide) rfl (fun ls hl => ?_)
        refine lv_iconst (v := nI 1) hx hb dL_winner_13 (by decide) ?_
        refine W.widen (k := 1) (n := 6) (Nat.le_of_eq (Nat.zero_add _)) (Nat.le_of_eq (Nat.zero_add _)) ?_
        exact W.iret (v := nI 1) hx hb hr (fun U9 ht9 hW9 => ⟨⟨_, (ws, x), rfl, ⟨by rw [← hk9]; rfl, by rw [← hk9]; decide, fun e9 => absurd (hk9.trans e9) (by decide), hcx (fun e9 => absurd (hk9.trans e9) (by decide))⟩, by show va_P D vwCl ws U9.heap ∧ va_at D vwCl (oa, oE cJ x) U9.heap; rw [ht9]; exact ⟨hB3, ho1⟩⟩, hS1.F ht9⟩) hS1.2.2 dL_winner_14 hlocks
  · obtain ⟨ek, hrv, hc2⟩ := hu
    replace hB : va_P D vwCl u U8.heap := hB
    rw [ht] at hB
    have ho1 := va_at_keep ho (hk1 oa hoL hno)
    have hD2 : va_D A u := by
      obtain ⟨_, _, _, _, _, _, _, q⟩ := hc2
      exact q
    have hP2 : va_P D vwCl (u ++ [(oa, oE cJ x)]) H1 := va_P_app hB (va_P_one ho1)
    refine lv_i2l (v := Int32.toInt64 r) hx hb dL_winner_7 rfl ?_
    refine va_last hx hb hKJ hP2 (va_D_out hD2 hno) hS1 u.length 0 (by rw [List.getElem?_append_right (Nat.le_refl _), Nat.sub_self]; rfl) rfl (vp_in_nI (by decide) (by decide)) dL_winner_8 (fun H2 locs2 hP3 hD3 hS2 => ?_)
    rw [set_out] at hP3
    refine lv_goto (tgt := 15) hx hb dL_winner_9 (by decide) ?_
    refine lv_iconst (v := nI 0) hx hb dL_winner_15 (by decide) ?_
    refine W.widen (k := 1) (n := 6) (Nat.le_of_eq (Nat.zero_add _)) (Nat.le_of_eq (Nat.zero_add _)) ?_
    exact W.iret (v := nI 0) hx hb hr (fun U9 ht9 hW9 => ⟨⟨_, (u, Int32.toInt64 (r)), rfl, ⟨by rw [ek], by rw [ek]; decide, fun _ => by first | rfl | rw [hrv], hc2⟩, by show va_P D vwCl u U9.heap ∧ va_at D vwCl (oa, oE cJ (Int32.toInt64 (r))) U9.heap; rw [ht9]; exact ⟨va_P_l hP3, out_at (va_P_r hP3 0 _ rfl)⟩⟩, hS2.F ht9⟩) hS2.2.2 dL_winner_16 hlocks
set_option maxHeartbeats 4000000 in
set_option maxRecDepth 100000 in
theorem cL9_isVoid (l : Launch) (hst : l.stackTraces = false) (D : va_G) (cI cO cb : ClassId) (eA mi : Nat) (st : Nat → Nat) (dO dT : Nat) (vF : Value) {A : Nat → Prop} (ws : va_W) {h : Nat} {M : MS} (hc : cSt cI cO eA st A h M ws) (hM : MI M) (hs : sInj st) (cJ : ClassId) (oa : Nat) (x : Int64) (hno : ¬ A oa) (i : Int32) : Met l yL_isVoid wsL_isVoid ({ frames := 8, cells := 1, slots := 6, locals := 123 }) (va_Pc [.ref h, .int i, .ref oa] (lB D cI cO cb eA mi st dO dT vF A ws cJ oa x)) (va_Qi (fun (ri : Int32) (u : va_W × Int64) => ri = nI (k_aw M i) ∧ k_aw M i ≤ 3 ∧ (k_aw M i = 0 → u.2 = Int32.toInt64 (bi (r_isVoid M i))) ∧ cSt cI cO eA st A h (M) u.1) (fun u U9 => va_P D vwCl u.1 U9.heap ∧ va_at D vwCl (oa, oE cJ u.2) U9.heap) (fun q => A q ∨ q = oa)) 1 6 (fun q => A q ∨ q = oa) := by
  have hcx : k_aw M i ≠ 0 → cSt cI cO eA st A h (M) ws := fun _ => hc
  obtain ⟨k9, hk9, hk9S, hMet⟩ := cq_isVoid l hst D cI cO cb eA mi st ws hc hM hs i
  obtain ⟨own9, kd, F, L, hC, hW, ⟨tn, lo, aw, co, ct, ow, G⟩, hD⟩ := hc
  have hm_1 : (h, .inr (9, [.ref (F 0 h), .ref (F 1 h), .ref (F 2 h), .ref (F 3 h), .ref (F 4 h), .int (nI (F 5 h))])) ∈ ws := hC.at G.1.1 (by decide) (by decide)
  refine met_ofWH (cc := cL_isVoid) (maxL := 4) (ret := (some .int)) (hh := [(0, 16, 19, 21)]) (by decide) rfl ?_
  intro p e s m args below meth c s₁ B hml htab hv
  obtain ⟨rfl, ⟨hP, hK, ⟨hG, hGT⟩, hA⟩, hKJ, ho, hoL, hn1, hn2, hn3⟩ := hv
  have hx := B.exec
  have hb := B.bytes
  have hr := B.returns
  have hts := atoms_spec (ws := wsL_isVoid) B.pre
  have hown : s.vm.findClass RL = some m.cls := findClass_of_methodNamed B.named
  have hlocks := B.notSynchronized
  have hS : va_S (fun q => A q ∨ q = oa) s.heap s.heap [] := va_S.rf
  have hSA : va_S A s.heap s.heap [] := va_S.rf
  have hl := lv_entry ([.ref h, .int i, .ref oa]) (n := 4) (Nat.le_of_ble_eq_true rfl)
  rw [lg_entry_eq]
  generalize (lg_sl ([.ref h, .int i, .ref oa]) ++ List.replicate (4 - (lg_sl ([.ref h, .int i, .ref oa])).length) Slot.unset).toArray = ls at hl ⊢
  have hl : lv_has ls 4 [(0, .ref h), (1, .int i), (2, .ref oa)] := hl
  refine lv_aload_n hx hb dL_isVoid_0 rfl (lv_at hl 2 rfl) ?_
  refine lv_iconst (v := nI 0) hx hb dL_isVoid_1 (by decide) ?_
  refine lv_aload_n hx hb dL_isVoid_2 rfl (lv_at hl 0 rfl) ?_
  refine lv_iload_n hx hb dL_isVoid_3 rfl (lv_at hl 1 rfl) ?_
  refine vx_calli (vx_runV (As := [.int i]) (rest := [.int (nI 0), .ref oa]) ⟨hx, hb, hml, hown, hts⟩ hMet (cwV 1 hts gL_isVoid_X8_isVoid rfl rfl rfl kd_X8_isVoid ⟨Nat.le_of_ble_eq_true rfl, Nat.le_of_ble_eq_true rfl⟩) ⟨cB_blind, c_recv hK hP rfl hm_1, cB_pre hK hG hA hSA hP _⟩ rfl rfl hl.1 rfl (lv_room (Nat.le_of_ble_eq_true rfl)) dL_isVoid_4 ⟨Nat.le_of_eq (Nat.zero_add _), Nat.le_of_eq (Nat.zero_add _)⟩) hS (fun _ _ h => Or.inl h) (fun _ h => Or.inl h) (fun _ _ h => Or.inl h) (fun E9 ce9 q9 u9 U8 H1 locs1 ht hvm hu hB hz1 hk1 hS1 hc1 hc2 hc3 => ?_) (fun r u U8 H1 locs1 ht hvm hu hB hz1 hk1 hS1 => ?_)
  · obtain ⟨hB1, hB2, hB3⟩ := hB
    rw [ht] at hB3
    have ho1 := va_at_keep ho (hk1 oa hoL hno)
    simp only [List.mem_cons, List.not_mem_nil, or_false] at hk9S
    rcases hk9S with rfl | rfl
    · exact absurd rfl hB2
    · obtain rfl : E9 = "java/lang/IndexOutOfBoundsException" := hB1.trans rfl
      refine vx_catch (own := RL) (name := "java/lang/IndexOutOfBoundsException") hown [] ⟨0, 16, 19, 21⟩ [] htab (fun z hz => ?_) (by decide) (by decide) (hts (.classLink RL 21 "java/lang/IndexOutOfBoundsException") (List.mem_of_getElem? (i := 1) rfl)) (hG.2.2.2.2.2.2.1.1 ("java/lang/IndexOutOfBoundsException", "java/lang/IndexOutOfBoundsException") (by decide)) hc1 hc2 hc3 ?_
      · cases hz
      · refine lv_astore_n (lv' := [(3, .ref q9), (0, .ref h), (1, .int i), (2, .ref oa)]) hx hb dL_isVoid_19 rfl hl (by decide) rfl (fun ls hl => ?_)
        refine lv_iconst (v := nI 1) hx hb dL_isVoid_20 (by decide) ?_
        refine W.widen (k := 1) (n := 6) (Nat.le_of_eq (Nat.zero_add _)) (Nat.le_of_eq (Nat.zero_add _)) ?_
        exact W.iret (v := nI 1) hx hb hr (fun U9 ht9 hW9 => ⟨⟨_, (ws, x), rfl, ⟨by rw [← hk9]; rfl, by rw [← hk9]; decide, fun e9 => absurd (hk9.trans e9) (by decide), hcx (fun e9 => absurd (hk9.trans e9) (by decide))⟩, by show va_P D vwCl ws U9.heap ∧ va_at D vwCl (oa, oE cJ x) U9.heap; rw [ht9]; exact ⟨hB3, ho1⟩⟩, hS1.F ht9⟩) hS1.2.2 dL_isVoid_21 hlocks
  · obtain ⟨ek, hrv, hc2⟩ := hu
    replace hB : va_P D vwCl u U8.heap := hB
    rw [ht] at hB
    have ho1 := va_at_keep ho (hk1 oa hoL hno)
    have hD2 : va_D A u := by
      obtain ⟨_, _, _, _, _, _, _, q⟩ := hc2
      exact q
    have hP2 : va_P D vwCl (u ++ [(oa, oE cJ x)]) H1 := va_P_app hB (va_P_one ho1)
    subst hrv
    refine b_if_eq (tgt := 14) hx hb dL_isVoid_7 (by decide) (fun c9 => ?_) (fun c9 => ?_)
    · refine lv_lconst (v := Int32.toInt64 (bi (r_isVoid M i))) hx hb dL_isVoid_14 (by rw [c9]; first | rfl | decide) ?_
      refine va_last hx hb hKJ hP2 (va_D_out hD2 hno) hS1 u.length 0 (by rw [List.getElem?_append_right (Nat.le_refl _), Nat.sub_self]; rfl) rfl (vp_in_nI (by decide) (by decide)) dL_isVoid_15 (fun H2 locs2 hP3 hD3 hS2 => ?_)
      rw [set_out] at hP3
      refine lv_goto (tgt := 22) hx hb dL_isVoid_16 (by decide) ?_
      refine lv_iconst (v := nI 0) hx hb dL_isVoid_22 (by decide) ?_
      refine W.widen (k := 1) (n := 6) (Nat.le_of_eq (Nat.zero_add _)) (Nat.le_of_eq (Nat.zero_add _)) ?_
      exact W.iret (v := nI 0) hx hb hr (fun U9 ht9 hW9 => ⟨⟨_, (u, Int32.toInt64 (bi (r_isVoid M i))), rfl, ⟨by rw [ek], by rw [ek]; decide, fun _ => by first | rfl | rw [hrv], hc2⟩, by show va_P D vwCl u U9.heap ∧ va_at D vwCl (oa, oE cJ (Int32.toInt64 (bi (r_isVoid M i)))) U9.heap; rw [ht9]; exact ⟨va_P_l hP3, out_at (va_P_r hP3 0 _ rfl)⟩⟩, hS2.F ht9⟩) hS2.2.2 dL_isVoid_23 hlocks
    · refine lv_lconst (v := Int32.toInt64 (bi (r_isVoid M i))) hx hb dL_isVoid_10 (by rw [c9]; first | rfl | decide) ?_
      refine lv_goto (tgt := 15) hx hb dL_isVoid_11 (by decide) ?_
      refine va_last hx hb hKJ hP2 (va_D_out hD2 hno) hS1 u.length 0 (by rw [List.getElem?_append_right (Nat.le_refl _), Nat.sub_self]; rfl) rfl (vp_in_nI (by decide) (by decide)) dL_isVoid_15 (fun H2 locs2 hP3 hD3 hS2 => ?_)
      rw [set_out] at hP3
      refine lv_goto (tgt := 22) hx hb dL_isVoid_16 (by decide) ?_
      refine lv_iconst (v := nI 0) hx hb dL_isVoid_22 (by decide) ?_
      refine W.widen (k := 1) (n := 6) (Nat.le_of_eq (Nat.zero_add _)) (Nat.le_of_eq (Nat.zero_add _)) ?_
      exact W.iret (v := nI 0) hx hb hr (fun U9 ht9 hW9 => ⟨⟨_, (u, Int32.toInt64 (bi (r_isVoid M i))), rfl, ⟨by rw [ek], by rw [ek]; decide, fun _ => by first | rfl | rw [hrv], hc2⟩, by show va_P D vwCl u U9.heap ∧ va_at D vwCl (oa, oE cJ (Int32.toInt64 (bi (r_isVoid M i)))) U9.heap; rw [ht9]; exact ⟨va_P_l hP3, out_at (va_P_r hP3 0 _ rfl)⟩⟩, hS2.F ht9⟩) hS2.2.2 dL_isVoid_23 hlocks
set_option maxHeartbeats 4000000 in
set_option maxRecDepth 100000 in
theorem cL9_isFinal (l : Launch) (hst : l.stackTraces = false) (D : va_G) (cI cO cb : ClassId) (eA mi : Nat) (st : Nat → Nat) (dO dT : Nat) (vF : Value) {A : Nat → Prop} (ws : va_W) {h : Nat} {M : MS} (hc : cSt cI cO eA st A h M ws) (hM : MI M) (hs : sInj st) (cJ : ClassId) (oa : Nat) (x : Int64) (hno : ¬ A oa) (i : Int32) : Met l yL_isFinal wsL_isFinal ({ frames := 8, cells := 1, slots := 6, locals := 130 }) (va_Pc [.ref h, .int i, .ref oa] (lB D cI cO cb eA mi st dO dT vF A ws cJ oa x)) (va_Qi (fun (ri : Int32) (u : va_W × Int64) => ri = nI (k_aw M i) ∧ k_aw M i ≤ 3 ∧ (k_aw M i = 0 → u.2 = Int32.toInt64 (bi (r_isFinal M i))) ∧ cSt cI cO eA st A h (M) u.1) (fun u U9 => va_P D vwCl u.1 U9.heap ∧ va_at D vwCl (oa, oE cJ u.2) U9.heap) (fun q => A q ∨ q = oa)) 1 6 (fun q => A q ∨ q = oa) := by
  have hcx : k_aw M i ≠ 0 → cSt cI cO eA st A h (M) ws := fun _ => hc
  obtain ⟨k9, hk9, hk9S, hMet⟩ := cq_isFinal l hst D cI cO cb eA mi st ws hc hM hs i
  obtain ⟨own9, kd, F, L, hC, hW, ⟨tn, lo, aw, co, ct, ow, G⟩, hD⟩ := hc
  have hm_1 : (h, .inr (9, [.ref (F 0 h), .ref (F 1 h), .ref (F 2 h), .ref (F 3 h), .ref (F 4 h), .int (nI (F 5 h))])) ∈ ws := hC.at G.1.1 (by decide) (by decide)
  refine met_ofWH (cc := cL_isFinal) (maxL := 4) (ret := (some .int)) (hh := [(0, 16, 19, 21)]) (by decide) rfl ?_
  intro p e s m args below meth c s₁ B hml htab hv
  obtain ⟨rfl, ⟨hP, hK, ⟨hG, hGT⟩, hA⟩, hKJ, ho, hoL, hn1, hn2, hn3⟩ := hv
  have hx := B.exec
  have hb := B.bytes
  have hr := B.returns
  have hts := atoms_spec (ws := wsL_isFinal) B.pre
  have hown : s.vm.findClass RL = some m.cls := findClass_of_methodNamed B.named
  have hlocks := B.notSynchronized
  have hS : va_S (fun q => A q ∨ q = oa) s.heap s.heap [] := va_S.rf
  have hSA : va_S A s.heap s.heap [] := va_S.rf
  have hl := lv_entry ([.ref h, .int i, .ref oa]) (n := 4) (Nat.le_of_ble_eq_true rfl)
  rw [lg_entry_eq]
  generalize (lg_sl ([.ref h, .int i, .ref oa]) ++ List.replicate (4 - (lg_sl ([.ref h, .int i, .ref oa])).length) Slot.unset).toArray = ls at hl ⊢
  have hl : lv_has ls 4 [(0, .ref h), (1, .int i), (2, .ref oa)] := hl
  refine lv_aload_n hx hb dL_isFinal_0 rfl (lv_at hl 2 rfl) ?_
  refine lv_iconst (v := nI 0) hx hb dL_isFinal_1 (by decide) ?_
  refine lv_aload_n hx hb dL_isFinal_2 rfl (lv_at hl 0 rfl) ?_
  refine lv_iload_n hx hb dL_isFinal_3 rfl (lv_at hl 1 rfl) ?_
  refine vx_calli (vx_runV (As := [.int i]) (rest := [.int (nI 0), .ref oa]) ⟨hx, hb, hml, hown, hts⟩ hMet (cwV 1 hts gL_isFinal_X8_isFinal rfl rfl rfl kd_X8_isFinal ⟨Nat.le_of_ble_eq_true rfl, Nat.le_of_ble_eq_true rfl⟩) ⟨cB_blind, c_recv hK hP rfl hm_1, cB_pre hK hG hA hSA hP _⟩ rfl rfl hl.1 rfl (lv_room (Nat.le_of_ble_eq_true rfl)) dL_isFinal_4 ⟨Nat.le_of_eq (Nat.zero_add _), Nat.le_of_eq (Nat.zero_add _)⟩) hS (fun _ _ h => Or.inl h) (fun _ h => Or.inl h) (fun _ _ h => Or.inl h) (fun E9 ce9 q9 u9 U8 H1 locs1 ht hvm hu hB hz1 hk1 hS1 hc1 hc2 hc3 => ?_) (fun r u U8 H1 locs1 ht hvm hu hB hz1 hk1 hS1 => ?_)
  · obtain ⟨hB1, hB2, hB3⟩ := hB
    rw [ht] at hB3
    have ho1 := va_at_keep ho (hk1 oa hoL hno)
    simp only [List.mem_cons, List.not_mem_nil, or_false] at hk9S
    rcases hk9S with rfl | rfl
    · exact absurd rfl hB2
    · obtain rfl : E9 = "java/lang/IndexOutOfBoundsException" := hB1.trans rfl
      refine vx_catch (own := RL) (name := "java/lang/IndexOutOfBoundsException") hown [] ⟨0, 16, 19, 21⟩ [] htab (fun z hz => ?_) (by decide) (by decide) (hts (.classLink RL 21 "java/lang/IndexOutOfBoundsException") (List.mem_of_getElem? (i := 1) rfl)) (hG.2.2.2.2.2.2.1.1 ("java/lang/IndexOutOfBoundsException", "java/lang/IndexOutOfBoundsException") (by decide)) hc1 hc2 hc3 ?_
      · cases hz
      · refine lv_astore_n (lv' := [(3, .ref q9), (0, .ref h), (1, .int i), (2, .ref oa)]) hx hb dL_isFinal_19 rfl hl (by decide) rfl (fun ls hl => ?_)
        refine lv_iconst (v := nI 1) hx hb dL_isFinal_20 (by decide) ?_
        refine W.widen (k := 1) (n := 6) (Nat.le_of_eq (Nat.zero_add _)) (Nat.le_of_eq (Nat.zero_add _)) ?_
        exact W.iret (v := nI 1) hx hb hr (fun U9 ht9 hW9 => ⟨⟨_, (ws, x), rfl, ⟨by rw [← hk9]; rfl, by rw [← hk9]; decide, fun e9 => absurd (hk9.trans e9) (by decide), hcx (fun e9 => absurd (hk9.trans e9) (by decide))⟩, by show va_P D vwCl ws U9.heap ∧ va_at D vwCl (oa, oE cJ x) U9.heap; rw [ht9]; exact ⟨hB3, ho1⟩⟩, hS1.F ht9⟩) hS1.2.2 dL_isFinal_21 hlocks
  · obtain ⟨ek, hrv, hc2⟩ := hu
    replace hB : va_P D vwCl u U8.heap := hB
    rw [ht] at hB
    have ho1 := va_at_keep ho (hk1 oa hoL hno)
    have hD2 : va_D A u := by
      obtain ⟨_, _, _, _, _, _, _, q⟩ := hc2
      exact q
    have hP2 : va_P D vwCl (u ++ [(oa, oE cJ x)]) H1 := va_P_app hB (va_P_one ho1)
    subst hrv
    refine b_if_eq (tgt := 14) hx hb dL_isFinal_7 (by decide) (fun c9 => ?_) (fun c9 => ?_)
    · refine lv_lconst (v := Int32.toInt64 (bi (r_isFinal M i))) hx hb dL_isFinal_14 (by rw [c9]; first | rfl | decide) ?_
      refine va_last hx hb hKJ hP2 (va_D_out hD2 hno) hS1 u.length 0 (by rw [List.getElem?_append_right (Nat.le_refl _), Nat.sub_self]; rfl) rfl (vp_in_nI (by decide) (by decide)) dL_isFinal_15 (fun H2 locs2 hP3 hD3 hS2 => ?_)
      rw [set_out] at hP3
      refine lv_goto (tgt := 22) hx hb dL_isFinal_16 (by decide) ?_
      refine lv_iconst (v := nI 0) hx hb dL_isFinal_22 (by decide) ?_
      refine W.widen (k := 1) (n := 6) (Nat.le_of_eq (Nat.zero_add _)) (Nat.le_of_eq (Nat.zero_add _)) ?_
      exact W.iret (v := nI 0) hx hb hr (fun U9 ht9 hW9 => ⟨⟨_, (u, Int32.toInt64 (bi (r_isFinal M i))), rfl, ⟨by rw [ek], by rw [ek]; decide, fun _ => by first | rfl | rw [hrv], hc2⟩, by show va_P D vwCl u U9.heap ∧ va_at D vwCl (oa, oE cJ (Int32.toInt64 (bi (r_isFinal M i)))) U9.heap; rw [ht9]; exact ⟨va_P_l hP3, out_at (va_P_r hP3 0 _ rfl)⟩⟩, hS2.F ht9⟩) hS2.2.2 dL_isFinal_23 hlocks
    · refine lv_lconst (v := Int32.toInt64 (bi (r_isFinal M i))) hx hb dL_isFinal_10 (by rw [c9]; first | rfl | decide) ?_
      refine lv_goto (tgt := 15) hx hb dL_isFinal_11 (by decide) ?_
      refine va_last hx hb hKJ hP2 (va_D_out hD2 hno) hS1 u.length 0 (by rw [List.getElem?_append_right (Nat.le_refl _), Nat.sub_self]; rfl) rfl (vp_in_nI (by decide) (by decide)) dL_isFinal_15 (fun H2 locs2 hP3 hD3 hS2 => ?_)
      rw [set_out] at hP3
      refine lv_goto (tgt := 22) hx hb dL_isFinal_16 (by decide) ?_
      refine lv_iconst (v := nI 0) hx hb dL_isFinal_22 (by decide) ?_
      refine W.widen (k := 1) (n := 6) (Nat.le_of_eq (Nat.zero_add _)) (Nat.le_of_eq (Nat.zero_add _)) ?_
      exact W.iret (v := nI 0) hx hb hr (fun U9 ht9 hW9 => ⟨⟨_, (u, Int32.toInt64 (bi (r_isFinal M i))), rfl, ⟨by rw [ek], by rw [ek]; decide, fun _ => by first | rfl | rw [hrv], hc2⟩, by show va_P D vwCl u U9.heap ∧ va_at D vwCl (oa, oE cJ (Int32.toInt64 (bi (r_isFinal M i)))) U9.heap; rw [ht9]; exact ⟨va_P_l hP3, out_at (va_P_r hP3 0 _ rfl)⟩⟩, hS2.F ht9⟩) hS2.2.2 dL_isFinal_23 hlocks
set_option maxHeartbeats 4000000 in
set_option maxRecDepth 100000 in
theorem cL9_winnerAnew (l : Launch) (hst : l.stackTraces = false) (D : va_G) (cI cO cb : ClassId) (eA mi : Nat) (st : Nat → Nat) (dO dT : Nat) (vF : Value) {A : Nat → Prop} (ws : va_W) {h : Nat} {M : MS} (hc : cSt cI cO eA st A h M ws) (hM : MI M) (hs : sInj st) (cJ : ClassId) (oa : Nat) (x : Int64) (hno : ¬ A oa) (t : Int32) (k : Int32) : Met l yL_winnerAnew wsL_winnerAnew ({ frames := 9, cells := 21, slots := 839, locals := 236 }) (va_Pc [.ref h, .int t, .int k, .ref oa] (lB D cI cO cb eA mi st dO dT vF A ws cJ oa x)) (va_Qi (fun (ri : Int32) (u : va_W × Int64) => ri = nI (k_lot M t k) ∧ k_lot M t k ≤ 3 ∧ (k_lot M t k = 0 → u.2 = Int32.toInt64 (r_winnerAnew M t k)) ∧ cSt cI cO eA st A h (M) u.1) (fun u U9 => va_P D vwCl u.1 U9.heap ∧ va_at D vwCl (oa, oE cJ u.2) U9.heap) (fun q => A q ∨ q = oa)) 21 839 (fun q => A q ∨ q = oa) := by
  have hcx : k_lot M t k ≠ 0 → cSt cI cO eA st A h (M) ws := fun _ => hc
  obtain ⟨k9, hk9, hk9S, hMet⟩ := cq_winnerAnew l hst D cI cO cb eA mi st ws hc hM hs t k
  obtain ⟨own9, kd, F, L, hC, hW, ⟨tn, lo, aw, co, ct, ow, G⟩, hD⟩ := hc
  have hm_1 : (h, .inr (9, [.ref (F 0 h), .ref (F 1 h), .ref (F 2 h), .ref (F 3 h), .ref (F 4 h), .int (nI (F 5 h))])) ∈ ws := hC.at G.1.1 (by decide) (by decide)
  refine met_ofWH (cc := cL_winnerAnew) (maxL := 5) (ret := (some .int)) (hh := [(0, 10, 13, 21)]) (by decide) rfl ?_
  intro p e s m args below meth c s₁ B hml htab hv
  obtain ⟨rfl, ⟨hP, hK, ⟨hG, hGT⟩, hA⟩, hKJ, ho, hoL, hn1, hn2, hn3⟩ := hv
  have hx := B.exec
  have hb := B.bytes
  have hr := B.returns
  have hts := atoms_spec (ws := wsL_winnerAnew) B.pre
  have hown : s.vm.findClass RL = some m.cls := findClass_of_methodNamed B.named
  have hlocks := B.notSynchronized
  have hS : va_S (fun q => A q ∨ q = oa) s.heap s.heap [] := va_S.rf
  have hSA : va_S A s.heap s.heap [] := va_S.rf
  have hl := lv_entry ([.ref h, .int t, .int k, .ref oa]) (n := 5) (Nat.le_of_ble_eq_true rfl)
  rw [lg_entry_eq]
  generalize (lg_sl ([.ref h, .int t, .int k, .ref oa]) ++ List.replicate (5 - (lg_sl ([.ref h, .int t, .int k, .ref oa])).length) Slot.unset).toArray = ls at hl ⊢
  have hl : lv_has ls 5 [(0, .ref h), (1, .int t), (2, .int k), (3, .ref oa)] := hl
  refine lv_aload_n hx hb dL_winnerAnew_0 rfl (lv_at hl 3 rfl) ?_
  refine lv_iconst (v := nI 0) hx hb dL_winnerAnew_1 (by decide) ?_
  refine lv_aload_n hx hb dL_winnerAnew_2 rfl (lv_at hl 0 rfl) ?_
  refine lv_iload_n hx hb dL_winnerAnew_3 rfl (lv_at hl 1 rfl) ?_
  refine lv_iload_n hx hb dL_winnerAnew_4 rfl (lv_at hl 2 rfl) ?_
  refine vx_calli (vx_runV (As := [.int t, .int k]) (rest := [.int (nI 0), .ref oa]) ⟨hx, hb, hml, hown, hts⟩ hMet (cwV 2 hts gL_winnerAnew_X8_winnerAnew rfl rfl rfl kd_X8_winnerAnew ⟨Nat.le_of_ble_eq_true rfl, Nat.le_of_ble_eq_true rfl⟩) ⟨cB_blind, c_recv hK hP rfl hm_1, cB_pre hK hG hA hSA hP _⟩ rfl rfl hl.1 rfl (lv_room (Nat.le_of_ble_eq_true rfl)) dL_winnerAnew_5 ⟨Nat.le_of_eq (Nat.zero_add _), Nat.le_of_eq (Nat.zero_add _)⟩) hS (fun _ _ h => Or.inl h) (fun _ h => Or.inl h) (fun _ _ h => Or.inl h) (fun E9 ce9 q9 u9 U8 H1 locs1 ht hvm hu hB hz1 hk1 hS1 hc1 hc2 hc3 => ?_) (fun r u U8 H1 locs1 ht hvm hu hB hz1 hk1 hS1 => ?_)
  · obtain ⟨hB1, hB2, hB3⟩ := hB
    rw [ht] at hB3
    have ho1 := va_at_keep ho (hk1 oa hoL hno)
    simp only [List.mem_cons, List.not_mem_nil, or_false] at hk9S
    rcases hk9S with rfl | rfl
    · exact absurd rfl hB2
    · obtain rfl : E9 = "java/lang/IndexOutOfBoundsException" := hB1.trans rfl
      refine vx_catch (own := RL) (name := "java/lang/IndexOutOfBoundsException") hown [] ⟨0, 10, 13, 21⟩ [] htab (fun z hz => ?_) (by decide) (by decide) (hts (.classLink RL 21 "java/lang/IndexOutOfBoundsException") (List.mem_of_getElem? (i := 1) rfl)) (hG.2.2.2.2.2.2.1.1 ("java/lang/IndexOutOfBoundsException", "java/lang/IndexOutOfBoundsException") (by decide)) hc1 hc2 hc3 ?_
      · cases hz
      · refine lv_astore (lv' := [(4, .ref q9), (0, .ref h), (1, .int t), (2, .int k), (3, .ref oa)]) hx hb dL_winnerAnew_13 hl (by decide) rfl (fun ls hl => ?_)
        refine lv_iconst (v := nI 1) hx hb dL_winnerAnew_15 (by decide) ?_
        refine W.widen (k := 21) (n := 839) (Nat.le_of_eq (Nat.zero_add _)) (Nat.le_of_eq (Nat.zero_add _)) ?_
        exact W.iret (v := nI 1) hx hb hr (fun U9 ht9 hW9 => ⟨⟨_, (ws, x), rfl, ⟨by rw [← hk9]; rfl, by rw [← hk9]; decide, fun e9 => absurd (hk9.trans e9) (by decide), hcx (fun e9 => absurd (hk9.trans e9) (by decide))⟩, by show va_P D vwCl ws U9.heap ∧ va_at D vwCl (oa, oE cJ x) U9.heap; rw [ht9]; exact ⟨hB3, ho1⟩⟩, hS1.F ht9⟩) hS1.2.2 dL_winnerAnew_16 hlocks
  · obtain ⟨ek, hrv, hc2⟩ := hu
    replace hB : va_P D vwCl u U8.heap := hB
    rw [ht] at hB
    have ho1 := va_at_keep ho (hk1 oa hoL hno)
    have hD2 : va_D A u := by
      obtain ⟨_, _, _, _, _, _, _, q⟩ := hc2
      exact q
    have hP2 : va_P D vwCl (u ++ [(oa, oE cJ x)]) H1 := va_P_app hB (va_P_one ho1)
    refine lv_i2l (v := Int32.toInt64 r) hx hb dL_winnerAnew_8 rfl ?_
    refine va_last hx hb hKJ hP2 (va_D_out hD2 hno) hS1 u.length 0 (by rw [List.getElem?_append_right (Nat.le_refl _), Nat.sub_self]; rfl) rfl (vp_in_nI (by decide) (by decide)) dL_winnerAnew_9 (fun H2 locs2 hP3 hD3 hS2 => ?_)
    rw [set_out] at hP3
    refine lv_goto (tgt := 17) hx hb dL_winnerAnew_10 (by decide) ?_
    refine lv_iconst (v := nI 0) hx hb dL_winnerAnew_17 (by decide) ?_
    refine W.widen (k := 21) (n := 839) (Nat.le_of_eq (Nat.zero_add _)) (Nat.le_of_eq (Nat.zero_add _)) ?_
    exact W.iret (v := nI 0) hx hb hr (fun U9 ht9 hW9 => ⟨⟨_, (u, Int32.toInt64 (r)), rfl, ⟨by rw [ek], by rw [ek]; decide, fun _ => by first | rfl | rw [hrv], hc2⟩, by show va_P D vwCl u U9.heap ∧ va_at D vwCl (oa, oE cJ (Int32.toInt64 (r))) U9.heap; rw [ht9]; exact ⟨va_P_l hP3, out_at (va_P_r hP3 0 _ rfl)⟩⟩, hS2.F ht9⟩) hS2.2.2 dL_winnerAnew_18 hlocks
set_option maxHeartbeats 4000000 in
set_option maxRecDepth 100000 in
theorem cL9_line (l : Launch) (hst : l.stackTraces = false) (D : va_G) (cI cO cb : ClassId) (eA mi : Nat) (st : Nat → Nat) (dO dT : Nat) (vF : Value) {A : Nat → Prop} (ws : va_W) {h : Nat} {M : MS} (hc : cSt cI cO eA st A h M ws) (hM : MI M) (hs : sInj st) (cJ : ClassId) (oa : Nat) (x : Int64) (hno : ¬ A oa) (i : Int32) : Met l yL_line wsL_line ({ frames := 8, cells := 3, slots := 26, locals := 152 }) (va_Pc [.ref h, .int i, .ref oa] (lB D cI cO cb eA mi st dO dT vF A ws cJ oa x)) (va_Qi (fun (ri : Int32) (u : va_W × Int64) => ri = nI (k_aw M i) ∧ k_aw M i ≤ 3 ∧ (k_aw M i = 0 → u.2 = Int32.toInt64 (r_line M i)) ∧ cSt cI cO eA st A h (g_line M i) u.1) (fun u U9 => va_P D vwCl u.1 U9.heap ∧ va_at D vwCl (oa, oE cJ u.2) U9.heap) (fun q => A q ∨ q = oa)) 3 26 (fun q => A q ∨ q = oa) := by
  have hcx : k_aw M i ≠ 0 → cSt cI cO eA st A h (g_line M i) ws := fun _ => by
    obtain ⟨o9, kd, F, L, a1, a2, ⟨t1, t2, t3, t4, t5, t6, G⟩, a4⟩ := hc
    exact ⟨o9, kd, F, L, a1, a2, ⟨_, _, _, _, _, _, G.ln a2 (g_line_nf M i)⟩, a4⟩
  obtain ⟨k9, hk9, hk9S, hMet⟩ := cq_line l hst D cI cO cb eA mi st dO dT vF ws hc hM hs i
  obtain ⟨own9, kd, F, L, hC, hW, ⟨tn, lo, aw, co, ct, ow, G⟩, hD⟩ := hc
  have hm_1 : (h, .inr (9, [.ref (F 0 h), .ref (F 1 h), .ref (F 2 h), .ref (F 3 h), .ref (F 4 h), .int (nI (F 5 h))])) ∈ ws := hC.at G.1.1 (by decide) (by decide)
  refine met_ofWH (cc := cL_line) (maxL := 4) (ret := (some .int)) (hh := [(0, 9, 12, 21)]) (by decide) rfl ?_
  intro p e s m args below meth c s₁ B hml htab hv
  obtain ⟨rfl, ⟨hP, hK, ⟨hG, hGT⟩, hA⟩, hKJ, ho, hoL, hn1, hn2, hn3⟩ := hv
  have hx := B.exec
  have hb := B.bytes
  have hr := B.returns
  have hts := atoms_spec (ws := wsL_line) B.pre
  have hown : s.vm.findClass RL = some m.cls := findClass_of_methodNamed B.named
  have hlocks := B.notSynchronized
  have hS : va_S (fun q => A q ∨ q = oa) s.heap s.heap [] := va_S.rf
  have hSA : va_S A s.heap s.heap [] := va_S.rf
  have hl := lv_entry ([.ref h, .int i, .ref oa]) (n := 4) (Nat.le_of_ble_eq_true rfl)
  rw [lg_entry_eq]
  generalize (lg_sl ([.ref h, .int i, .ref oa]) ++ List.replicate (4 - (lg_sl ([.ref h, .int i, .ref oa])).length) Slot.unset).toArray = ls at hl ⊢
  have hl : lv_has ls 4 [(0, .ref h), (1, .int i), (2, .ref oa)] := hl
  refine lv_aload_n hx hb dL_line_0 rfl (lv_at hl 2 rfl) ?_
  refine lv_iconst (v := nI 0) hx hb dL_line_1 (by decide) ?_
  refine lv_aload_n hx hb dL_line_2 rfl (lv_at hl 0 rfl) ?_
  refine lv_iload_n hx hb dL_line_3 rfl (lv_at hl 1 rfl) ?_
  refine vx_calli (vx_runV (As := [.int i]) (rest := [.int (nI 0), .ref oa]) ⟨hx, hb, hml, hown, hts⟩ hMet (cwV 1 hts gL_line_X8_line rfl rfl rfl kd_X8_line ⟨Nat.le_of_ble_eq_true rfl, Nat.le_of_ble_eq_true rfl⟩) ⟨cT_blind, c_recv hK hP rfl hm_1, cT_pre hK hG hGT hA hSA hP _⟩ rfl rfl hl.1 rfl (lv_room (Nat.le_of_ble_eq_true rfl)) dL_line_4 ⟨Nat.le_of_eq (Nat.zero_add _), Nat.le_of_eq (Nat.zero_add _)⟩) hS (fun _ _ h => Or.inl h) (fun _ h => Or.inl h) (fun _ _ h => Or.inl h) (fun E9 ce9 q9 u9 U8 H1 locs1 ht hvm hu hB hz1 hk1 hS1 hc1 hc2 hc3 => ?_) (fun r u U8 H1 locs1 ht hvm hu hB hz1 hk1 hS1 => ?_)
  · obtain ⟨hB1, hB2, hB3⟩ := hB
    rw [ht] at hB3
    have ho1 := va_at_keep ho (hk1 oa hoL hno)
    simp only [List.mem_cons, List.not_mem_nil, or_false] at hk9S
    rcases hk9S with rfl | rfl
    · exact absurd rfl hB2
    · obtain rfl : E9 = "java/lang/IndexOutOfBoundsException" := hB1.trans rfl
      refine vx_catch (own := RL) (name := "java/lang/IndexOutOfBoundsException") hown [] ⟨0, 9, 12, 21⟩ [] htab (fun z hz => ?_) (by decide) (by decide) (hts (.classLink RL 21 "java/lang/IndexOutOfBoundsException") (List.mem_of_getElem? (i := 1) rfl)) (hG.2.2.2.2.2.2.1.1 ("java/lang/IndexOutOfBoundsException", "java/lang/IndexOutOfBoundsException") (by decide)) hc1 hc2 hc3 ?_
      · cases hz
      · refine lv_astore_n (lv' := [(3, .ref q9), (0, .ref h), (1, .int i), (2, .ref oa)]) hx hb dL_line_12 rfl hl (by decide) rfl (fun ls hl => ?_)
        refine lv_iconst (v := nI 1) hx hb dL_line_13 (by decide) ?_
        refine W.widen (k := 3) (n := 26) (Nat.le_of_eq (Nat.zero_add _)) (Nat.le_of_eq (Nat.zero_add _)) ?_
        exact W.iret (v := nI 1) hx hb hr (fun U9 ht9 hW9 => ⟨⟨_, (ws, x), rfl, ⟨by rw [← hk9]; rfl, by rw [← hk9]; decide, fun e9 => absurd (hk9.trans e9) (by decide), hcx (fun e9 => absurd (hk9.trans e9) (by decide))⟩, by show va_P D vwCl ws U9.heap ∧ va_at D vwCl (oa, oE cJ x) U9.heap; rw [ht9]; exact ⟨hB3, ho1⟩⟩, hS1.F ht9⟩) hS1.2.2 dL_line_14 hlocks
  · obtain ⟨ek, hrv, hc2⟩ := hu
    replace hB : va_P D vwCl u U8.heap := hB
    rw [ht] at hB
    have ho1 := va_at_keep ho (hk1 oa hoL hno)
    have hD2 : va_D A u := by
      obtain ⟨_, _, _, _, _, _, _, q⟩ := hc2
      exact q
    have hP2 : va_P D vwCl (u ++ [(oa, oE cJ x)]) H1 := va_P_app hB (va_P_one ho1)
    refine lv_i2l (v := Int32.toInt64 r) hx hb dL_line_7 rfl ?_
    refine va_last hx hb hKJ hP2 (va_D_out hD2 hno) hS1 u.length 0 (by rw [List.getElem?_append_right (Nat.le_refl _), Nat.sub_self]; rfl) rfl (vp_in_nI (by decide) (by decide)) dL_line_8 (fun H2 locs2 hP3 hD3 hS2 => ?_)
    rw [set_out] at hP3
    refine lv_goto (tgt := 15) hx hb dL_line_9 (by decide) ?_
    refine lv_iconst (v := nI 0) hx hb dL_line_15 (by decide) ?_
    refine W.widen (k := 3) (n := 26) (Nat.le_of_eq (Nat.zero_add _)) (Nat.le_of_eq (Nat.zero_add _)) ?_
    exact W.iret (v := nI 0) hx hb hr (fun U9 ht9 hW9 => ⟨⟨_, (u, Int32.toInt64 (r)), rfl, ⟨by rw [ek], by rw [ek]; decide, fun _ => by first | rfl | rw [hrv], hc2⟩, by show va_P D vwCl u U9.heap ∧ va_at D vwCl (oa, oE cJ (Int32.toInt64 (r))) U9.heap; rw [ht9]; exact ⟨va_P_l hP3, out_at (va_P_r hP3 0 _ rfl)⟩⟩, hS2.F ht9⟩) hS2.2.2 dL_line_16 hlocks
set_option maxHeartbeats 4000000 in
set_option maxRecDepth 100000 in
theorem cL9_lineChar (l : Launch) (hst : l.stackTraces = false) (D : va_G) (cI cO cb : ClassId) (eA mi : Nat) (st : Nat → Nat) (dO dT : Nat) (vF : Value) {A : Nat → Prop} (ws : va_W) {h : Nat} {M : MS} (hc : cSt cI cO eA st A h M ws) (hM : MI M) (hs : sInj st) (cJ : ClassId) (oa : Nat) (x : Int64) (hno : ¬ A oa) (i : Int32) (pl : Int32) : Met l yL_lineChar wsL_lineChar ({ frames := 8, cells := 4, slots := 32, locals := 154 }) (va_Pc [.ref h, .int i, .int pl, .ref oa] (lB D cI cO cb eA mi st dO dT vF A ws cJ oa x)) (va_Qi (fun (ri : Int32) (u : va_W × Int64) => ri = nI (k_lineChar M i pl) ∧ k_lineChar M i pl ≤ 3 ∧ (k_lineChar M i pl = 0 → u.2 = Int32.toInt64 (r_lineChar M i pl)) ∧ cSt cI cO eA st A h (g_line M i) u.1) (fun u U9 => va_P D vwCl u.1 U9.heap ∧ va_at D vwCl (oa, oE cJ u.2) U9.heap) (fun q => A q ∨ q = oa)) 4 32 (fun q => A q ∨ q = oa) := by
  have hcx : k_lineChar M i pl ≠ 0 → cSt cI cO eA st A h (g_line M i) ws := fun _ => by
    obtain ⟨o9, kd, F, L, a1, a2, ⟨t1, t2, t3, t4, t5, t6, G⟩, a4⟩ := hc
    exact ⟨o9, kd, F, L, a1, a2, ⟨_, _, _, _, _, _, G.ln a2 (g_line_nf M i)⟩, a4⟩
  obtain ⟨k9, hk9, hk9S, hMet⟩ := cq_lineChar l hst D cI cO cb eA mi st dO dT vF ws hc hM hs i pl
  obtain ⟨own9, kd, F, L, hC, hW, ⟨tn, lo, aw, co, ct, ow, G⟩, hD⟩ := hc
  have hm_1 : (h, .inr (9, [.ref (F 0 h), .ref (F 1 h), .ref (F 2 h), .ref (F 3 h), .ref (F 4 h), .int (nI (F 5 h))])) ∈ ws := hC.at G.1.1 (by decide) (by decide)
  refine met_ofWH (cc := cL_lineChar) (maxL := 5) (ret := (some .int)) (hh := [(0, 10, 13, 21)]) (by decide) rfl ?_
  intro p e s m args below meth c s₁ B hml htab hv
  obtain ⟨rfl, ⟨hP, hK, ⟨hG, hGT⟩, hA⟩, hKJ, ho, hoL, hn1, hn2, hn3⟩ := hv
  have hx := B.exec
  have hb := B.bytes
  have hr := B.returns
  have hts := atoms_spec (ws := wsL_lineChar) B.pre
  have hown : s.vm.findClass RL = some m.cls := findClass_of_methodNamed B.named
  have hlocks := B.notSynchronized
  have hS : va_S (fun q => A q ∨ q = oa) s.heap s.heap [] := va_S.rf
  have hSA : va_S A s.heap s.heap [] := va_S.rf
  have hl := lv_entry ([.ref h, .int i, .int pl, .ref oa]) (n := 5) (Nat.le_of_ble_eq_true rfl)
  rw [lg_entry_eq]
  generalize (lg_sl ([.ref h, .int i, .int pl, .ref oa]) ++ List.replicate (5 - (lg_sl ([.ref h, .int i, .int pl, .ref oa])).length) Slot.unset).toArray = ls at hl ⊢
  have hl : lv_has ls 5 [(0, .ref h), (1, .int i), (2, .int pl), (3, .ref oa)] := hl
  refine lv_aload_n hx hb dL_lineChar_0 rfl (lv_at hl 3 rfl) ?_
  refine lv_iconst (v := nI 0) hx hb dL_lineChar_1 (by decide) ?_
  refine lv_aload_n hx hb dL_lineChar_2 rfl (lv_at hl 0 rfl) ?_
  refine lv_iload_n hx hb dL_lineChar_3 rfl (lv_at hl 1 rfl) ?_
  refine lv_iload_n hx hb dL_lineChar_4 rfl (lv_at hl 2 rfl) ?_
  refine vx_calli (vx_runV (As := [.int i, .int pl]) (rest := [.int (nI 0), .ref oa]) ⟨hx, hb, hml, hown, hts⟩ hMet (cwV 2 hts gL_lineChar_X8_lineChar rfl rfl rfl kd_X8_lineChar ⟨Nat.le_of_ble_eq_true rfl, Nat.le_of_ble_eq_true rfl⟩) ⟨cT_blind, c_recv hK hP rfl hm_1, cT_pre hK hG hGT hA hSA hP _⟩ rfl rfl hl.1 rfl (lv_room (Nat.le_of_ble_eq_true rfl)) dL_lineChar_5 ⟨Nat.le_of_eq (Nat.zero_add _), Nat.le_of_eq (Nat.zero_add _)⟩) hS (fun _ _ h => Or.inl h) (fun _ h => Or.inl h) (fun _ _ h => Or.inl h) (fun E9 ce9 q9 u9 U8 H1 locs1 ht hvm hu hB hz1 hk1 hS1 hc1 hc2 hc3 => ?_) (fun r u U8 H1 locs1 ht hvm hu hB hz1 hk1 hS1 => ?_)
  · obtain ⟨hB1, hB2, hB3⟩ := hB
    rw [ht] at hB3
    have ho1 := va_at_keep ho (hk1 oa hoL hno)
    simp only [List.mem_cons, List.not_mem_nil, or_false] at hk9S
    rcases hk9S with rfl | rfl
    · exact absurd rfl hB2
    · obtain rfl : E9 = "java/lang/IndexOutOfBoundsException" := hB1.trans rfl
      refine vx_catch (own := RL) (name := "java/lang/IndexOutOfBoundsException") hown [] ⟨0, 10, 13, 21⟩ [] htab (fun z hz => ?_) (by decide) (by decide) (hts (.classLink RL 21 "java/lang/IndexOutOfBoundsException") (List.mem_of_getElem? (i := 1) rfl)) (hG.2.2.2.2.2.2.1.1 ("java/lang/IndexOutOfBoundsException", "java/lang/IndexOutOfBoundsException") (by decide)) hc1 hc2 hc3 ?_
      · cases hz
      · refine lv_astore (lv' := [(4, .ref q9), (0, .ref h), (1, .int i), (2, .int pl), (3, .ref oa)]) hx hb dL_lineChar_13 hl (by decide) rfl (fun ls hl => ?_)
        refine lv_iconst (v := nI 1) hx hb dL_lineChar_15 (by decide) ?_
        refine W.widen (k := 4) (n := 32) (Nat.le_of_eq (Nat.zero_add _)) (Nat.le_of_eq (Nat.zero_add _)) ?_
        exact W.iret (v := nI 1) hx hb hr (fun U9 ht9 hW9 => ⟨⟨_, (ws, x), rfl, ⟨by rw [← hk9]; rfl, by rw [← hk9]; decide, fun e9 => absurd (hk9.trans e9) (by decide), hcx (fun e9 => absurd (hk9.trans e9) (by decide))⟩, by show va_P D vwCl ws U9.heap ∧ va_at D vwCl (oa, oE cJ x) U9.heap; rw [ht9]; exact ⟨hB3, ho1⟩⟩, hS1.F ht9⟩) hS1.2.2 dL_lineChar_16 hlocks
  · obtain ⟨ek, hrv, hc2⟩ := hu
    replace hB : va_P D vwCl u U8.heap := hB
    rw [ht] at hB
    have ho1 := va_at_keep ho (hk1 oa hoL hno)
    have hD2 : va_D A u := by
      obtain ⟨_, _, _, _, _, _, _, q⟩ := hc2
      exact q
    have hP2 : va_P D vwCl (u ++ [(oa, oE cJ x)]) H1 := va_P_app hB (va_P_one ho1)
    refine lv_i2l (v := Int32.toInt64 r) hx hb dL_lineChar_8 rfl ?_
    refine va_last hx hb hKJ hP2 (va_D_out hD2 hno) hS1 u.length 0 (by rw [List.getElem?_append_right (Nat.le_refl _), Nat.sub_self]; rfl) rfl (vp_in_nI (by decide) (by decide)) dL_lineChar_9 (fun H2 locs2 hP3 hD3 hS2 => ?_)
    rw [set_out] at hP3
    refine lv_goto (tgt := 17) hx hb dL_lineChar_10 (by decide) ?_
    refine lv_iconst (v := nI 0) hx hb dL_lineChar_17 (by decide) ?_
    refine W.widen (k := 4) (n := 32) (Nat.le_of_eq (Nat.zero_add _)) (Nat.le_of_eq (Nat.zero_add _)) ?_
    exact W.iret (v := nI 0) hx hb hr (fun U9 ht9 hW9 => ⟨⟨_, (u, Int32.toInt64 (r)), rfl, ⟨by rw [ek], by rw [ek]; decide, fun _ => by first | rfl | rw [hrv], hc2⟩, by show va_P D vwCl u U9.heap ∧ va_at D vwCl (oa, oE cJ (Int32.toInt64 (r))) U9.heap; rw [ht9]; exact ⟨va_P_l hP3, out_at (va_P_r hP3 0 _ rfl)⟩⟩, hS2.F ht9⟩) hS2.2.2 dL_lineChar_18 hlocks
set_option maxHeartbeats 4000000 in
set_option maxRecDepth 100000 in
theorem cL9_stateOf (l : Launch) (hst : l.stackTraces = false) (D : va_G) (cI cO cb : ClassId) (eA mi : Nat) (st : Nat → Nat) (dO dT : Nat) (vF : Value) {A : Nat → Prop} (ws : va_W) {h : Nat} {M : MS} (hc : cSt cI cO eA st A h M ws) (hM : MI M) (hs : sInj st) (cJ : ClassId) (oa : Nat) (x : Int64) (hno : ¬ A oa) (i : Int32) : Met l yL_stateOf wsL_stateOf ({ frames := 8, cells := 1, slots := 6, locals := 123 }) (va_Pc [.ref h, .int i, .ref oa] (lB D cI cO cb eA mi st dO dT vF A ws cJ oa x)) (va_Qi (fun (ri : Int32) (u : va_W × Int64) => ri = nI (k_co M i) ∧ k_co M i ≤ 3 ∧ (k_co M i = 0 → u.2 = Int32.toInt64 (r_stateOf M i)) ∧ cSt cI cO eA st A h (M) u.1) (fun u U9 => va_P D vwCl u.1 U9.heap ∧ va_at D vwCl (oa, oE cJ u.2) U9.heap) (fun q => A q ∨ q = oa)) 1 6 (fun q => A q ∨ q = oa) := by
  have hcx : k_co M i ≠ 0 → cSt cI cO eA st A h (M) ws := fun _ => hc
  obtain ⟨k9, hk9, hk9S, hMet⟩ := cq_stateOf l hst D cI cO cb eA mi st ws hc hM hs i
  obtain ⟨own9, kd, F, L, hC, hW, ⟨tn, lo, aw, co, ct, ow, G⟩, hD⟩ := hc
  have hm_1 : (h, .inr (9, [.ref (F 0 h), .ref (F 1 h), .ref (F 2 h), .ref (F 3 h), .ref (F 4 h), .int (nI (F 5 h))])) ∈ ws := hC.at G.1.1 (by decide) (by decide)
  refine met_ofWH (cc := cL_stateOf) (maxL := 4) (ret := (some .int)) (hh := [(0, 9, 12, 21)]) (by decide) rfl ?_
  intro p e s m args below meth c s₁ B hml htab hv
  obtain ⟨rfl, ⟨hP, hK, ⟨hG, hGT⟩, hA⟩, hKJ, ho, hoL, hn1, hn2, hn3⟩ := hv
  have hx := B.exec
  have hb := B.bytes
  have hr := B.returns
  have hts := atoms_spec (ws := wsL_stateOf) B.pre
  have hown : s.vm.findClass RL = some m.cls := findClass_of_methodNamed B.named
  have hlocks := B.notSynchronized
  have hS : va_S (fun q => A q ∨ q = oa) s.heap s.heap [] := va_S.rf
  have hSA : va_S A s.heap s.heap [] := va_S.rf
  have hl := lv_entry ([.ref h, .int i, .ref oa]) (n := 4) (Nat.le_of_ble_eq_true rfl)
  rw [lg_entry_eq]
  generalize (lg_sl ([.ref h, .int i, .ref oa]) ++ List.replicate (4 - (lg_sl ([.ref h, .int i, .ref oa])).length) Slot.unset).toArray = ls at hl ⊢
  have hl : lv_has ls 4 [(0, .ref h), (1, .int i), (2, .ref oa)] := hl
  refine lv_aload_n hx hb dL_stateOf_0 rfl (lv_at hl 2 rfl) ?_
  refine lv_iconst (v := nI 0) hx hb dL_stateOf_1 (by decide) ?_
  refine lv_aload_n hx hb dL_stateOf_2 rfl (lv_at hl 0 rfl) ?_
  refine lv_iload_n hx hb dL_stateOf_3 rfl (lv_at hl 1 rfl) ?_
  refine vx_calli (vx_runV (As := [.int i]) (rest := [.int (nI 0), .ref oa]) ⟨hx, hb, hml, hown, hts⟩ hMet (cwV 1 hts gL_stateOf_X8_stateOf rfl rfl rfl kd_X8_stateOf ⟨Nat.le_of_ble_eq_true rfl, Nat.le_of_ble_eq_true rfl⟩) ⟨cB_blind, c_recv hK hP rfl hm_1, cB_pre hK hG hA hSA hP _⟩ rfl rfl hl.1 rfl (lv_room (Nat.le_of_ble_eq_true rfl)) dL_stateOf_4 ⟨Nat.le_of_eq (Nat.zero_add _), Nat.le_of_eq (Nat.zero_add _)⟩) hS (fun _ _ h => Or.inl h) (fun _ h => Or.inl h) (fun _ _ h => Or.inl h) (fun E9 ce9 q9 u9 U8 H1 locs1 ht hvm hu hB hz1 hk1 hS1 hc1 hc2 hc3 => ?_) (fun r u U8 H1 locs1 ht hvm hu hB hz1 hk1 hS1 => ?_)
  · obtain ⟨hB1, hB2, hB3⟩ := hB
    rw [ht] at hB3
    have ho1 := va_at_keep ho (hk1 oa hoL hno)
    simp only [List.mem_cons, List.not_mem_nil, or_false] at hk9S
    rcases hk9S with rfl | rfl
    · exact absurd rfl hB2
    · obtain rfl : E9 = "java/lang/IndexOutOfBoundsException" := hB1.trans rfl
      refine vx_catch (own := RL) (name := "java/lang/IndexOutOfBoundsException") hown [] ⟨0, 9, 12, 21⟩ [] htab (fun z hz => ?_) (by decide) (by decide) (hts (.classLink RL 21 "java/lang/IndexOutOfBoundsException") (List.mem_of_getElem? (i := 1) rfl)) (hG.2.2.2.2.2.2.1.1 ("java/lang/IndexOutOfBoundsException", "java/lang/IndexOutOfBoundsException") (by decide)) hc1 hc2 hc3 ?_
      · cases hz
      · refine lv_astore_n (lv' := [(3, .ref q9), (0, .ref h), (1, .int i), (2, .ref oa)]) hx hb dL_stateOf_12 rfl hl (by decide) rfl (fun ls hl => ?_)
        refine lv_iconst (v := nI 1) hx hb dL_stateOf_13 (by decide) ?_
        refine W.widen (k := 1) (n := 6) (Nat.le_of_eq (Nat.zero_add _)) (Nat.le_of_eq (Nat.zero_add _)) ?_
        exact W.iret (v := nI 1) hx hb hr (fun U9 ht9 hW9 => ⟨⟨_, (ws, x), rfl, ⟨by rw [← hk9]; rfl, by rw [← hk9]; decide, fun e9 => absurd (hk9.trans e9) (by decide), hcx (fun e9 => absurd (hk9.trans e9) (by decide))⟩, by show va_P D vwCl ws U9.heap ∧ va_at D vwCl (oa, oE cJ x) U9.heap; rw [ht9]; exact ⟨hB3, ho1⟩⟩, hS1.F ht9⟩) hS1.2.2 dL_stateOf_14 hlocks
  · obtain ⟨ek, hrv, hc2⟩ := hu
    replace hB : va_P D vwCl u U8.heap := hB
    rw [ht] at hB
    have ho1 := va_at_keep ho (hk1 oa hoL hno)
    have hD2 : va_D A u := by
      obtain ⟨_, _, _, _, _, _, _, q⟩ := hc2
      exact q
    have hP2 : va_P D vwCl (u ++ [(oa, oE cJ x)]) H1 := va_P_app hB (va_P_one ho1)
    refine lv_i2l (v := Int32.toInt64 r) hx hb dL_stateOf_7 rfl ?_
    refine va_last hx hb hKJ hP2 (va_D_out hD2 hno) hS1 u.length 0 (by rw [List.getElem?_append_right (Nat.le_refl _), Nat.sub_self]; rfl) rfl (vp_in_nI (by decide) (by decide)) dL_stateOf_8 (fun H2 locs2 hP3 hD3 hS2 => ?_)
    rw [set_out] at hP3
    refine lv_goto (tgt := 15) hx hb dL_stateOf_9 (by decide) ?_
    refine lv_iconst (v := nI 0) hx hb dL_stateOf_15 (by decide) ?_
    refine W.widen (k := 1) (n := 6) (Nat.le_of_eq (Nat.zero_add _)) (Nat.le_of_eq (Nat.zero_add _)) ?_
    exact W.iret (v := nI 0) hx hb hr (fun U9 ht9 hW9 => ⟨⟨_, (u, Int32.toInt64 (r)), rfl, ⟨by rw [ek], by rw [ek]; decide, fun _ => by first | rfl | rw [hrv], hc2⟩, by show va_P D vwCl u U9.heap ∧ va_at D vwCl (oa, oE cJ (Int32.toInt64 (r))) U9.heap; rw [ht9]; exact ⟨va_P_l hP3, out_at (va_P_r hP3 0 _ rfl)⟩⟩, hS2.F ht9⟩) hS2.2.2 dL_stateOf_16 hlocks
set_option maxHeartbeats 4000000 in
set_option maxRecDepth 100000 in
theorem cL9_running (l : Launch) (hst : l.stackTraces = false) (D : va_G) (cI cO cb : ClassId) (eA mi : Nat) (st : Nat → Nat) (dO dT : Nat) (vF : Value) {A : Nat → Prop} (ws : va_W) {h : Nat} {M : MS} (hc : cSt cI cO eA st A h M ws) (hM : MI M) (hs : sInj st) (cJ : ClassId) (oa : Nat) (x : Int64) (hno : ¬ A oa) (i : Int32) : Met l yL_running wsL_running ({ frames := 8, cells := 1, slots := 6, locals := 124 }) (va_Pc [.ref h, .int i, .ref oa] (lB D cI cO cb eA mi st dO dT vF A ws cJ oa x)) (va_Qi (fun (ri : Int32) (u : va_W × Int64) => ri = nI (k_ct M i) ∧ k_ct M i ≤ 3 ∧ (k_ct M i = 0 → u.2 = Int32.toInt64 (r_running M i)) ∧ cSt cI cO eA st A h (M) u.1) (fun u U9 => va_P D vwCl u.1 U9.heap ∧ va_at D vwCl (oa, oE cJ u.2) U9.heap) (fun q => A q ∨ q = oa)) 1 6 (fun q => A q ∨ q = oa) := by
  have hcx : k_ct M i ≠ 0 → cSt cI cO eA st A h (M) ws := fun _ => hc
  obtain ⟨k9, hk9, hk9S, hMet⟩ := cq_running l hst D cI cO cb eA mi st ws hc hM hs i
  obtain ⟨own9, kd, F, L, hC, hW, ⟨tn, lo, aw, co, ct, ow, G⟩, hD⟩ := hc
  have hm_1 : (h, .inr (9, [.ref (F 0 h), .ref (F 1 h), .ref (F 2 h), .ref (F 3 h), .ref (F 4 h), .int (nI (F 5 h))])) ∈ ws := hC.at G.1.1 (by decide) (by decide)
  refine met_ofWH (cc := cL_running) (maxL := 4) (ret := (some .int)) (hh := [(0, 9, 12, 21)]) (by decide) rfl ?_
  intro p e s m args below meth c s₁ B hml htab hv
  obtain ⟨rfl, ⟨hP, hK, ⟨hG, hGT⟩, hA⟩, hKJ, ho, hoL, hn1, hn2, hn3⟩ := hv
  have hx := B.exec
  have hb := B.bytes
  have hr := B.returns
  have hts := atoms_spec (ws := wsL_running) B.pre
  have hown : s.vm.findClass RL = some m.cls := findClass_of_methodNamed B.named
  have hlocks := B.notSynchronized
  have hS : va_S (fun q => A q ∨ q = oa) s.heap s.heap [] := va_S.rf
  have hSA : va_S A s.heap s.heap [] := va_S.rf
  have hl := lv_entry ([.ref h, .int i, .ref oa]) (n := 4) (Nat.le_of_ble_eq_true rfl)
  rw [lg_entry_eq]
  generalize (lg_sl ([.ref h, .int i, .ref oa]) ++ List.replicate (4 - (lg_sl ([.ref h, .int i, .ref oa])).length) Slot.unset).toArray = ls at hl ⊢
  have hl : lv_has ls 4 [(0, .ref h), (1, .int i), (2, .ref oa)] := hl
  refine lv_aload_n hx hb dL_running_0 rfl (lv_at hl 2 rfl) ?_
  refine lv_iconst (v := nI 0) hx hb dL_running_1 (by decide) ?_
  refine lv_aload_n hx hb dL_running_2 rfl (lv_at hl 0 rfl) ?_
  refine lv_iload_n hx hb dL_running_3 rfl (lv_at hl 1 rfl) ?_
  refine vx_calli (vx_runV (As := [.int i]) (rest := [.int (nI 0), .ref oa]) ⟨hx, hb, hml, hown, hts⟩ hMet (cwV 1 hts gL_running_X8_running rfl rfl rfl kd_X8_running ⟨Nat.le_of_ble_eq_true rfl, Nat.le_of_ble_eq_true rfl⟩) ⟨cB_blind, c_recv hK hP rfl hm_1, cB_pre hK hG hA hSA hP _⟩ rfl rfl hl.1 rfl (lv_room (Nat.le_of_ble_eq_true rfl)) dL_running_4 ⟨Nat.le_of_eq (Nat.zero_add _), Nat.le_of_eq (Nat.zero_add _)⟩) hS (fun _ _ h => Or.inl h) (fun _ h => Or.inl h) (fun _ _ h => Or.inl h) (fun E9 ce9 q9 u9 U8 H1 locs1 ht hvm hu hB hz1 hk1 hS1 hc1 hc2 hc3 => ?_) (fun r u U8 H1 locs1 ht hvm hu hB hz1 hk1 hS1 => ?_)
  · obtain ⟨hB1, hB2, hB3⟩ := hB
    rw [ht] at hB3
    have ho1 := va_at_keep ho (hk1 oa hoL hno)
    simp only [List.mem_cons, List.not_mem_nil, or_false] at hk9S
    rcases hk9S with rfl | rfl
    · exact absurd rfl hB2
    · obtain rfl : E9 = "java/lang/IndexOutOfBoundsException" := hB1.trans rfl
      refine vx_catch (own := RL) (name := "java/lang/IndexOutOfBoundsException") hown [] ⟨0, 9, 12, 21⟩ [] htab (fun z hz => ?_) (by decide) (by decide) (hts (.classLink RL 21 "java/lang/IndexOutOfBoundsException") (List.mem_of_getElem? (i := 1) rfl)) (hG.2.2.2.2.2.2.1.1 ("java/lang/IndexOutOfBoundsException", "java/lang/IndexOutOfBoundsException") (by decide)) hc1 hc2 hc3 ?_
      · cases hz
      · refine lv_astore_n (lv' := [(3, .ref q9), (0, .ref h), (1, .int i), (2, .ref oa)]) hx hb dL_running_12 rfl hl (by decide) rfl (fun ls hl => ?_)
        refine lv_iconst (v := nI 1) hx hb dL_running_13 (by decide) ?_
        refine W.widen (k := 1) (n := 6) (Nat.le_of_eq (Nat.zero_add _)) (Nat.le_of_eq (Nat.zero_add _)) ?_
        exact W.iret (v := nI 1) hx hb hr (fun U9 ht9 hW9 => ⟨⟨_, (ws, x), rfl, ⟨by rw [← hk9]; rfl, by rw [← hk9]; decide, fun e9 => absurd (hk9.trans e9) (by decide), hcx (fun e9 => absurd (hk9.trans e9) (by decide))⟩, by show va_P D vwCl ws U9.heap ∧ va_at D vwCl (oa, oE cJ x) U9.heap; rw [ht9]; exact ⟨hB3, ho1⟩⟩, hS1.F ht9⟩) hS1.2.2 dL_running_14 hlocks
  · obtain ⟨ek, hrv, hc2⟩ := hu
    replace hB : va_P D vwCl u U8.heap := hB
    rw [ht] at hB
    have ho1 := va_at_keep ho (hk1 oa hoL hno)
    have hD2 : va_D A u := by
      obtain ⟨_, _, _, _, _, _, _, q⟩ := hc2
      exact q
    have hP2 : va_P D vwCl (u ++ [(oa, oE cJ x)]) H1 := va_P_app hB (va_P_one ho1)
    refine lv_i2l (v := Int32.toInt64 r) hx hb dL_running_7 rfl ?_
    refine va_last hx hb hKJ hP2 (va_D_out hD2 hno) hS1 u.length 0 (by rw [List.getElem?_append_right (Nat.le_refl _), Nat.sub_self]; rfl) rfl (vp_in_nI (by decide) (by decide)) dL_running_8 (fun H2 locs2 hP3 hD3 hS2 => ?_)
    rw [set_out] at hP3
    refine lv_goto (tgt := 15) hx hb dL_running_9 (by decide) ?_
    refine lv_iconst (v := nI 0) hx hb dL_running_15 (by decide) ?_
    refine W.widen (k := 1) (n := 6) (Nat.le_of_eq (Nat.zero_add _)) (Nat.le_of_eq (Nat.zero_add _)) ?_
    exact W.iret (v := nI 0) hx hb hr (fun U9 ht9 hW9 => ⟨⟨_, (u, Int32.toInt64 (r)), rfl, ⟨by rw [ek], by rw [ek]; decide, fun _ => by first | rfl | rw [hrv], hc2⟩, by show va_P D vwCl u U9.heap ∧ va_at D vwCl (oa, oE cJ (Int32.toInt64 (r))) U9.heap; rw [ht9]; exact ⟨va_P_l hP3, out_at (va_P_r hP3 0 _ rfl)⟩⟩, hS2.F ht9⟩) hS2.2.2 dL_running_16 hlocks
set_option maxHeartbeats 4000000 in
set_option maxRecDepth 100000 in
theorem cL9_owes (l : Launch) (hst : l.stackTraces = false) (D : va_G) (cI cO cb : ClassId) (eA mi : Nat) (st : Nat → Nat) (dO dT : Nat) (vF : Value) {A : Nat → Prop} (ws : va_W) {h : Nat} {M : MS} (hc : cSt cI cO eA st A h M ws) (hM : MI M) (hs : sInj st) (cJ : ClassId) (oa : Nat) (x : Int64) (hno : ¬ A oa) (b : Int32) : Met l yL_owes wsL_owes ({ frames := 8, cells := 1, slots := 6, locals := 125 }) (va_Pc [.ref h, .int b, .ref oa] (lB D cI cO cb eA mi st dO dT vF A ws cJ oa x)) (va_Qi (fun (ri : Int32) (u : va_W × Int64) => ri = nI (k_b b) ∧ k_b b ≤ 3 ∧ (k_b b = 0 → u.2 = Int32.toInt64 (r_owes M b)) ∧ cSt cI cO eA st A h (M) u.1) (fun u U9 => va_P D vwCl u.1 U9.heap ∧ va_at D vwCl (oa, oE cJ u.2) U9.heap) (fun q => A q ∨ q = oa)) 1 6 (fun q => A q ∨ q = oa) := by
  have hcx : k_b b ≠ 0 → cSt cI cO eA st A h (M) ws := fun _ => hc
  obtain ⟨k9, hk9, hk9S, hMet⟩ := cq_owes l hst D cI cO cb eA mi st ws hc hM hs b
  obtain ⟨own9, kd, F, L, hC, hW, ⟨tn, lo, aw, co, ct, ow, G⟩, hD⟩ := hc
  have hm_1 : (h, .inr (9, [.ref (F 0 h), .ref (F 1 h), .ref (F 2 h), .ref (F 3 h), .ref (F 4 h), .int (nI (F 5 h))])) ∈ ws := hC.at G.1.1 (by decide) (by decide)
  refine met_ofWH (cc := cL_owes) (maxL := 4) (ret := (some .int)) (hh := [(0, 9, 12, 21)]) (by decide) rfl ?_
  intro p e s m args below meth c s₁ B hml htab hv
  obtain ⟨rfl, ⟨hP, hK, ⟨hG, hGT⟩, hA⟩, hKJ, ho, hoL, hn1, hn2, hn3⟩ := hv
  have hx := B.exec
  have hb := B.bytes
  have hr := B.returns
  have hts := atoms_spec (ws := wsL_owes) B.pre
  have hown : s.vm.findClass RL = some m.cls := findClass_of_methodNamed B.named
  have hlocks := B.notSynchronized
  have hS : va_S (fun q => A q ∨ q = oa) s.heap s.heap [] := va_S.rf
  have hSA : va_S A s.heap s.heap [] := va_S.rf
  have hl := lv_entry ([.ref h, .int b, .ref oa]) (n := 4) (Nat.le_of_ble_eq_true rfl)
  rw [lg_entry_eq]
  generalize (lg_sl ([.ref h, .int b, .ref oa]) ++ List.replicate (4 - (lg_sl ([.ref h, .int b, .ref oa])).length) Slot.unset).toArray = ls at hl ⊢
  have hl : lv_has ls 4 [(0, .ref h), (1, .int b), (2, .ref oa)] := hl
  refine lv_aload_n hx hb dL_owes_0 rfl (lv_at hl 2 rfl) ?_
  refine lv_iconst (v := nI 0) hx hb dL_owes_1 (by decide) ?_
  refine lv_aload_n hx hb dL_owes_2 rfl (lv_at hl 0 rfl) ?_
  refine lv_iload_n hx hb dL_owes_3 rfl (lv_at hl 1 rfl) ?_
  refine vx_calli (vx_runV (As := [.int b]) (rest := [.int (nI 0), .ref oa]) ⟨hx, hb, hml, hown, hts⟩ hMet (cwV 1 hts gL_owes_X8_owes rfl rfl rfl kd_X8_owes ⟨Nat.le_of_ble_eq_true rfl, Nat.le_of_ble_eq_true rfl⟩) ⟨cB_blind, c_recv hK hP rfl hm_1, cB_pre hK hG hA hSA hP _⟩ rfl rfl hl.1 rfl (lv_room (Nat.le_of_ble_eq_true rfl)) dL_owes_4 ⟨Nat.le_of_eq (Nat.zero_add _), Nat.le_of_eq (Nat.zero_add _)⟩) hS (fun _ _ h => Or.inl h) (fun _ h => Or.inl h) (fun _ _ h => Or.inl h) (fun E9 ce9 q9 u9 U8 H1 locs1 ht hvm hu hB hz1 hk1 hS1 hc1 hc2 hc3 => ?_) (fun r u U8 H1 locs1 ht hvm hu hB hz1 hk1 hS1 => ?_)
  · obtain ⟨hB1, hB2, hB3⟩ := hB
    rw [ht] at hB3
    have ho1 := va_at_keep ho (hk1 oa hoL hno)
    simp only [List.mem_cons, List.not_mem_nil, or_false] at hk9S
    rcases hk9S with rfl | rfl
    · exact absurd rfl hB2
    · obtain rfl : E9 = "java/lang/IndexOutOfBoundsException" := hB1.trans rfl
      refine vx_catch (own := RL) (name := "java/lang/IndexOutOfBoundsException") hown [] ⟨0, 9, 12, 21⟩ [] htab (fun z hz => ?_) (by decide) (by decide) (hts (.classLink RL 21 "java/lang/IndexOutOfBoundsException") (List.mem_of_getElem? (i := 1) rfl)) (hG.2.2.2.2.2.2.1.1 ("java/lang/IndexOutOfBoundsException", "java/lang/IndexOutOfBoundsException") (by decide)) hc1 hc2 hc3 ?_
      · cases hz
      · refine lv_astore_n (lv' := [(3, .ref q9), (0, .ref h), (1, .int b), (2, .ref oa)]) hx hb dL_owes_12 rfl hl (by decide) rfl (fun ls hl => ?_)
        refine lv_iconst (v := nI 1) hx hb dL_owes_13 (by decide) ?_
        refine W.widen (k := 1) (n := 6) (Nat.le_of_eq (Nat.zero_add _)) (Nat.le_of_eq (Nat.zero_add _)) ?_
        exact W.iret (v := nI 1) hx hb hr (fun U9 ht9 hW9 => ⟨⟨_, (ws, x), rfl, ⟨by rw [← hk9]; rfl, by rw [← hk9]; decide, fun e9 => absurd (hk9.trans e9) (by decide), hcx (fun e9 => absurd (hk9.trans e9) (by decide))⟩, by show va_P D vwCl ws U9.heap ∧ va_at D vwCl (oa, oE cJ x) U9.heap; rw [ht9]; exact ⟨hB3, ho1⟩⟩, hS1.F ht9⟩) hS1.2.2 dL_owes_14 hlocks
  · obtain ⟨ek, hrv, hc2⟩ := hu
    replace hB : va_P D vwCl u U8.heap := hB
    rw [ht] at hB
    have ho1 := va_at_keep ho (hk1 oa hoL hno)
    have hD2 : va_D A u := by
      obtain ⟨_, _, _, _, _, _, _, q⟩ := hc2
      exact q
    have hP2 : va_P D vwCl (u ++ [(oa, oE cJ x)]) H1 := va_P_app hB (va_P_one ho1)
    refine lv_i2l (v := Int32.toInt64 r) hx hb dL_owes_7 rfl ?_
    refine va_last hx hb hKJ hP2 (va_D_out hD2 hno) hS1 u.length 0 (by rw [List.getElem?_append_right (Nat.le_refl _), Nat.sub_self]; rfl) rfl (vp_in_nI (by decide) (by decide)) dL_owes_8 (fun H2 locs2 hP3 hD3 hS2 => ?_)
    rw [set_out] at hP3
    refine lv_goto (tgt := 15) hx hb dL_owes_9 (by decide) ?_
    refine lv_iconst (v := nI 0) hx hb dL_owes_15 (by decide) ?_
    refine W.widen (k := 1) (n := 6) (Nat.le_of_eq (Nat.zero_add _)) (Nat.le_of_eq (Nat.zero_add _)) ?_
    exact W.iret (v := nI 0) hx hb hr (fun U9 ht9 hW9 => ⟨⟨_, (u, Int32.toInt64 (r)), rfl, ⟨by rw [ek], by rw [ek]; decide, fun _ => by first | rfl | rw [hrv], hc2⟩, by show va_P D vwCl u U9.heap ∧ va_at D vwCl (oa, oE cJ (Int32.toInt64 (r))) U9.heap; rw [ht9]; exact ⟨va_P_l hP3, out_at (va_P_r hP3 0 _ rfl)⟩⟩, hS2.F ht9⟩) hS2.2.2 dL_owes_16 hlocks
set_option maxHeartbeats 4000000 in
set_option maxRecDepth 100000 in
theorem cL9_held (l : Launch) (hst : l.stackTraces = false) (D : va_G) (cI cO cb : ClassId) (eA mi : Nat) (st : Nat → Nat) (dO dT : Nat) (vF : Value) {A : Nat → Prop} (ws : va_W) {h : Nat} {M : MS} (hc : cSt cI cO eA st A h M ws) (hM : MI M) (hs : sInj st) (cJ : ClassId) (oa : Nat) (x : Int64) (hno : ¬ A oa) (b : Int32) : Met l yL_held wsL_held ({ frames := 8, cells := 1, slots := 6, locals := 137 }) (va_Pc [.ref h, .int b, .ref oa] (lB D cI cO cb eA mi st dO dT vF A ws cJ oa x)) (va_Qi (fun (ri : Int32) (u : va_W × Int64) => ri = nI (k_b b) ∧ k_b b ≤ 3 ∧ (k_b b = 0 → u.2 = Int32.toInt64 (r_held M b)) ∧ cSt cI cO eA st A h (M) u.1) (fun u U9 => va_P D vwCl u.1 U9.heap ∧ va_at D vwCl (oa, oE cJ u.2) U9.heap) (fun q => A q ∨ q = oa)) 1 6 (fun q => A q ∨ q = oa) := by
  have hcx : k_b b ≠ 0 → cSt cI cO eA st A h (M) ws := fun _ => hc
  obtain ⟨k9, hk9, hk9S, hMet⟩ := cq_held l hst D cI cO cb eA mi st ws hc hM hs b
  obtain ⟨own9, kd, F, L, hC, hW, ⟨tn, lo, aw, co, ct, ow, G⟩, hD⟩ := hc
  have hm_1 : (h, .inr (9, [.ref (F 0 h), .ref (F 1 h), .ref (F 2 h), .ref (F 3 h), .ref (F 4 h), .int (nI (F 5 h))])) ∈ ws := hC.at G.1.1 (by decide) (by decide)
  refine met_ofWH (cc := cL_held) (maxL := 4) (ret := (some .int)) (hh := [(0, 9, 12, 21)]) (by decide) rfl ?_
  intro p e s m args below meth c s₁ B hml htab hv
  obtain ⟨rfl, ⟨hP, hK, ⟨hG, hGT⟩, hA⟩, hKJ, ho, hoL, hn1, hn2, hn3⟩ := hv
  have hx := B.exec
  have hb := B.bytes
  have hr := B.returns
  have hts := atoms_spec (ws := wsL_held) B.pre
  have hown : s.vm.findClass RL = some m.cls := findClass_of_methodNamed B.named
  have hlocks := B.notSynchronized
  have hS : va_S (fun q => A q ∨ q = oa) s.heap s.heap [] := va_S.rf
  have hSA : va_S A s.heap s.heap [] := va_S.rf
  have hl := lv_entry ([.ref h, .int b, .ref oa]) (n := 4) (Nat.le_of_ble_eq_true rfl)
  rw [lg_entry_eq]
  generalize (lg_sl ([.ref h, .int b, .ref oa]) ++ List.replicate (4 - (lg_sl ([.ref h, .int b, .ref oa])).length) Slot.unset).toArray = ls at hl ⊢
  have hl : lv_has ls 4 [(0, .ref h), (1, .int b), (2, .ref oa)] := hl
  refine lv_aload_n hx hb dL_held_0 rfl (lv_at hl 2 rfl) ?_
  refine lv_iconst (v := nI 0) hx hb dL_held_1 (by decide) ?_
  refine lv_aload_n hx hb dL_held_2 rfl (lv_at hl 0 rfl) ?_
  refine lv_iload_n hx hb dL_held_3 rfl (lv_at hl 1 rfl) ?_
  refine vx_calli (vx_runV (As := [.int b]) (rest := [.int (nI 0), .ref oa]) ⟨hx, hb, hml, hown, hts⟩ hMet (cwV 1 hts gL_held_X8_held rfl rfl rfl kd_X8_held ⟨Nat.le_of_ble_eq_true rfl, Nat.le_of_ble_eq_true rfl⟩) ⟨cB_blind, c_recv hK hP rfl hm_1, cB_pre hK hG hA hSA hP _⟩ rfl rfl hl.1 rfl (lv_room (Nat.le_of_ble_eq_true rfl)) dL_held_4 ⟨Nat.le_of_eq (Nat.zero_add _), Nat.le_of_eq (Nat.zero_add _)⟩) hS (fun _ _ h => Or.inl h) (fun _ h => Or.inl h) (fun _ _ h => Or.inl h) (fun E9 ce9 q9 u9 U8 H1 locs1 ht hvm hu hB hz1 hk1 hS1 hc1 hc2 hc3 => ?_) (fun r u U8 H1 locs1 ht hvm hu hB hz1 hk1 hS1 => ?_)
  · obtain ⟨hB1, hB2, hB3⟩ := hB
    rw [ht] at hB3
    have ho1 := va_at_keep ho (hk1 oa hoL hno)
    simp only [List.mem_cons, List.not_mem_nil, or_false] at hk9S
    rcases hk9S with rfl | rfl
    · exact absurd rfl hB2
    · obtain rfl : E9 = "java/lang/IndexOutOfBoundsException" := hB1.trans rfl
      refine vx_catch (own := RL) (name := "java/lang/IndexOutOfBoundsException") hown [] ⟨0, 9, 12, 21⟩ [] htab (fun z hz => ?_) (by decide) (by decide) (hts (.classLink RL 21 "java/lang/IndexOutOfBoundsException") (List.mem_of_getElem? (i := 1) rfl)) (hG.2.2.2.2.2.2.1.1 ("java/lang/IndexOutOfBoundsException", "java/lang/IndexOutOfBoundsException") (by decide)) hc1 hc2 hc3 ?_
      · cases hz
      · refine lv_astore_n (lv' := [(3, .ref q9), (0, .ref h), (1, .int b), (2, .ref oa)]) hx hb dL_held_12 rfl hl (by decide) rfl (fun ls hl => ?_)
        refine lv_iconst (v := nI 1) hx hb dL_held_13 (by decide) ?_
        refine W.widen (k := 1) (n := 6) (Nat.le_of_eq (Nat.zero_add _)) (Nat.le_of_eq (Nat.zero_add _)) ?_
        exact W.iret (v := nI 1) hx hb hr (fun U9 ht9 hW9 => ⟨⟨_, (ws, x), rfl, ⟨by rw [← hk9]; rfl, by rw [← hk9]; decide, fun e9 => absurd (hk9.trans e9) (by decide), hcx (fun e9 => absurd (hk9.trans e9) (by decide))⟩, by show va_P D vwCl ws U9.heap ∧ va_at D vwCl (oa, oE cJ x) U9.heap; rw [ht9]; exact ⟨hB3, ho1⟩⟩, hS1.F ht9⟩) hS1.2.2 dL_held_14 hlocks
  · obtain ⟨ek, hrv, hc2⟩ := hu
    replace hB : va_P D vwCl u U8.heap := hB
    rw [ht] at hB
    have ho1 := va_at_keep ho (hk1 oa hoL hno)
    have hD2 : va_D A u := by
      obtain ⟨_, _, _, _, _, _, _, q⟩ := hc2
      exact q
    have hP2 : va_P D vwCl (u ++ [(oa, oE cJ x)]) H1 := va_P_app hB (va_P_one ho1)
    refine lv_i2l (v := Int32.toInt64 r) hx hb dL_held_7 rfl ?_
    refine va_last hx hb hKJ hP2 (va_D_out hD2 hno) hS1 u.length 0 (by rw [List.getElem?_append_right (Nat.le_refl _), Nat.sub_self]; rfl) rfl (vp_in_nI (by decide) (by decide)) dL_held_8 (fun H2 locs2 hP3 hD3 hS2 => ?_)
    rw [set_out] at hP3
    refine lv_goto (tgt := 15) hx hb dL_held_9 (by decide) ?_
    refine lv_iconst (v := nI 0) hx hb dL_held_15 (by decide) ?_
    refine W.widen (k := 1) (n := 6) (Nat.le_of_eq (Nat.zero_add _)) (Nat.le_of_eq (Nat.zero_add _)) ?_
    exact W.iret (v := nI 0) hx hb hr (fun U9 ht9 hW9 => ⟨⟨_, (u, Int32.toInt64 (r)), rfl, ⟨by rw [ek], by rw [ek]; decide, fun _ => by first | rfl | rw [hrv], hc2⟩, by show va_P D vwCl u U9.heap ∧ va_at D vwCl (oa, oE cJ (Int32.toInt64 (r))) U9.heap; rw [ht9]; exact ⟨va_P_l hP3, out_at (va_P_r hP3 0 _ rfl)⟩⟩, hS2.F ht9⟩) hS2.2.2 dL_held_16 hlocks
set_option maxHeartbeats 4000000 in
set_option maxRecDepth 100000 in
theorem cL9_lost (l : Launch) (hst : l.stackTraces = false) (D : va_G) (cI cO cb : ClassId) (eA mi : Nat) (st : Nat → Nat) (dO dT : Nat) (vF : Value) {A : Nat → Prop} (ws : va_W) {h : Nat} {M : MS} (hc : cSt cI cO eA st A h M ws) (hM : MI M) (hs : sInj st) (cJ : ClassId) (oa : Nat) (x : Int64) (hno : ¬ A oa) (b : Int32) : Met l yL_lost wsL_lost ({ frames := 8, cells := 1, slots := 6, locals := 125 }) (va_Pc [.ref h, .int b, .ref oa] (lB D cI cO cb eA mi st dO dT vF A ws cJ oa x)) (va_Qi (fun (ri : Int32) (u : va_W × Int64) => ri = nI (k_b b) ∧ k_b b ≤ 3 ∧ (k_b b = 0 → u.2 = Int32.toInt64 (r_lost M b)) ∧ cSt cI cO eA st A h (M) u.1) (fun u U9 => va_P D vwCl u.1 U9.heap ∧ va_at D vwCl (oa, oE cJ u.2) U9.heap) (fun q => A q ∨ q = oa)) 1 6 (fun q => A q ∨ q = oa) := by
  have hcx : k_b b ≠ 0 → cSt cI cO eA st A h (M) ws := fun _ => hc
  obtain ⟨k9, hk9, hk9S, hMet⟩ := cq_lost l hst D cI cO cb eA mi st ws hc hM hs b
  obtain ⟨own9, kd, F, L, hC, hW, ⟨tn, lo, aw, co, ct, ow, G⟩, hD⟩ := hc
  have hm_1 : (h, .inr (9, [.ref (F 0 h), .ref (F 1 h), .ref (F 2 h), .ref (F 3 h), .ref (F 4 h), .int (nI (F 5 h))])) ∈ ws := hC.at G.1.1 (by decide) (by decide)
  refine met_ofWH (cc := cL_lost) (maxL := 4) (ret := (some .int)) (hh := [(0, 9, 12, 21)]) (by decide) rfl ?_
  intro p e s m args below meth c s₁ B hml htab hv
  obtain ⟨rfl, ⟨hP, hK, ⟨hG, hGT⟩, hA⟩, hKJ, ho, hoL, hn1, hn2, hn3⟩ := hv
  have hx := B.exec
  have hb := B.bytes
  have hr := B.returns
  have hts := atoms_spec (ws := wsL_lost) B.pre
  have hown : s.vm.findClass RL = some m.cls := findClass_of_methodNamed B.named
  have hlocks := B.notSynchronized
  have hS : va_S (fun q => A q ∨ q = oa) s.heap s.heap [] := va_S.rf
  have hSA : va_S A s.heap s.heap [] := va_S.rf
  have hl := lv_entry ([.ref h, .int b, .ref oa]) (n := 4) (Nat.le_of_ble_eq_true rfl)
  rw [lg_entry_eq]
  generalize (lg_sl ([.ref h, .int b, .ref oa]) ++ List.replicate (4 - (lg_sl ([.ref h, .int b, .ref oa])).length) Slot.unset).toArray = ls at hl ⊢
  have hl : lv_has ls 4 [(0, .ref h), (1, .int b), (2, .ref oa)] := hl
  refine lv_aload_n hx hb dL_lost_0 rfl (lv_at hl 2 rfl) ?_
  refine lv_iconst (v := nI 0) hx hb dL_lost_1 (by decide) ?_
  refine lv_aload_n hx hb dL_lost_2 rfl (lv_at hl 0 rfl) ?_
  refine lv_iload_n hx hb dL_lost_3 rfl (lv_at hl 1 rfl) ?_
  refine vx_calli (vx_runV (As := [.int b]) (rest := [.int (nI 0), .ref oa]) ⟨hx, hb, hml, hown, hts⟩ hMet (cwV 1 hts gL_lost_X8_lost rfl rfl rfl kd_X8_lost ⟨Nat.le_of_ble_eq_true rfl, Nat.le_of_ble_eq_true rfl⟩) ⟨cB_blind, c_recv hK hP rfl hm_1, cB_pre hK hG hA hSA hP _⟩ rfl rfl hl.1 rfl (lv_room (Nat.le_of_ble_eq_true rfl)) dL_lost_4 ⟨Nat.le_of_eq (Nat.zero_add _), Nat.le_of_eq (Nat.zero_add _)⟩) hS (fun _ _ h => Or.inl h) (fun _ h => Or.inl h) (fun _ _ h => Or.inl h) (fun E9 ce9 q9 u9 U8 H1 locs1 ht hvm hu hB hz1 hk1 hS1 hc1 hc2 hc3 => ?_) (fun r u U8 H1 locs1 ht hvm hu hB hz1 hk1 hS1 => ?_)
  · obtain ⟨hB1, hB2, hB3⟩ := hB
    rw [ht] at hB3
    have ho1 := va_at_keep ho (hk1 oa hoL hno)
    simp only [List.mem_cons, List.not_mem_nil, or_false] at hk9S
    rcases hk9S with rfl | rfl
    · exact absurd rfl hB2
    · obtain rfl : E9 = "java/lang/IndexOutOfBoundsException" := hB1.trans rfl
      refine vx_catch (own := RL) (name := "java/lang/IndexOutOfBoundsException") hown [] ⟨0, 9, 12, 21⟩ [] htab (fun z hz => ?_) (by decide) (by decide) (hts (.classLink RL 21 "java/lang/IndexOutOfBoundsException") (List.mem_of_getElem? (i := 1) rfl)) (hG.2.2.2.2.2.2.1.1 ("java/lang/IndexOutOfBoundsException", "java/lang/IndexOutOfBoundsException") (by decide)) hc1 hc2 hc3 ?_
      · cases hz
      · refine lv_astore_n (lv' := [(3, .ref q9), (0, .ref h), (1, .int b), (2, .ref oa)]) hx hb dL_lost_12 rfl hl (by decide) rfl (fun ls hl => ?_)
        refine lv_iconst (v := nI 1) hx hb dL_lost_13 (by decide) ?_
        refine W.widen (k := 1) (n := 6) (Nat.le_of_eq (Nat.zero_add _)) (Nat.le_of_eq (Nat.zero_add _)) ?_
        exact W.iret (v := nI 1) hx hb hr (fun U9 ht9 hW9 => ⟨⟨_, (ws, x), rfl, ⟨by rw [← hk9]; rfl, by rw [← hk9]; decide, fun e9 => absurd (hk9.trans e9) (by decide), hcx (fun e9 => absurd (hk9.trans e9) (by decide))⟩, by show va_P D vwCl ws U9.heap ∧ va_at D vwCl (oa, oE cJ x) U9.heap; rw [ht9]; exact ⟨hB3, ho1⟩⟩, hS1.F ht9⟩) hS1.2.2 dL_lost_14 hlocks
  · obtain ⟨ek, hrv, hc2⟩ := hu
    replace hB : va_P D vwCl u U8.heap := hB
    rw [ht] at hB
    have ho1 := va_at_keep ho (hk1 oa hoL hno)
    have hD2 : va_D A u := by
      obtain ⟨_, _, _, _, _, _, _, q⟩ := hc2
      exact q
    have hP2 : va_P D vwCl (u ++ [(oa, oE cJ x)]) H1 := va_P_app hB (va_P_one ho1)
    refine lv_i2l (v := Int32.toInt64 r) hx hb dL_lost_7 rfl ?_
    refine va_last hx hb hKJ hP2 (va_D_out hD2 hno) hS1 u.length 0 (by rw [List.getElem?_append_right (Nat.le_refl _), Nat.sub_self]; rfl) rfl (vp_in_nI (by decide) (by decide)) dL_lost_8 (fun H2 locs2 hP3 hD3 hS2 => ?_)
    rw [set_out] at hP3
    refine lv_goto (tgt := 15) hx hb dL_lost_9 (by decide) ?_
    refine lv_iconst (v := nI 0) hx hb dL_lost_15 (by decide) ?_
    refine W.widen (k := 1) (n := 6) (Nat.le_of_eq (Nat.zero_add _)) (Nat.le_of_eq (Nat.zero_add _)) ?_
    exact W.iret (v := nI 0) hx hb hr (fun U9 ht9 hW9 => ⟨⟨_, (u, Int32.toInt64 (r)), rfl, ⟨by rw [ek], by rw [ek]; decide, fun _ => by first | rfl | rw [hrv], hc2⟩, by show va_P D vwCl u U9.heap ∧ va_at D vwCl (oa, oE cJ (Int32.toInt64 (r))) U9.heap; rw [ht9]; exact ⟨va_P_l hP3, out_at (va_P_r hP3 0 _ rfl)⟩⟩, hS2.F ht9⟩) hS2.2.2 dL_lost_16 hlocks
