/-! the law's wrappers, the others -/
set_option maxHeartbeats 4000000 in
set_option maxRecDepth 100000 in
theorem cw_score (l : Launch) (hst : l.stackTraces = false) (D : va_G) (cI cO cb : ClassId) (eA mi : Nat) (st : Nat → Nat) (dO dT : Nat) (vF : Value) {A : Nat → Prop} (ws : va_W) {h : Nat} {M : MS} (hc : cSt cI cO eA st A h M ws) (hM : MI M) (hs : sInj st) (b : Int32) (t : Int32) (k : Int32) : Met l yL_score wsL_score ({ frames := 9, cells := 3, slots := 18, locals := 150 }) (va_Pc [.ref h, .int b, .int t, .int k] (kB D cI cO cb eA mi st dO dT vF A ws)) (va_Qi (fun (ri : Int32) (u : va_W) => ri = er (k_ask M b t k) (r_score M b t k) ∧ cSt cI cO eA st A h (M) u) (fun u U9 => va_P D vwCl u U9.heap) A) 3 18 A := by
  have hcx : k_ask M b t k ≠ 0 → cSt cI cO eA st A h (M) ws := fun _ => hc
  obtain ⟨k9, hk9, hk9S, hMet⟩ := cq_score l hst D cI cO cb eA mi st ws hc hM hs b t k
  obtain ⟨own9, kd, F, L, hC, hW, ⟨tn, lo, aw, co, ct, ow, G⟩, hD⟩ := hc
  have hm_1 : (h, .inr (9, [.ref (F 0 h), .ref (F 1 h), .ref (F 2 h), .ref (F 3 h), .ref (F 4 h), .int (nI (F 5 h))])) ∈ ws := hC.at G.1.1 (by decide) (by decide)
  refine met_ofWH (cc := cL_score) (maxL := 6) (ret := (some .int)) (hh := [(0, 9, 12, 22)]) (by decide) rfl ?_
  intro p e s m args below meth c s₁ B hml htab hv
  obtain ⟨rfl, ⟨hP, hK, ⟨hG, hGT⟩, hA⟩, hn1, hn2, hn3⟩ := hv
  have hx := B.exec
  have hb := B.bytes
  have hr := B.returns
  have hts := atoms_spec (ws := wsL_score) B.pre
  have hown : s.vm.findClass RL = some m.cls := findClass_of_methodNamed B.named
  have hlocks := B.notSynchronized
  have hS : va_S A s.heap s.heap [] := va_S.rf
  have hl := lv_entry ([.ref h, .int b, .int t, .int k]) (n := 6) (Nat.le_of_ble_eq_true rfl)
  rw [lg_entry_eq]
  generalize (lg_sl ([.ref h, .int b, .int t, .int k]) ++ List.replicate (6 - (lg_sl ([.ref h, .int b, .int t, .int k])).length) Slot.unset).toArray = ls at hl ⊢
  have hl : lv_has ls 6 [(0, .ref h), (1, .int b), (2, .int t), (3, .int k)] := hl
  refine lv_aload_n hx hb dL_score_0 rfl (lv_at hl 0 rfl) ?_
  refine lv_iload_n hx hb dL_score_1 rfl (lv_at hl 1 rfl) ?_
  refine lv_iload_n hx hb dL_score_2 rfl (lv_at hl 2 rfl) ?_
  refine lv_iload_n hx hb dL_score_3 rfl (lv_at hl 3 rfl) ?_
  refine vx_calli (vx_runV (As := [.int b, .int t, .int k]) (rest := []) ⟨hx, hb, hml, hown, hts⟩ hMet (cwV 3 hts gL_score_X8_score rfl rfl rfl kd_X8_score ⟨Nat.le_of_ble_eq_true rfl, Nat.le_of_ble_eq_true rfl⟩) ⟨cB_blind, c_recv hK hP rfl hm_1, cB_pre hK hG hA hS hP _⟩ rfl rfl hl.1 rfl (lv_room (Nat.le_of_ble_eq_true rfl)) dL_score_4 ⟨Nat.le_of_eq (Nat.zero_add _), Nat.le_of_eq (Nat.zero_add _)⟩) hS (fun _ _ h => h) (fun _ h => h) (fun _ _ h => h) (fun E9 ce9 q9 u9 U8 H1 locs1 ht hvm hu hB hz1 hk1 hS1 hc1 hc2 hc3 => ?_) (fun r u U8 H1 locs1 ht hvm hu hB hz1 hk1 hS1 => ?_)
  · obtain ⟨hB1, hB2, hB3⟩ := hB
    rw [ht] at hB3
    simp only [List.mem_cons, List.not_mem_nil, or_false] at hk9S
    rcases hk9S with rfl | rfl
    · exact absurd rfl hB2
    · obtain rfl : E9 = "java/lang/IndexOutOfBoundsException" := hB1.trans rfl
      refine vx_catch (own := RL) (name := "java/lang/IndexOutOfBoundsException") hown [] ⟨0, 9, 12, 22⟩ [] htab (fun z hz => ?_) (by decide) (by decide) (hts (.classLink RL 22 "java/lang/IndexOutOfBoundsException") (List.mem_of_getElem? (i := 1) rfl)) (hG.2.2.2.2.2.2.1.1 ("java/lang/IndexOutOfBoundsException", "java/lang/IndexOutOfBoundsException") (by decide)) hc1 hc2 hc3 ?_
      · cases hz
      · refine lv_astore (lv' := [(5, .ref q9), (0, .ref h), (1, .int b), (2, .int t), (3, .int k)]) hx hb dL_score_12 hl (by decide) rfl (fun ls hl => ?_)
        refine lv_sipush (v := (-7100)) hx hb dL_score_14 (by decide) ?_
        refine W.widen (k := 3) (n := 18) (Nat.le_of_eq (Nat.zero_add _)) (Nat.le_of_eq (Nat.zero_add _)) ?_
        exact W.iret (v := (-7100)) hx hb hr (fun U9 ht9 hW9 => ⟨⟨_, ws, rfl, ⟨by rw [← hk9]; rfl, hcx (fun e9 => absurd (hk9.trans e9) (by decide))⟩, by show va_P D vwCl ws U9.heap; rw [ht9]; exact hB3⟩, hS1.F ht9⟩) hS1.2.2 dL_score_17 hlocks
  · obtain ⟨ek, hrv, hc2⟩ := hu
    replace hB : va_P D vwCl u U8.heap := hB
    rw [ht] at hB
    refine lv_istore (lv' := [(4, .int r), (0, .ref h), (1, .int b), (2, .int t), (3, .int k)]) hx hb dL_score_7 hl (by decide) rfl (fun ls hl => ?_)
    refine lv_goto (tgt := 18) hx hb dL_score_9 (by decide) ?_
    refine lv_iload hx hb dL_score_18 (lv_at hl 0 rfl) ?_
    refine W.widen (k := 3) (n := 18) (Nat.le_of_eq (Nat.zero_add _)) (Nat.le_of_eq (Nat.zero_add _)) ?_
    exact W.iret (v := r) hx hb hr (fun U9 ht9 hW9 => ⟨⟨_, u, rfl, ⟨by rw [hrv, ek]; rfl, hc2⟩, by show va_P D vwCl u U9.heap; rw [ht9]; exact hB⟩, hS1.F ht9⟩) hS1.2.2 dL_score_20 hlocks
set_option maxHeartbeats 4000000 in
set_option maxRecDepth 100000 in
theorem cw_ranked (l : Launch) (hst : l.stackTraces = false) (D : va_G) (cI cO cb : ClassId) (eA mi : Nat) (st : Nat → Nat) (dO dT : Nat) (vF : Value) {A : Nat → Prop} (ws : va_W) {h : Nat} {M : MS} (hc : cSt cI cO eA st A h M ws) (hM : MI M) (hs : sInj st) (t : Int32) (k : Int32) (z : Int32) : Met l yL_ranked wsL_ranked ({ frames := 9, cells := 3, slots := 18, locals := 162 }) (va_Pc [.ref h, .int t, .int k, .int z] (kB D cI cO cb eA mi st dO dT vF A ws)) (va_Qi (fun (ri : Int32) (u : va_W) => ri = er (k_ranked M t k z) (r_ranked M t k z) ∧ cSt cI cO eA st A h (M) u) (fun u U9 => va_P D vwCl u U9.heap) A) 3 18 A := by
  have hcx : k_ranked M t k z ≠ 0 → cSt cI cO eA st A h (M) ws := fun _ => hc
  obtain ⟨k9, hk9, hk9S, hMet⟩ := cq_ranked l hst D cI cO cb eA mi st ws hc hM hs t k z
  obtain ⟨own9, kd, F, L, hC, hW, ⟨tn, lo, aw, co, ct, ow, G⟩, hD⟩ := hc
  have hm_1 : (h, .inr (9, [.ref (F 0 h), .ref (F 1 h), .ref (F 2 h), .ref (F 3 h), .ref (F 4 h), .int (nI (F 5 h))])) ∈ ws := hC.at G.1.1 (by decide) (by decide)
  refine met_ofWH (cc := cL_ranked) (maxL := 6) (ret := (some .int)) (hh := [(0, 9, 12, 22), (0, 9, 18, 14)]) (by decide) rfl ?_
  intro p e s m args below meth c s₁ B hml htab hv
  obtain ⟨rfl, ⟨hP, hK, ⟨hG, hGT⟩, hA⟩, hn1, hn2, hn3⟩ := hv
  have hx := B.exec
  have hb := B.bytes
  have hr := B.returns
  have hts := atoms_spec (ws := wsL_ranked) B.pre
  have hown : s.vm.findClass RL = some m.cls := findClass_of_methodNamed B.named
  have hlocks := B.notSynchronized
  have hS : va_S A s.heap s.heap [] := va_S.rf
  have hl := lv_entry ([.ref h, .int t, .int k, .int z]) (n := 6) (Nat.le_of_ble_eq_true rfl)
  rw [lg_entry_eq]
  generalize (lg_sl ([.ref h, .int t, .int k, .int z]) ++ List.replicate (6 - (lg_sl ([.ref h, .int t, .int k, .int z])).length) Slot.unset).toArray = ls at hl ⊢
  have hl : lv_has ls 6 [(0, .ref h), (1, .int t), (2, .int k), (3, .int z)] := hl
  refine lv_aload_n hx hb dL_ranked_0 rfl (lv_at hl 0 rfl) ?_
  refine lv_iload_n hx hb dL_ranked_1 rfl (lv_at hl 1 rfl) ?_
  refine lv_iload_n hx hb dL_ranked_2 rfl (lv_at hl 2 rfl) ?_
  refine lv_iload_n hx hb dL_ranked_3 rfl (lv_at hl 3 rfl) ?_
  refine vx_calli (vx_runV (As := [.int t, .int k, .int z]) (rest := []) ⟨hx, hb, hml, hown, hts⟩ hMet (cwV 3 hts gL_ranked_X8_ranked rfl rfl rfl kd_X8_ranked ⟨Nat.le_of_ble_eq_true rfl, Nat.le_of_ble_eq_true rfl⟩) ⟨cB_blind, c_recv hK hP rfl hm_1, cB_pre hK hG hA hS hP _⟩ rfl rfl hl.1 rfl (lv_room (Nat.le_of_ble_eq_true rfl)) dL_ranked_4 ⟨Nat.le_of_eq (Nat.zero_add _), Nat.le_of_eq (Nat.zero_add _)⟩) hS (fun _ _ h => h) (fun _ h => h) (fun _ _ h => h) (fun E9 ce9 q9 u9 U8 H1 locs1 ht hvm hu hB hz1 hk1 hS1 hc1 hc2 hc3 => ?_) (fun r u U8 H1 locs1 ht hvm hu hB hz1 hk1 hS1 => ?_)
  · obtain ⟨hB1, hB2, hB3⟩ := hB
    rw [ht] at hB3
    simp only [List.mem_cons, List.not_mem_nil, or_false] at hk9S
    rcases hk9S with rfl | rfl | rfl
    · exact absurd rfl hB2
    · obtain rfl : E9 = "java/lang/IndexOutOfBoundsException" := hB1.trans rfl
      refine vx_catch (own := RL) (name := "java/lang/IndexOutOfBoundsException") hown [] ⟨0, 9, 12, 22⟩ [⟨0, 9, 18, 14⟩] htab (fun z hz => ?_) (by decide) (by decide) (hts (.classLink RL 22 "java/lang/IndexOutOfBoundsException") (List.mem_of_getElem? (i := 1) rfl)) (hG.2.2.2.2.2.2.1.1 ("java/lang/IndexOutOfBoundsException", "java/lang/IndexOutOfBoundsException") (by decide)) hc1 hc2 hc3 ?_
      · cases hz
      · refine lv_astore (lv' := [(5, .ref q9), (0, .ref h), (1, .int t), (2, .int k), (3, .int z)]) hx hb dL_ranked_12 hl (by decide) rfl (fun ls hl => ?_)
        refine lv_sipush (v := (-7100)) hx hb dL_ranked_14 (by decide) ?_
        refine W.widen (k := 3) (n := 18) (Nat.le_of_eq (Nat.zero_add _)) (Nat.le_of_eq (Nat.zero_add _)) ?_
        exact W.iret (v := (-7100)) hx hb hr (fun U9 ht9 hW9 => ⟨⟨_, ws, rfl, ⟨by rw [← hk9]; rfl, hcx (fun e9 => absurd (hk9.trans e9) (by decide))⟩, by show va_P D vwCl ws U9.heap; rw [ht9]; exact hB3⟩, hS1.F ht9⟩) hS1.2.2 dL_ranked_17 hlocks
    · obtain rfl : E9 = "java/lang/IllegalArgumentException" := hB1.trans rfl
      refine vx_catch (own := RL) (name := "java/lang/IllegalArgumentException") hown [⟨0, 9, 12, 22⟩] ⟨0, 9, 18, 14⟩ [] htab (fun z hz => ?_) (by decide) (by decide) (hts (.classLink RL 14 "java/lang/IllegalArgumentException") (List.mem_of_getElem? (i := 2) rfl)) (hG.2.2.2.2.2.2.1.1 ("java/lang/IllegalArgumentException", "java/lang/IllegalArgumentException") (by decide)) hc1 hc2 hc3 ?_
      · obtain rfl := List.mem_singleton.mp hz
        exact Or.inr ⟨by decide, _, (hts (.classLink RL 22 "java/lang/IndexOutOfBoundsException") (List.mem_of_getElem? (i := 1) rfl)), hn1⟩
      · refine lv_astore (lv' := [(5, .ref q9), (0, .ref h), (1, .int t), (2, .int k), (3, .int z)]) hx hb dL_ranked_18 hl (by decide) rfl (fun ls hl => ?_)
        refine lv_sipush (v := (-7200)) hx hb dL_ranked_20 (by decide) ?_
        refine W.widen (k := 3) (n := 18) (Nat.le_of_eq (Nat.zero_add _)) (Nat.le_of_eq (Nat.zero_add _)) ?_
        exact W.iret (v := (-7200)) hx hb hr (fun U9 ht9 hW9 => ⟨⟨_, ws, rfl, ⟨by rw [← hk9]; rfl, hcx (fun e9 => absurd (hk9.trans e9) (by decide))⟩, by show va_P D vwCl ws U9.heap; rw [ht9]; exact hB3⟩, hS1.F ht9⟩) hS1.2.2 dL_ranked_23 hlocks
  · obtain ⟨ek, hrv, hc2⟩ := hu
    replace hB : va_P D vwCl u U8.heap := hB
    rw [ht] at hB
    refine lv_istore (lv' := [(4, .int r), (0, .ref h), (1, .int t), (2, .int k), (3, .int z)]) hx hb dL_ranked_7 hl (by decide) rfl (fun ls hl => ?_)
    refine lv_goto (tgt := 24) hx hb dL_ranked_9 (by decide) ?_
    refine lv_iload hx hb dL_ranked_24 (lv_at hl 0 rfl) ?_
    refine W.widen (k := 3) (n := 18) (Nat.le_of_eq (Nat.zero_add _)) (Nat.le_of_eq (Nat.zero_add _)) ?_
    exact W.iret (v := r) hx hb hr (fun U9 ht9 hW9 => ⟨⟨_, u, rfl, ⟨by rw [hrv, ek]; rfl, hc2⟩, by show va_P D vwCl u U9.heap; rw [ht9]; exact hB⟩, hS1.F ht9⟩) hS1.2.2 dL_ranked_26 hlocks
set_option maxHeartbeats 4000000 in
set_option maxRecDepth 100000 in
theorem cw_awardOf (l : Launch) (hst : l.stackTraces = false) (D : va_G) (cI cO cb : ClassId) (eA mi : Nat) (st : Nat → Nat) (dO dT : Nat) (vF : Value) {A : Nat → Prop} (ws : va_W) {h : Nat} {M : MS} (hc : cSt cI cO eA st A h M ws) (hM : MI M) (hs : sInj st) (t : Int32) (k : Int32) : Met l yL_awardOf wsL_awardOf ({ frames := 9, cells := 2, slots := 12, locals := 148 }) (va_Pc [.ref h, .int t, .int k] (kB D cI cO cb eA mi st dO dT vF A ws)) (va_Qi (fun (ri : Int32) (u : va_W) => ri = er (k_lot M t k) (r_awardOf M t k) ∧ cSt cI cO eA st A h (M) u) (fun u U9 => va_P D vwCl u U9.heap) A) 2 12 A := by
  have hcx : k_lot M t k ≠ 0 → cSt cI cO eA st A h (M) ws := fun _ => hc
  obtain ⟨k9, hk9, hk9S, hMet⟩ := cq_awardOf l hst D cI cO cb eA mi st ws hc hM hs t k
  obtain ⟨own9, kd, F, L, hC, hW, ⟨tn, lo, aw, co, ct, ow, G⟩, hD⟩ := hc
  have hm_1 : (h, .inr (9, [.ref (F 0 h), .ref (F 1 h), .ref (F 2 h), .ref (F 3 h), .ref (F 4 h), .int (nI (F 5 h))])) ∈ ws := hC.at G.1.1 (by decide) (by decide)
  refine met_ofWH (cc := cL_awardOf) (maxL := 5) (ret := (some .int)) (hh := [(0, 7, 10, 22)]) (by decide) rfl ?_
  intro p e s m args below meth c s₁ B hml htab hv
  obtain ⟨rfl, ⟨hP, hK, ⟨hG, hGT⟩, hA⟩, hn1, hn2, hn3⟩ := hv
  have hx := B.exec
  have hb := B.bytes
  have hr := B.returns
  have hts := atoms_spec (ws := wsL_awardOf) B.pre
  have hown : s.vm.findClass RL = some m.cls := findClass_of_methodNamed B.named
  have hlocks := B.notSynchronized
  have hS : va_S A s.heap s.heap [] := va_S.rf
  have hl := lv_entry ([.ref h, .int t, .int k]) (n := 5) (Nat.le_of_ble_eq_true rfl)
  rw [lg_entry_eq]
  generalize (lg_sl ([.ref h, .int t, .int k]) ++ List.replicate (5 - (lg_sl ([.ref h, .int t, .int k])).length) Slot.unset).toArray = ls at hl ⊢
  have hl : lv_has ls 5 [(0, .ref h), (1, .int t), (2, .int k)] := hl
  refine lv_aload_n hx hb dL_awardOf_0 rfl (lv_at hl 0 rfl) ?_
  refine lv_iload_n hx hb dL_awardOf_1 rfl (lv_at hl 1 rfl) ?_
  refine lv_iload_n hx hb dL_awardOf_2 rfl (lv_at hl 2 rfl) ?_
  refine vx_calli (vx_runV (As := [.int t, .int k]) (rest := []) ⟨hx, hb, hml, hown, hts⟩ hMet (cwV 2 hts gL_awardOf_X8_awardOf rfl rfl rfl kd_X8_awardOf ⟨Nat.le_of_ble_eq_true rfl, Nat.le_of_ble_eq_true rfl⟩) ⟨cB_blind, c_recv hK hP rfl hm_1, cB_pre hK hG hA hS hP _⟩ rfl rfl hl.1 rfl (lv_room (Nat.le_of_ble_eq_true rfl)) dL_awardOf_3 ⟨Nat.le_of_eq (Nat.zero_add _), Nat.le_of_eq (Nat.zero_add _)⟩) hS (fun _ _ h => h) (fun _ h => h) (fun _ _ h => h) (fun E9 ce9 q9 u9 U8 H1 locs1 ht hvm hu hB hz1 hk1 hS1 hc1 hc2 hc3 => ?_) (fun r u U8 H1 locs1 ht hvm hu hB hz1 hk1 hS1 => ?_)
  · obtain ⟨hB1, hB2, hB3⟩ := hB
    rw [ht] at hB3
    simp only [List.mem_cons, List.not_mem_nil, or_false] at hk9S
    rcases hk9S with rfl | rfl
    · exact absurd rfl hB2
    · obtain rfl : E9 = "java/lang/IndexOutOfBoundsException" := hB1.trans rfl
      refine vx_catch (own := RL) (name := "java/lang/IndexOutOfBoundsException") hown [] ⟨0, 7, 10, 22⟩ [] htab (fun z hz => ?_) (by decide) (by decide) (hts (.classLink RL 22 "java/lang/IndexOutOfBoundsException") (List.mem_of_getElem? (i := 1) rfl)) (hG.2.2.2.2.2.2.1.1 ("java/lang/IndexOutOfBoundsException", "java/lang/IndexOutOfBoundsException") (by decide)) hc1 hc2 hc3 ?_
      · cases hz
      · refine lv_astore (lv' := [(4, .ref q9), (0, .ref h), (1, .int t), (2, .int k)]) hx hb dL_awardOf_10 hl (by decide) rfl (fun ls hl => ?_)
        refine lv_sipush (v := (-7100)) hx hb dL_awardOf_12 (by decide) ?_
        refine W.widen (k := 2) (n := 12) (Nat.le_of_eq (Nat.zero_add _)) (Nat.le_of_eq (Nat.zero_add _)) ?_
        exact W.iret (v := (-7100)) hx hb hr (fun U9 ht9 hW9 => ⟨⟨_, ws, rfl, ⟨by rw [← hk9]; rfl, hcx (fun e9 => absurd (hk9.trans e9) (by decide))⟩, by show va_P D vwCl ws U9.heap; rw [ht9]; exact hB3⟩, hS1.F ht9⟩) hS1.2.2 dL_awardOf_15 hlocks
  · obtain ⟨ek, hrv, hc2⟩ := hu
    replace hB : va_P D vwCl u U8.heap := hB
    rw [ht] at hB
    refine lv_istore_n (lv' := [(3, .int r), (0, .ref h), (1, .int t), (2, .int k)]) hx hb dL_awardOf_6 rfl hl (by decide) rfl (fun ls hl => ?_)
    refine lv_goto (tgt := 16) hx hb dL_awardOf_7 (by decide) ?_
    refine lv_iload_n hx hb dL_awardOf_16 rfl (lv_at hl 0 rfl) ?_
    refine W.widen (k := 2) (n := 12) (Nat.le_of_eq (Nat.zero_add _)) (Nat.le_of_eq (Nat.zero_add _)) ?_
    exact W.iret (v := r) hx hb hr (fun U9 ht9 hW9 => ⟨⟨_, u, rfl, ⟨by rw [hrv, ek]; rfl, hc2⟩, by show va_P D vwCl u U9.heap; rw [ht9]; exact hB⟩, hS1.F ht9⟩) hS1.2.2 dL_awardOf_17 hlocks
set_option maxHeartbeats 4000000 in
set_option maxRecDepth 100000 in
theorem cw_winner (l : Launch) (hst : l.stackTraces = false) (D : va_G) (cI cO cb : ClassId) (eA mi : Nat) (st : Nat → Nat) (dO dT : Nat) (vF : Value) {A : Nat → Prop} (ws : va_W) {h : Nat} {M : MS} (hc : cSt cI cO eA st A h M ws) (hM : MI M) (hs : sInj st) (i : Int32) : Met l yL_winner wsL_winner ({ frames := 8, cells := 1, slots := 6, locals := 123 }) (va_Pc [.ref h, .int i] (kB D cI cO cb eA mi st dO dT vF A ws)) (va_Qi (fun (ri : Int32) (u : va_W) => ri = er (k_aw M i) (r_winner M i) ∧ cSt cI cO eA st A h (M) u) (fun u U9 => va_P D vwCl u U9.heap) A) 1 6 A := by
  have hcx : k_aw M i ≠ 0 → cSt cI cO eA st A h (M) ws := fun _ => hc
  obtain ⟨k9, hk9, hk9S, hMet⟩ := cq_winner l hst D cI cO cb eA mi st ws hc hM hs i
  obtain ⟨own9, kd, F, L, hC, hW, ⟨tn, lo, aw, co, ct, ow, G⟩, hD⟩ := hc
  have hm_1 : (h, .inr (9, [.ref (F 0 h), .ref (F 1 h), .ref (F 2 h), .ref (F 3 h), .ref (F 4 h), .int (nI (F 5 h))])) ∈ ws := hC.at G.1.1 (by decide) (by decide)
  refine met_ofWH (cc := cL_winner) (maxL := 4) (ret := (some .int)) (hh := [(0, 6, 9, 22)]) (by decide) rfl ?_
  intro p e s m args below meth c s₁ B hml htab hv
  obtain ⟨rfl, ⟨hP, hK, ⟨hG, hGT⟩, hA⟩, hn1, hn2, hn3⟩ := hv
  have hx := B.exec
  have hb := B.bytes
  have hr := B.returns
  have hts := atoms_spec (ws := wsL_winner) B.pre
  have hown : s.vm.findClass RL = some m.cls := findClass_of_methodNamed B.named
  have hlocks := B.notSynchronized
  have hS : va_S A s.heap s.heap [] := va_S.rf
  have hl := lv_entry ([.ref h, .int i]) (n := 4) (Nat.le_of_ble_eq_true rfl)
  rw [lg_entry_eq]
  generalize (lg_sl ([.ref h, .int i]) ++ List.replicate (4 - (lg_sl ([.ref h, .int i])).length) Slot.unset).toArray = ls at hl ⊢
  have hl : lv_has ls 4 [(0, .ref h), (1, .int i)] := hl
  refine lv_aload_n hx hb dL_winner_0 rfl (lv_at hl 0 rfl) ?_
  refine lv_iload_n hx hb dL_winner_1 rfl (lv_at hl 1 rfl) ?_
  refine vx_calli (vx_runV (As := [.int i]) (rest := []) ⟨hx, hb, hml, hown, hts⟩ hMet (cwV 1 hts gL_winner_X8_winner rfl rfl rfl kd_X8_winner ⟨Nat.le_of_ble_eq_true rfl, Nat.le_of_ble_eq_true rfl⟩) ⟨cB_blind, c_recv hK hP rfl hm_1, cB_pre hK hG hA hS hP _⟩ rfl rfl hl.1 rfl (lv_room (Nat.le_of_ble_eq_true rfl)) dL_winner_2 ⟨Nat.le_of_eq (Nat.zero_add _), Nat.le_of_eq (Nat.zero_add _)⟩) hS (fun _ _ h => h) (fun _ h => h) (fun _ _ h => h) (fun E9 ce9 q9 u9 U8 H1 locs1 ht hvm hu hB hz1 hk1 hS1 hc1 hc2 hc3 => ?_) (fun r u U8 H1 locs1 ht hvm hu hB hz1 hk1 hS1 => ?_)
  · obtain ⟨hB1, hB2, hB3⟩ := hB
    rw [ht] at hB3
    simp only [List.mem_cons, List.not_mem_nil, or_false] at hk9S
    rcases hk9S with rfl | rfl
    · exact absurd rfl hB2
    · obtain rfl : E9 = "java/lang/IndexOutOfBoundsException" := hB1.trans rfl
      refine vx_catch (own := RL) (name := "java/lang/IndexOutOfBoundsException") hown [] ⟨0, 6, 9, 22⟩ [] htab (fun z hz => ?_) (by decide) (by decide) (hts (.classLink RL 22 "java/lang/IndexOutOfBoundsException") (List.mem_of_getElem? (i := 1) rfl)) (hG.2.2.2.2.2.2.1.1 ("java/lang/IndexOutOfBoundsException", "java/lang/IndexOutOfBoundsException") (by decide)) hc1 hc2 hc3 ?_
      · cases hz
      · refine lv_astore_n (lv' := [(3, .ref q9), (0, .ref h), (1, .int i)]) hx hb dL_winner_9 rfl hl (by decide) rfl (fun ls hl => ?_)
        refine lv_sipush (v := (-7100)) hx hb dL_winner_10 (by decide) ?_
        refine W.widen (k := 1) (n := 6) (Nat.le_of_eq (Nat.zero_add _)) (Nat.le_of_eq (Nat.zero_add _)) ?_
        exact W.iret (v := (-7100)) hx hb hr (fun U9 ht9 hW9 => ⟨⟨_, ws, rfl, ⟨by rw [← hk9]; rfl, hcx (fun e9 => absurd (hk9.trans e9) (by decide))⟩, by show va_P D vwCl ws U9.heap; rw [ht9]; exact hB3⟩, hS1.F ht9⟩) hS1.2.2 dL_winner_13 hlocks
  · obtain ⟨ek, hrv, hc2⟩ := hu
    replace hB : va_P D vwCl u U8.heap := hB
    rw [ht] at hB
    refine lv_istore_n (lv' := [(2, .int r), (0, .ref h), (1, .int i)]) hx hb dL_winner_5 rfl hl (by decide) rfl (fun ls hl => ?_)
    refine lv_goto (tgt := 14) hx hb dL_winner_6 (by decide) ?_
    refine lv_iload_n hx hb dL_winner_14 rfl (lv_at hl 0 rfl) ?_
    refine W.widen (k := 1) (n := 6) (Nat.le_of_eq (Nat.zero_add _)) (Nat.le_of_eq (Nat.zero_add _)) ?_
    exact W.iret (v := r) hx hb hr (fun U9 ht9 hW9 => ⟨⟨_, u, rfl, ⟨by rw [hrv, ek]; rfl, hc2⟩, by show va_P D vwCl u U9.heap; rw [ht9]; exact hB⟩, hS1.F ht9⟩) hS1.2.2 dL_winner_15 hlocks
set_option maxHeartbeats 4000000 in
set_option maxRecDepth 100000 in
theorem cw_isVoid (l : Launch) (hst : l.stackTraces = false) (D : va_G) (cI cO cb : ClassId) (eA mi : Nat) (st : Nat → Nat) (dO dT : Nat) (vF : Value) {A : Nat → Prop} (ws : va_W) {h : Nat} {M : MS} (hc : cSt cI cO eA st A h M ws) (hM : MI M) (hs : sInj st) (i : Int32) : Met l yL_isVoid wsL_isVoid ({ frames := 8, cells := 1, slots := 6, locals := 123 }) (va_Pc [.ref h, .int i] (kB D cI cO cb eA mi st dO dT vF A ws)) (va_Qi (fun (ri : Int32) (u : va_W) => ri = er (k_aw M i) (bi (r_isVoid M i)) ∧ cSt cI cO eA st A h (M) u) (fun u U9 => va_P D vwCl u U9.heap) A) 1 6 A := by
  have hcx : k_aw M i ≠ 0 → cSt cI cO eA st A h (M) ws := fun _ => hc
  obtain ⟨k9, hk9, hk9S, hMet⟩ := cq_isVoid l hst D cI cO cb eA mi st ws hc hM hs i
  obtain ⟨own9, kd, F, L, hC, hW, ⟨tn, lo, aw, co, ct, ow, G⟩, hD⟩ := hc
  have hm_1 : (h, .inr (9, [.ref (F 0 h), .ref (F 1 h), .ref (F 2 h), .ref (F 3 h), .ref (F 4 h), .int (nI (F 5 h))])) ∈ ws := hC.at G.1.1 (by decide) (by decide)
  refine met_ofWH (cc := cL_isVoid) (maxL := 4) (ret := (some .int)) (hh := [(0, 6, 9, 22)]) (by decide) rfl ?_
  intro p e s m args below meth c s₁ B hml htab hv
  obtain ⟨rfl, ⟨hP, hK, ⟨hG, hGT⟩, hA⟩, hn1, hn2, hn3⟩ := hv
  have hx := B.exec
  have hb := B.bytes
  have hr := B.returns
  have hts := atoms_spec (ws := wsL_isVoid) B.pre
  have hown : s.vm.findClass RL = some m.cls := findClass_of_methodNamed B.named
  have hlocks := B.notSynchronized
  have hS : va_S A s.heap s.heap [] := va_S.rf
  have hl := lv_entry ([.ref h, .int i]) (n := 4) (Nat.le_of_ble_eq_true rfl)
  rw [lg_entry_eq]
  generalize (lg_sl ([.ref h, .int i]) ++ List.replicate (4 - (lg_sl ([.ref h, .int i])).length) Slot.unset).toArray = ls at hl ⊢
  have hl : lv_has ls 4 [(0, .ref h), (1, .int i)] := hl
  refine lv_aload_n hx hb dL_isVoid_0 rfl (lv_at hl 0 rfl) ?_
  refine lv_iload_n hx hb dL_isVoid_1 rfl (lv_at hl 1 rfl) ?_
  refine vx_calli (vx_runV (As := [.int i]) (rest := []) ⟨hx, hb, hml, hown, hts⟩ hMet (cwV 1 hts gL_isVoid_X8_isVoid rfl rfl rfl kd_X8_isVoid ⟨Nat.le_of_ble_eq_true rfl, Nat.le_of_ble_eq_true rfl⟩) ⟨cB_blind, c_recv hK hP rfl hm_1, cB_pre hK hG hA hS hP _⟩ rfl rfl hl.1 rfl (lv_room (Nat.le_of_ble_eq_true rfl)) dL_isVoid_2 ⟨Nat.le_of_eq (Nat.zero_add _), Nat.le_of_eq (Nat.zero_add _)⟩) hS (fun _ _ h => h) (fun _ h => h) (fun _ _ h => h) (fun E9 ce9 q9 u9 U8 H1 locs1 ht hvm hu hB hz1 hk1 hS1 hc1 hc2 hc3 => ?_) (fun r u U8 H1 locs1 ht hvm hu hB hz1 hk1 hS1 => ?_)
  · obtain ⟨hB1, hB2, hB3⟩ := hB
    rw [ht] at hB3
    simp only [List.mem_cons, List.not_mem_nil, or_false] at hk9S
    rcases hk9S with rfl | rfl
    · exact absurd rfl hB2
    · obtain rfl : E9 = "java/lang/IndexOutOfBoundsException" := hB1.trans rfl
      refine vx_catch (own := RL) (name := "java/lang/IndexOutOfBoundsException") hown [] ⟨0, 6, 9, 22⟩ [] htab (fun z hz => ?_) (by decide) (by decide) (hts (.classLink RL 22 "java/lang/IndexOutOfBoundsException") (List.mem_of_getElem? (i := 1) rfl)) (hG.2.2.2.2.2.2.1.1 ("java/lang/IndexOutOfBoundsException", "java/lang/IndexOutOfBoundsException") (by decide)) hc1 hc2 hc3 ?_
      · cases hz
      · refine lv_astore_n (lv' := [(3, .ref q9), (0, .ref h), (1, .int i)]) hx hb dL_isVoid_9 rfl hl (by decide) rfl (fun ls hl => ?_)
        refine lv_sipush (v := (-7100)) hx hb dL_isVoid_10 (by decide) ?_
        refine W.widen (k := 1) (n := 6) (Nat.le_of_eq (Nat.zero_add _)) (Nat.le_of_eq (Nat.zero_add _)) ?_
        exact W.iret (v := (-7100)) hx hb hr (fun U9 ht9 hW9 => ⟨⟨_, ws, rfl, ⟨by rw [← hk9]; rfl, hcx (fun e9 => absurd (hk9.trans e9) (by decide))⟩, by show va_P D vwCl ws U9.heap; rw [ht9]; exact hB3⟩, hS1.F ht9⟩) hS1.2.2 dL_isVoid_13 hlocks
  · obtain ⟨ek, hrv, hc2⟩ := hu
    replace hB : va_P D vwCl u U8.heap := hB
    rw [ht] at hB
    refine lv_istore_n (lv' := [(2, .int r), (0, .ref h), (1, .int i)]) hx hb dL_isVoid_5 rfl hl (by decide) rfl (fun ls hl => ?_)
    refine lv_goto (tgt := 14) hx hb dL_isVoid_6 (by decide) ?_
    refine lv_iload_n hx hb dL_isVoid_14 rfl (lv_at hl 0 rfl) ?_
    subst hrv
    refine b_if_eq (tgt := 22) hx hb dL_isVoid_15 (by decide) (fun c9 => ?_) (fun c9 => ?_)
    · refine lv_iconst (v := nI 0) hx hb dL_isVoid_22 (by decide) ?_
      refine W.widen (k := 1) (n := 6) (Nat.le_of_eq (Nat.zero_add _)) (Nat.le_of_eq (Nat.zero_add _)) ?_
      exact W.iret (v := nI 0) hx hb hr (fun U9 ht9 hW9 => ⟨⟨_, u, rfl, ⟨by rw [ek, c9]; rfl, hc2⟩, by show va_P D vwCl u U9.heap; rw [ht9]; exact hB⟩, hS1.F ht9⟩) hS1.2.2 dL_isVoid_23 hlocks
    · refine lv_iconst (v := nI 1) hx hb dL_isVoid_18 (by decide) ?_
      refine lv_goto (tgt := 23) hx hb dL_isVoid_19 (by decide) ?_
      refine W.widen (k := 1) (n := 6) (Nat.le_of_eq (Nat.zero_add _)) (Nat.le_of_eq (Nat.zero_add _)) ?_
      exact W.iret (v := nI 1) hx hb hr (fun U9 ht9 hW9 => ⟨⟨_, u, rfl, ⟨by rw [ek, c9]; rfl, hc2⟩, by show va_P D vwCl u U9.heap; rw [ht9]; exact hB⟩, hS1.F ht9⟩) hS1.2.2 dL_isVoid_23 hlocks
set_option maxHeartbeats 4000000 in
set_option maxRecDepth 100000 in
theorem cw_isFinal (l : Launch) (hst : l.stackTraces = false) (D : va_G) (cI cO cb : ClassId) (eA mi : Nat) (st : Nat → Nat) (dO dT : Nat) (vF : Value) {A : Nat → Prop} (ws : va_W) {h : Nat} {M : MS} (hc : cSt cI cO eA st A h M ws) (hM : MI M) (hs : sInj st) (i : Int32) : Met l yL_isFinal wsL_isFinal ({ frames := 8, cells := 1, slots := 6, locals := 130 }) (va_Pc [.ref h, .int i] (kB D cI cO cb eA mi st dO dT vF A ws)) (va_Qi (fun (ri : Int32) (u : va_W) => ri = er (k_aw M i) (bi (r_isFinal M i)) ∧ cSt cI cO eA st A h (M) u) (fun u U9 => va_P D vwCl u U9.heap) A) 1 6 A := by
  have hcx : k_aw M i ≠ 0 → cSt cI cO eA st A h (M) ws := fun _ => hc
  obtain ⟨k9, hk9, hk9S, hMet⟩ := cq_isFinal l hst D cI cO cb eA mi st ws hc hM hs i
  obtain ⟨own9, kd, F, L, hC, hW, ⟨tn, lo, aw, co, ct, ow, G⟩, hD⟩ := hc
  have hm_1 : (h, .inr (9, [.ref (F 0 h), .ref (F 1 h), .ref (F 2 h), .ref (F 3 h), .ref (F 4 h), .int (nI (F 5 h))])) ∈ ws := hC.at G.1.1 (by decide) (by decide)
  refine met_ofWH (cc := cL_isFinal) (maxL := 4) (ret := (some .int)) (hh := [(0, 6, 9, 22)]) (by decide) rfl ?_
  intro p e s m args below meth c s₁ B hml htab hv
  obtain ⟨rfl, ⟨hP, hK, ⟨hG, hGT⟩, hA⟩, hn1, hn2, hn3⟩ := hv
  have hx := B.exec
  have hb := B.bytes
  have hr := B.returns
  have hts := atoms_spec (ws := wsL_isFinal) B.pre
  have hown : s.vm.findClass RL = some m.cls := findClass_of_methodNamed B.named
  have hlocks := B.notSynchronized
  have hS : va_S A s.heap s.heap [] := va_S.rf
  have hl := lv_entry ([.ref h, .int i]) (n := 4) (Nat.le_of_ble_eq_true rfl)
  rw [lg_entry_eq]
  generalize (lg_sl ([.ref h, .int i]) ++ List.replicate (4 - (lg_sl ([.ref h, .int i])).length) Slot.unset).toArray = ls at hl ⊢
  have hl : lv_has ls 4 [(0, .ref h), (1, .int i)] := hl
  refine lv_aload_n hx hb dL_isFinal_0 rfl (lv_at hl 0 rfl) ?_
  refine lv_iload_n hx hb dL_isFinal_1 rfl (lv_at hl 1 rfl) ?_
  refine vx_calli (vx_runV (As := [.int i]) (rest := []) ⟨hx, hb, hml, hown, hts⟩ hMet (cwV 1 hts gL_isFinal_X8_isFinal rfl rfl rfl kd_X8_isFinal ⟨Nat.le_of_ble_eq_true rfl, Nat.le_of_ble_eq_true rfl⟩) ⟨cB_blind, c_recv hK hP rfl hm_1, cB_pre hK hG hA hS hP _⟩ rfl rfl hl.1 rfl (lv_room (Nat.le_of_ble_eq_true rfl)) dL_isFinal_2 ⟨Nat.le_of_eq (Nat.zero_add _), Nat.le_of_eq (Nat.zero_add _)⟩) hS (fun _ _ h => h) (fun _ h => h) (fun _ _ h => h) (fun E9 ce9 q9 u9 U8 H1 locs1 ht hvm hu hB hz1 hk1 hS1 hc1 hc2 hc3 => ?_) (fun r u U8 H1 locs1 ht hvm hu hB hz1 hk1 hS1 => ?_)
  · obtain ⟨hB1, hB2, hB3⟩ := hB
    rw [ht] at hB3
    simp only [List.mem_cons, List.not_mem_nil, or_false] at hk9S
    rcases hk9S with rfl | rfl
    · exact absurd rfl hB2
    · obtain rfl : E9 = "java/lang/IndexOutOfBoundsException" := hB1.trans rfl
      refine vx_catch (own := RL) (name := "java/lang/IndexOutOfBoundsException") hown [] ⟨0, 6, 9, 22⟩ [] htab (fun z hz => ?_) (by decide) (by decide) (hts (.classLink RL 22 "java/lang/IndexOutOfBoundsException") (List.mem_of_getElem? (i := 1) rfl)) (hG.2.2.2.2.2.2.1.1 ("java/lang/IndexOutOfBoundsException", "java/lang/IndexOutOfBoundsException") (by decide)) hc1 hc2 hc3 ?_
      · cases hz
      · refine lv_astore_n (lv' := [(3, .ref q9), (0, .ref h), (1, .int i)]) hx hb dL_isFinal_9 rfl hl (by decide) rfl (fun ls hl => ?_)
        refine lv_sipush (v := (-7100)) hx hb dL_isFinal_10 (by decide) ?_
        refine W.widen (k := 1) (n := 6) (Nat.le_of_eq (Nat.zero_add _)) (Nat.le_of_eq (Nat.zero_add _)) ?_
        exact W.iret (v := (-7100)) hx hb hr (fun U9 ht9 hW9 => ⟨⟨_, ws, rfl, ⟨by rw [← hk9]; rfl, hcx (fun e9 => absurd (hk9.trans e9) (by decide))⟩, by show va_P D vwCl ws U9.heap; rw [ht9]; exact hB3⟩, hS1.F ht9⟩) hS1.2.2 dL_isFinal_13 hlocks
  · obtain ⟨ek, hrv, hc2⟩ := hu
    replace hB : va_P D vwCl u U8.heap := hB
    rw [ht] at hB
    refine lv_istore_n (lv' := [(2, .int r), (0, .ref h), (1, .int i)]) hx hb dL_isFinal_5 rfl hl (by decide) rfl (fun ls hl => ?_)
    refine lv_goto (tgt := 14) hx hb dL_isFinal_6 (by decide) ?_
    refine lv_iload_n hx hb dL_isFinal_14 rfl (lv_at hl 0 rfl) ?_
    subst hrv
    refine b_if_eq (tgt := 22) hx hb dL_isFinal_15 (by decide) (fun c9 => ?_) (fun c9 => ?_)
    · refine lv_iconst (v := nI 0) hx hb dL_isFinal_22 (by decide) ?_
      refine W.widen (k := 1) (n := 6) (Nat.le_of_eq (Nat.zero_add _)) (Nat.le_of_eq (Nat.zero_add _)) ?_
      exact W.iret (v := nI 0) hx hb hr (fun U9 ht9 hW9 => ⟨⟨_, u, rfl, ⟨by rw [ek, c9]; rfl, hc2⟩, by show va_P D vwCl u U9.heap; rw [ht9]; exact hB⟩, hS1.F ht9⟩) hS1.2.2 dL_isFinal_23 hlocks
    · refine lv_iconst (v := nI 1) hx hb dL_isFinal_18 (by decide) ?_
      refine lv_goto (tgt := 23) hx hb dL_isFinal_19 (by decide) ?_
      refine W.widen (k := 1) (n := 6) (Nat.le_of_eq (Nat.zero_add _)) (Nat.le_of_eq (Nat.zero_add _)) ?_
      exact W.iret (v := nI 1) hx hb hr (fun U9 ht9 hW9 => ⟨⟨_, u, rfl, ⟨by rw [ek, c9]; rfl, hc2⟩, by show va_P D vwCl u U9.heap; rw [ht9]; exact hB⟩, hS1.F ht9⟩) hS1.2.2 dL_isFinal_23 hlocks
set_option maxHeartbeats 4000000 in
set_option maxRecDepth 100000 in
theorem cw_winnerAnew (l : Launch) (hst : l.stackTraces = false) (D : va_G) (cI cO cb : ClassId) (eA mi : Nat) (st : Nat → Nat) (dO dT : Nat) (vF : Value) {A : Nat → Prop} (ws : va_W) {h : Nat} {M : MS} (hc : cSt cI cO eA st A h M ws) (hM : MI M) (hs : sInj st) (t : Int32) (k : Int32) : Met l yL_winnerAnew wsL_winnerAnew ({ frames := 9, cells := 21, slots := 839, locals := 236 }) (va_Pc [.ref h, .int t, .int k] (kB D cI cO cb eA mi st dO dT vF A ws)) (va_Qi (fun (ri : Int32) (u : va_W) => ri = er (k_lot M t k) (r_winnerAnew M t k) ∧ cSt cI cO eA st A h (M) u) (fun u U9 => va_P D vwCl u U9.heap) A) 21 839 A := by
  have hcx : k_lot M t k ≠ 0 → cSt cI cO eA st A h (M) ws := fun _ => hc
  obtain ⟨k9, hk9, hk9S, hMet⟩ := cq_winnerAnew l hst D cI cO cb eA mi st ws hc hM hs t k
  obtain ⟨own9, kd, F, L, hC, hW, ⟨tn, lo, aw, co, ct, ow, G⟩, hD⟩ := hc
  have hm_1 : (h, .inr (9, [.ref (F 0 h), .ref (F 1 h), .ref (F 2 h), .ref (F 3 h), .ref (F 4 h), .int (nI (F 5 h))])) ∈ ws := hC.at G.1.1 (by decide) (by decide)
  refine met_ofWH (cc := cL_winnerAnew) (maxL := 5) (ret := (some .int)) (hh := [(0, 7, 10, 22)]) (by decide) rfl ?_
  intro p e s m args below meth c s₁ B hml htab hv
  obtain ⟨rfl, ⟨hP, hK, ⟨hG, hGT⟩, hA⟩, hn1, hn2, hn3⟩ := hv
  have hx := B.exec
  have hb := B.bytes
  have hr := B.returns
  have hts := atoms_spec (ws := wsL_winnerAnew) B.pre
  have hown : s.vm.findClass RL = some m.cls := findClass_of_methodNamed B.named
  have hlocks := B.notSynchronized
  have hS : va_S A s.heap s.heap [] := va_S.rf
  have hl := lv_entry ([.ref h, .int t, .int k]) (n := 5) (Nat.le_of_ble_eq_true rfl)
  rw [lg_entry_eq]
  generalize (lg_sl ([.ref h, .int t, .int k]) ++ List.replicate (5 - (lg_sl ([.ref h, .int t, .int k])).length) Slot.unset).toArray = ls at hl ⊢
  have hl : lv_has ls 5 [(0, .ref h), (1, .int t), (2, .int k)] := hl
  refine lv_aload_n hx hb dL_winnerAnew_0 rfl (lv_at hl 0 rfl) ?_
  refine lv_iload_n hx hb dL_winnerAnew_1 rfl (lv_at hl 1 rfl) ?_
  refine lv_iload_n hx hb dL_winnerAnew_2 rfl (lv_at hl 2 rfl) ?_
  refine vx_calli (vx_runV (As := [.int t, .int k]) (rest := []) ⟨hx, hb, hml, hown, hts⟩ hMet (cwV 2 hts gL_winnerAnew_X8_winnerAnew rfl rfl rfl kd_X8_winnerAnew ⟨Nat.le_of_ble_eq_true rfl, Nat.le_of_ble_eq_true rfl⟩) ⟨cB_blind, c_recv hK hP rfl hm_1, cB_pre hK hG hA hS hP _⟩ rfl rfl hl.1 rfl (lv_room (Nat.le_of_ble_eq_true rfl)) dL_winnerAnew_3 ⟨Nat.le_of_eq (Nat.zero_add _), Nat.le_of_eq (Nat.zero_add _)⟩) hS (fun _ _ h => h) (fun _ h => h) (fun _ _ h => h) (fun E9 ce9 q9 u9 U8 H1 locs1 ht hvm hu hB hz1 hk1 hS1 hc1 hc2 hc3 => ?_) (fun r u U8 H1 locs1 ht hvm hu hB hz1 hk1 hS1 => ?_)
  · obtain ⟨hB1, hB2, hB3⟩ := hB
    rw [ht] at hB3
    simp only [List.mem_cons, List.not_mem_nil, or_false] at hk9S
    rcases hk9S with rfl | rfl
    · exact absurd rfl hB2
    · obtain rfl : E9 = "java/lang/IndexOutOfBoundsException" := hB1.trans rfl
      refine vx_catch (own := RL) (name := "java/lang/IndexOutOfBoundsException") hown [] ⟨0, 7, 10, 22⟩ [] htab (fun z hz => ?_) (by decide) (by decide) (hts (.classLink RL 22 "java/lang/IndexOutOfBoundsException") (List.mem_of_getElem? (i := 1) rfl)) (hG.2.2.2.2.2.2.1.1 ("java/lang/IndexOutOfBoundsException", "java/lang/IndexOutOfBoundsException") (by decide)) hc1 hc2 hc3 ?_
      · cases hz
      · refine lv_astore (lv' := [(4, .ref q9), (0, .ref h), (1, .int t), (2, .int k)]) hx hb dL_winnerAnew_10 hl (by decide) rfl (fun ls hl => ?_)
        refine lv_sipush (v := (-7100)) hx hb dL_winnerAnew_12 (by decide) ?_
        refine W.widen (k := 21) (n := 839) (Nat.le_of_eq (Nat.zero_add _)) (Nat.le_of_eq (Nat.zero_add _)) ?_
        exact W.iret (v := (-7100)) hx hb hr (fun U9 ht9 hW9 => ⟨⟨_, ws, rfl, ⟨by rw [← hk9]; rfl, hcx (fun e9 => absurd (hk9.trans e9) (by decide))⟩, by show va_P D vwCl ws U9.heap; rw [ht9]; exact hB3⟩, hS1.F ht9⟩) hS1.2.2 dL_winnerAnew_15 hlocks
  · obtain ⟨ek, hrv, hc2⟩ := hu
    replace hB : va_P D vwCl u U8.heap := hB
    rw [ht] at hB
    refine lv_istore_n (lv' := [(3, .int r), (0, .ref h), (1, .int t), (2, .int k)]) hx hb dL_winnerAnew_6 rfl hl (by decide) rfl (fun ls hl => ?_)
    refine lv_goto (tgt := 16) hx hb dL_winnerAnew_7 (by decide) ?_
    refine lv_iload_n hx hb dL_winnerAnew_16 rfl (lv_at hl 0 rfl) ?_
    refine W.widen (k := 21) (n := 839) (Nat.le_of_eq (Nat.zero_add _)) (Nat.le_of_eq (Nat.zero_add _)) ?_
    exact W.iret (v := r) hx hb hr (fun U9 ht9 hW9 => ⟨⟨_, u, rfl, ⟨by rw [hrv, ek]; rfl, hc2⟩, by show va_P D vwCl u U9.heap; rw [ht9]; exact hB⟩, hS1.F ht9⟩) hS1.2.2 dL_winnerAnew_17 hlocks
set_option maxHeartbeats 4000000 in
set_option maxRecDepth 100000 in
theorem cw_line (l : Launch) (hst : l.stackTraces = false) (D : va_G) (cI cO cb : ClassId) (eA mi : Nat) (st : Nat → Nat) (dO dT : Nat) (vF : Value) {A : Nat → Prop} (ws : va_W) {h : Nat} {M : MS} (hc : cSt cI cO eA st A h M ws) (hM : MI M) (hs : sInj st) (i : Int32) : Met l yL_line wsL_line ({ frames := 8, cells := 3, slots := 26, locals := 152 }) (va_Pc [.ref h, .int i] (kB D cI cO cb eA mi st dO dT vF A ws)) (va_Qi (fun (ri : Int32) (u : va_W) => ri = er (k_aw M i) (r_line M i) ∧ cSt cI cO eA st A h (g_line M i) u) (fun u U9 => va_P D vwCl u U9.heap) A) 3 26 A := by
  have hcx : k_aw M i ≠ 0 → cSt cI cO eA st A h (g_line M i) ws := fun _ => by
    obtain ⟨o9, kd, F, L, a1, a2, ⟨t1, t2, t3, t4, t5, t6, G⟩, a4⟩ := hc
    exact ⟨o9, kd, F, L, a1, a2, ⟨_, _, _, _, _, _, G.ln a2 (g_line_nf M i)⟩, a4⟩
  obtain ⟨k9, hk9, hk9S, hMet⟩ := cq_line l hst D cI cO cb eA mi st dO dT vF ws hc hM hs i
  obtain ⟨own9, kd, F, L, hC, hW, ⟨tn, lo, aw, co, ct, ow, G⟩, hD⟩ := hc
  have hm_1 : (h, .inr (9, [.ref (F 0 h), .ref (F 1 h), .ref (F 2 h), .ref (F 3 h), .ref (F 4 h), .int (nI (F 5 h))])) ∈ ws := hC.at G.1.1 (by decide) (by decide)
  refine met_ofWH (cc := cL_line) (maxL := 4) (ret := (some .int)) (hh := [(0, 6, 9, 22)]) (by decide) rfl ?_
  intro p e s m args below meth c s₁ B hml htab hv
  obtain ⟨rfl, ⟨hP, hK, ⟨hG, hGT⟩, hA⟩, hn1, hn2, hn3⟩ := hv
  have hx := B.exec
  have hb := B.bytes
  have hr := B.returns
  have hts := atoms_spec (ws := wsL_line) B.pre
  have hown : s.vm.findClass RL = some m.cls := findClass_of_methodNamed B.named
  have hlocks := B.notSynchronized
  have hS : va_S A s.heap s.heap [] := va_S.rf
  have hl := lv_entry ([.ref h, .int i]) (n := 4) (Nat.le_of_ble_eq_true rfl)
  rw [lg_entry_eq]
  generalize (lg_sl ([.ref h, .int i]) ++ List.replicate (4 - (lg_sl ([.ref h, .int i])).length) Slot.unset).toArray = ls at hl ⊢
  have hl : lv_has ls 4 [(0, .ref h), (1, .int i)] := hl
  refine lv_aload_n hx hb dL_line_0 rfl (lv_at hl 0 rfl) ?_
  refine lv_iload_n hx hb dL_line_1 rfl (lv_at hl 1 rfl) ?_
  refine vx_calli (vx_runV (As := [.int i]) (rest := []) ⟨hx, hb, hml, hown, hts⟩ hMet (cwV 1 hts gL_line_X8_line rfl rfl rfl kd_X8_line ⟨Nat.le_of_ble_eq_true rfl, Nat.le_of_ble_eq_true rfl⟩) ⟨cT_blind, c_recv hK hP rfl hm_1, cT_pre hK hG hGT hA hS hP _⟩ rfl rfl hl.1 rfl (lv_room (Nat.le_of_ble_eq_true rfl)) dL_line_2 ⟨Nat.le_of_eq (Nat.zero_add _), Nat.le_of_eq (Nat.zero_add _)⟩) hS (fun _ _ h => h) (fun _ h => h) (fun _ _ h => h) (fun E9 ce9 q9 u9 U8 H1 locs1 ht hvm hu hB hz1 hk1 hS1 hc1 hc2 hc3 => ?_) (fun r u U8 H1 locs1 ht hvm hu hB hz1 hk1 hS1 => ?_)
  · obtain ⟨hB1, hB2, hB3⟩ := hB
    rw [ht] at hB3
    simp only [List.mem_cons, List.not_mem_nil, or_false] at hk9S
    rcases hk9S with rfl | rfl
    · exact absurd rfl hB2
    · obtain rfl : E9 = "java/lang/IndexOutOfBoundsException" := hB1.trans rfl
      refine vx_catch (own := RL) (name := "java/lang/IndexOutOfBoundsException") hown [] ⟨0, 6, 9, 22⟩ [] htab (fun z hz => ?_) (by decide) (by decide) (hts (.classLink RL 22 "java/lang/IndexOutOfBoundsException") (List.mem_of_getElem? (i := 1) rfl)) (hG.2.2.2.2.2.2.1.1 ("java/lang/IndexOutOfBoundsException", "java/lang/IndexOutOfBoundsException") (by decide)) hc1 hc2 hc3 ?_
      · cases hz
      · refine lv_astore_n (lv' := [(3, .ref q9), (0, .ref h), (1, .int i)]) hx hb dL_line_9 rfl hl (by decide) rfl (fun ls hl => ?_)
        refine lv_sipush (v := (-7100)) hx hb dL_line_10 (by decide) ?_
        refine W.widen (k := 3) (n := 26) (Nat.le_of_eq (Nat.zero_add _)) (Nat.le_of_eq (Nat.zero_add _)) ?_
        exact W.iret (v := (-7100)) hx hb hr (fun U9 ht9 hW9 => ⟨⟨_, ws, rfl, ⟨by rw [← hk9]; rfl, hcx (fun e9 => absurd (hk9.trans e9) (by decide))⟩, by show va_P D vwCl ws U9.heap; rw [ht9]; exact hB3⟩, hS1.F ht9⟩) hS1.2.2 dL_line_13 hlocks
  · obtain ⟨ek, hrv, hc2⟩ := hu
    replace hB : va_P D vwCl u U8.heap := hB
    rw [ht] at hB
    refine lv_istore_n (lv' := [(2, .int r), (0, .ref h), (1, .int i)]) hx hb dL_line_5 rfl hl (by decide) rfl (fun ls hl => ?_)
    refine lv_goto (tgt := 14) hx hb dL_line_6 (by decide) ?_
    refine lv_iload_n hx hb dL_line_14 rfl (lv_at hl 0 rfl) ?_
    refine W.widen (k := 3) (n := 26) (Nat.le_of_eq (Nat.zero_add _)) (Nat.le_of_eq (Nat.zero_add _)) ?_
    exact W.iret (v := r) hx hb hr (fun U9 ht9 hW9 => ⟨⟨_, u, rfl, ⟨by rw [hrv, ek]; rfl, hc2⟩, by show va_P D vwCl u U9.heap; rw [ht9]; exact hB⟩, hS1.F ht9⟩) hS1.2.2 dL_line_15 hlocks
set_option maxHeartbeats 4000000 in
set_option maxRecDepth 100000 in
theorem cw_lineChar (l : Launch) (hst : l.stackTraces = false) (D : va_G) (cI cO cb : ClassId) (eA mi : Nat) (st : Nat → Nat) (dO dT : Nat) (vF : Value) {A : Nat → Prop} (ws : va_W) {h : Nat} {M : MS} (hc : cSt cI cO eA st A h M ws) (hM : MI M) (hs : sInj st) (i : Int32) (pl : Int32) : Met l yL_lineChar wsL_lineChar ({ frames := 8, cells := 4, slots := 32, locals := 154 }) (va_Pc [.ref h, .int i, .int pl] (kB D cI cO cb eA mi st dO dT vF A ws)) (va_Qi (fun (ri : Int32) (u : va_W) => ri = er (k_lineChar M i pl) (r_lineChar M i pl) ∧ cSt cI cO eA st A h (g_line M i) u) (fun u U9 => va_P D vwCl u U9.heap) A) 4 32 A := by
  have hcx : k_lineChar M i pl ≠ 0 → cSt cI cO eA st A h (g_line M i) ws := fun _ => by
    obtain ⟨o9, kd, F, L, a1, a2, ⟨t1, t2, t3, t4, t5, t6, G⟩, a4⟩ := hc
    exact ⟨o9, kd, F, L, a1, a2, ⟨_, _, _, _, _, _, G.ln a2 (g_line_nf M i)⟩, a4⟩
  obtain ⟨k9, hk9, hk9S, hMet⟩ := cq_lineChar l hst D cI cO cb eA mi st dO dT vF ws hc hM hs i pl
  obtain ⟨own9, kd, F, L, hC, hW, ⟨tn, lo, aw, co, ct, ow, G⟩, hD⟩ := hc
  have hm_1 : (h, .inr (9, [.ref (F 0 h), .ref (F 1 h), .ref (F 2 h), .ref (F 3 h), .ref (F 4 h), .int (nI (F 5 h))])) ∈ ws := hC.at G.1.1 (by decide) (by decide)
  refine met_ofWH (cc := cL_lineChar) (maxL := 5) (ret := (some .int)) (hh := [(0, 7, 10, 22)]) (by decide) rfl ?_
  intro p e s m args below meth c s₁ B hml htab hv
  obtain ⟨rfl, ⟨hP, hK, ⟨hG, hGT⟩, hA⟩, hn1, hn2, hn3⟩ := hv
  have hx := B.exec
  have hb := B.bytes
  have hr := B.returns
  have hts := atoms_spec (ws := wsL_lineChar) B.pre
  have hown : s.vm.findClass RL = some m.cls := findClass_of_methodNamed B.named
  have hlocks := B.notSynchronized
  have hS : va_S A s.heap s.heap [] := va_S.rf
  have hl := lv_entry ([.ref h, .int i, .int pl]) (n := 5) (Nat.le_of_ble_eq_true rfl)
  rw [lg_entry_eq]
  generalize (lg_sl ([.ref h, .int i, .int pl]) ++ List.replicate (5 - (lg_sl ([.ref h, .int i, .int pl])).length) Slot.unset).toArray = ls at hl ⊢
  have hl : lv_has ls 5 [(0, .ref h), (1, .int i), (2, .int pl)] := hl
  refine lv_aload_n hx hb dL_lineChar_0 rfl (lv_at hl 0 rfl) ?_
  refine lv_iload_n hx hb dL_lineChar_1 rfl (lv_at hl 1 rfl) ?_
  refine lv_iload_n hx hb dL_lineChar_2 rfl (lv_at hl 2 rfl) ?_
  refine vx_calli (vx_runV (As := [.int i, .int pl]) (rest := []) ⟨hx, hb, hml, hown, hts⟩ hMet (cwV 2 hts gL_lineChar_X8_lineChar rfl rfl rfl kd_X8_lineChar ⟨Nat.le_of_ble_eq_true rfl, Nat.le_of_ble_eq_true rfl⟩) ⟨cT_blind, c_recv hK hP rfl hm_1, cT_pre hK hG hGT hA hS hP _⟩ rfl rfl hl.1 rfl (lv_room (Nat.le_of_ble_eq_true rfl)) dL_lineChar_3 ⟨Nat.le_of_eq (Nat.zero_add _), Nat.le_of_eq (Nat.zero_add _)⟩) hS (fun _ _ h => h) (fun _ h => h) (fun _ _ h => h) (fun E9 ce9 q9 u9 U8 H1 locs1 ht hvm hu hB hz1 hk1 hS1 hc1 hc2 hc3 => ?_) (fun r u U8 H1 locs1 ht hvm hu hB hz1 hk1 hS1 => ?_)
  · obtain ⟨hB1, hB2, hB3⟩ := hB
    rw [ht] at hB3
    simp only [List.mem_cons, List.not_mem_nil, or_false] at hk9S
    rcases hk9S with rfl | rfl
    · exact absurd rfl hB2
    · obtain rfl : E9 = "java/lang/IndexOutOfBoundsException" := hB1.trans rfl
      refine vx_catch (own := RL) (name := "java/lang/IndexOutOfBoundsException") hown [] ⟨0, 7, 10, 22⟩ [] htab (fun z hz => ?_) (by decide) (by decide) (hts (.classLink RL 22 "java/lang/IndexOutOfBoundsException") (List.mem_of_getElem? (i := 1) rfl)) (hG.2.2.2.2.2.2.1.1 ("java/lang/IndexOutOfBoundsException", "java/lang/IndexOutOfBoundsException") (by decide)) hc1 hc2 hc3 ?_
      · cases hz
      · refine lv_astore (lv' := [(4, .ref q9), (0, .ref h), (1, .int i), (2, .int pl)]) hx hb dL_lineChar_10 hl (by decide) rfl (fun ls hl => ?_)
        refine lv_sipush (v := (-7100)) hx hb dL_lineChar_12 (by decide) ?_
        refine W.widen (k := 4) (n := 32) (Nat.le_of_eq (Nat.zero_add _)) (Nat.le_of_eq (Nat.zero_add _)) ?_
        exact W.iret (v := (-7100)) hx hb hr (fun U9 ht9 hW9 => ⟨⟨_, ws, rfl, ⟨by rw [← hk9]; rfl, hcx (fun e9 => absurd (hk9.trans e9) (by decide))⟩, by show va_P D vwCl ws U9.heap; rw [ht9]; exact hB3⟩, hS1.F ht9⟩) hS1.2.2 dL_lineChar_15 hlocks
  · obtain ⟨ek, hrv, hc2⟩ := hu
    replace hB : va_P D vwCl u U8.heap := hB
    rw [ht] at hB
    refine lv_istore_n (lv' := [(3, .int r), (0, .ref h), (1, .int i), (2, .int pl)]) hx hb dL_lineChar_6 rfl hl (by decide) rfl (fun ls hl => ?_)
    refine lv_goto (tgt := 16) hx hb dL_lineChar_7 (by decide) ?_
    refine lv_iload_n hx hb dL_lineChar_16 rfl (lv_at hl 0 rfl) ?_
    refine W.widen (k := 4) (n := 32) (Nat.le_of_eq (Nat.zero_add _)) (Nat.le_of_eq (Nat.zero_add _)) ?_
    exact W.iret (v := r) hx hb hr (fun U9 ht9 hW9 => ⟨⟨_, u, rfl, ⟨by rw [hrv, ek]; rfl, hc2⟩, by show va_P D vwCl u U9.heap; rw [ht9]; exact hB⟩, hS1.F ht9⟩) hS1.2.2 dL_lineChar_17 hlocks
set_option maxHeartbeats 4000000 in
set_option maxRecDepth 100000 in
theorem cw_stateOf (l : Launch) (hst : l.stackTraces = false) (D : va_G) (cI cO cb : ClassId) (eA mi : Nat) (st : Nat → Nat) (dO dT : Nat) (vF : Value) {A : Nat → Prop} (ws : va_W) {h : Nat} {M : MS} (hc : cSt cI cO eA st A h M ws) (hM : MI M) (hs : sInj st) (i : Int32) : Met l yL_stateOf wsL_stateOf ({ frames := 8, cells := 1, slots := 6, locals := 123 }) (va_Pc [.ref h, .int i] (kB D cI cO cb eA mi st dO dT vF A ws)) (va_Qi (fun (ri : Int32) (u : va_W) => ri = er (k_co M i) (r_stateOf M i) ∧ cSt cI cO eA st A h (M) u) (fun u U9 => va_P D vwCl u U9.heap) A) 1 6 A := by
  have hcx : k_co M i ≠ 0 → cSt cI cO eA st A h (M) ws := fun _ => hc
  obtain ⟨k9, hk9, hk9S, hMet⟩ := cq_stateOf l hst D cI cO cb eA mi st ws hc hM hs i
  obtain ⟨own9, kd, F, L, hC, hW, ⟨tn, lo, aw, co, ct, ow, G⟩, hD⟩ := hc
  have hm_1 : (h, .inr (9, [.ref (F 0 h), .ref (F 1 h), .ref (F 2 h), .ref (F 3 h), .ref (F 4 h), .int (nI (F 5 h))])) ∈ ws := hC.at G.1.1 (by decide) (by decide)
  refine met_ofWH (cc := cL_stateOf) (maxL := 4) (ret := (some .int)) (hh := [(0, 6, 9, 22)]) (by decide) rfl ?_
  intro p e s m args below meth c s₁ B hml htab hv
  obtain ⟨rfl, ⟨hP, hK, ⟨hG, hGT⟩, hA⟩, hn1, hn2, hn3⟩ := hv
  have hx := B.exec
  have hb := B.bytes
  have hr := B.returns
  have hts := atoms_spec (ws := wsL_stateOf) B.pre
  have hown : s.vm.findClass RL = some m.cls := findClass_of_methodNamed B.named
  have hlocks := B.notSynchronized
  have hS : va_S A s.heap s.heap [] := va_S.rf
  have hl := lv_entry ([.ref h, .int i]) (n := 4) (Nat.le_of_ble_eq_true rfl)
  rw [lg_entry_eq]
  generalize (lg_sl ([.ref h, .int i]) ++ List.replicate (4 - (lg_sl ([.ref h, .int i])).length) Slot.unset).toArray = ls at hl ⊢
  have hl : lv_has ls 4 [(0, .ref h), (1, .int i)] := hl
  refine lv_aload_n hx hb dL_stateOf_0 rfl (lv_at hl 0 rfl) ?_
  refine lv_iload_n hx hb dL_stateOf_1 rfl (lv_at hl 1 rfl) ?_
  refine vx_calli (vx_runV (As := [.int i]) (rest := []) ⟨hx, hb, hml, hown, hts⟩ hMet (cwV 1 hts gL_stateOf_X8_stateOf rfl rfl rfl kd_X8_stateOf ⟨Nat.le_of_ble_eq_true rfl, Nat.le_of_ble_eq_true rfl⟩) ⟨cB_blind, c_recv hK hP rfl hm_1, cB_pre hK hG hA hS hP _⟩ rfl rfl hl.1 rfl (lv_room (Nat.le_of_ble_eq_true rfl)) dL_stateOf_2 ⟨Nat.le_of_eq (Nat.zero_add _), Nat.le_of_eq (Nat.zero_add _)⟩) hS (fun _ _ h => h) (fun _ h => h) (fun _ _ h => h) (fun E9 ce9 q9 u9 U8 H1 locs1 ht hvm hu hB hz1 hk1 hS1 hc1 hc2 hc3 => ?_) (fun r u U8 H1 locs1 ht hvm hu hB hz1 hk1 hS1 => ?_)
  · obtain ⟨hB1, hB2, hB3⟩ := hB
    rw [ht] at hB3
    simp only [List.mem_cons, List.not_mem_nil, or_false] at hk9S
    rcases hk9S with rfl | rfl
    · exact absurd rfl hB2
    · obtain rfl : E9 = "java/lang/IndexOutOfBoundsException" := hB1.trans rfl
      refine vx_catch (own := RL) (name := "java/lang/IndexOutOfBoundsException") hown [] ⟨0, 6, 9, 22⟩ [] htab (fun z hz => ?_) (by decide) (by decide) (hts (.classLink RL 22 "java/lang/IndexOutOfBoundsException") (List.mem_of_getElem? (i := 1) rfl)) (hG.2.2.2.2.2.2.1.1 ("java/lang/IndexOutOfBoundsException", "java/lang/IndexOutOfBoundsException") (by decide)) hc1 hc2 hc3 ?_
      · cases hz
      · refine lv_astore_n (lv' := [(3, .ref q9), (0, .ref h), (1, .int i)]) hx hb dL_stateOf_9 rfl hl (by decide) rfl (fun ls hl => ?_)
        refine lv_sipush (v := (-7100)) hx hb dL_stateOf_10 (by decide) ?_
        refine W.widen (k := 1) (n := 6) (Nat.le_of_eq (Nat.zero_add _)) (Nat.le_of_eq (Nat.zero_add _)) ?_
        exact W.iret (v := (-7100)) hx hb hr (fun U9 ht9 hW9 => ⟨⟨_, ws, rfl, ⟨by rw [← hk9]; rfl, hcx (fun e9 => absurd (hk9.trans e9) (by decide))⟩, by show va_P D vwCl ws U9.heap; rw [ht9]; exact hB3⟩, hS1.F ht9⟩) hS1.2.2 dL_stateOf_13 hlocks
  · obtain ⟨ek, hrv, hc2⟩ := hu
    replace hB : va_P D vwCl u U8.heap := hB
    rw [ht] at hB
    refine lv_istore_n (lv' := [(2, .int r), (0, .ref h), (1, .int i)]) hx hb dL_stateOf_5 rfl hl (by decide) rfl (fun ls hl => ?_)
    refine lv_goto (tgt := 14) hx hb dL_stateOf_6 (by decide) ?_
    refine lv_iload_n hx hb dL_stateOf_14 rfl (lv_at hl 0 rfl) ?_
    refine W.widen (k := 1) (n := 6) (Nat.le_of_eq (Nat.zero_add _)) (Nat.le_of_eq (Nat.zero_add _)) ?_
    exact W.iret (v := r) hx hb hr (fun U9 ht9 hW9 => ⟨⟨_, u, rfl, ⟨by rw [hrv, ek]; rfl, hc2⟩, by show va_P D vwCl u U9.heap; rw [ht9]; exact hB⟩, hS1.F ht9⟩) hS1.2.2 dL_stateOf_15 hlocks
set_option maxHeartbeats 4000000 in
set_option maxRecDepth 100000 in
theorem cw_running (l : Launch) (hst : l.stackTraces = false) (D : va_G) (cI cO cb : ClassId) (eA mi : Nat) (st : Nat → Nat) (dO dT : Nat) (vF : Value) {A : Nat → Prop} (ws : va_W) {h : Nat} {M : MS} (hc : cSt cI cO eA st A h M ws) (hM : MI M) (hs : sInj st) (i : Int32) : Met l yL_running wsL_running ({ frames := 8, cells := 1, slots := 6, locals := 124 }) (va_Pc [.ref h, .int i] (kB D cI cO cb eA mi st dO dT vF A ws)) (va_Qi (fun (ri : Int32) (u : va_W) => ri = er (k_ct M i) (r_running M i) ∧ cSt cI cO eA st A h (M) u) (fun u U9 => va_P D vwCl u U9.heap) A) 1 6 A := by
  have hcx : k_ct M i ≠ 0 → cSt cI cO eA st A h (M) ws := fun _ => hc
  obtain ⟨k9, hk9, hk9S, hMet⟩ := cq_running l hst D cI cO cb eA mi st ws hc hM hs i
  obtain ⟨own9, kd, F, L, hC, hW, ⟨tn, lo, aw, co, ct, ow, G⟩, hD⟩ := hc
  have hm_1 : (h, .inr (9, [.ref (F 0 h), .ref (F 1 h), .ref (F 2 h), .ref (F 3 h), .ref (F 4 h), .int (nI (F 5 h))])) ∈ ws := hC.at G.1.1 (by decide) (by decide)
  refine met_ofWH (cc := cL_running) (maxL := 4) (ret := (some .int)) (hh := [(0, 6, 9, 22)]) (by decide) rfl ?_
  intro p e s m args below meth c s₁ B hml htab hv
  obtain ⟨rfl, ⟨hP, hK, ⟨hG, hGT⟩, hA⟩, hn1, hn2, hn3⟩ := hv
  have hx := B.exec
  have hb := B.bytes
  have hr := B.returns
  have hts := atoms_spec (ws := wsL_running) B.pre
  have hown : s.vm.findClass RL = some m.cls := findClass_of_methodNamed B.named
  have hlocks := B.notSynchronized
  have hS : va_S A s.heap s.heap [] := va_S.rf
  have hl := lv_entry ([.ref h, .int i]) (n := 4) (Nat.le_of_ble_eq_true rfl)
  rw [lg_entry_eq]
  generalize (lg_sl ([.ref h, .int i]) ++ List.replicate (4 - (lg_sl ([.ref h, .int i])).length) Slot.unset).toArray = ls at hl ⊢
  have hl : lv_has ls 4 [(0, .ref h), (1, .int i)] := hl
  refine lv_aload_n hx hb dL_running_0 rfl (lv_at hl 0 rfl) ?_
  refine lv_iload_n hx hb dL_running_1 rfl (lv_at hl 1 rfl) ?_
  refine vx_calli (vx_runV (As := [.int i]) (rest := []) ⟨hx, hb, hml, hown, hts⟩ hMet (cwV 1 hts gL_running_X8_running rfl rfl rfl kd_X8_running ⟨Nat.le_of_ble_eq_true rfl, Nat.le_of_ble_eq_true rfl⟩) ⟨cB_blind, c_recv hK hP rfl hm_1, cB_pre hK hG hA hS hP _⟩ rfl rfl hl.1 rfl (lv_room (Nat.le_of_ble_eq_true rfl)) dL_running_2 ⟨Nat.le_of_eq (Nat.zero_add _), Nat.le_of_eq (Nat.zero_add _)⟩) hS (fun _ _ h => h) (fun _ h => h) (fun _ _ h => h) (fun E9 ce9 q9 u9 U8 H1 locs1 ht hvm hu hB hz1 hk1 hS1 hc1 hc2 hc3 => ?_) (fun r u U8 H1 locs1 ht hvm hu hB hz1 hk1 hS1 => ?_)
  · obtain ⟨hB1, hB2, hB3⟩ := hB
    rw [ht] at hB3
    simp only [List.mem_cons, List.not_mem_nil, or_false] at hk9S
    rcases hk9S with rfl | rfl
    · exact absurd rfl hB2
    · obtain rfl : E9 = "java/lang/IndexOutOfBoundsException" := hB1.trans rfl
      refine vx_catch (own := RL) (name := "java/lang/IndexOutOfBoundsException") hown [] ⟨0, 6, 9, 22⟩ [] htab (fun z hz => ?_) (by decide) (by decide) (hts (.classLink RL 22 "java/lang/IndexOutOfBoundsException") (List.mem_of_getElem? (i := 1) rfl)) (hG.2.2.2.2.2.2.1.1 ("java/lang/IndexOutOfBoundsException", "java/lang/IndexOutOfBoundsException") (by decide)) hc1 hc2 hc3 ?_
      · cases hz
      · refine lv_astore_n (lv' := [(3, .ref q9), (0, .ref h), (1, .int i)]) hx hb dL_running_9 rfl hl (by decide) rfl (fun ls hl => ?_)
        refine lv_sipush (v := (-7100)) hx hb dL_running_10 (by decide) ?_
        refine W.widen (k := 1) (n := 6) (Nat.le_of_eq (Nat.zero_add _)) (Nat.le_of_eq (Nat.zero_add _)) ?_
        exact W.iret (v := (-7100)) hx hb hr (fun U9 ht9 hW9 => ⟨⟨_, ws, rfl, ⟨by rw [← hk9]; rfl, hcx (fun e9 => absurd (hk9.trans e9) (by decide))⟩, by show va_P D vwCl ws U9.heap; rw [ht9]; exact hB3⟩, hS1.F ht9⟩) hS1.2.2 dL_running_13 hlocks
  · obtain ⟨ek, hrv, hc2⟩ := hu
    replace hB : va_P D vwCl u U8.heap := hB
    rw [ht] at hB
    refine lv_istore_n (lv' := [(2, .int r), (0, .ref h), (1, .int i)]) hx hb dL_running_5 rfl hl (by decide) rfl (fun ls hl => ?_)
    refine lv_goto (tgt := 14) hx hb dL_running_6 (by decide) ?_
    refine lv_iload_n hx hb dL_running_14 rfl (lv_at hl 0 rfl) ?_
    refine W.widen (k := 1) (n := 6) (Nat.le_of_eq (Nat.zero_add _)) (Nat.le_of_eq (Nat.zero_add _)) ?_
    exact W.iret (v := r) hx hb hr (fun U9 ht9 hW9 => ⟨⟨_, u, rfl, ⟨by rw [hrv, ek]; rfl, hc2⟩, by show va_P D vwCl u U9.heap; rw [ht9]; exact hB⟩, hS1.F ht9⟩) hS1.2.2 dL_running_15 hlocks
set_option maxHeartbeats 4000000 in
set_option maxRecDepth 100000 in
theorem cw_owes (l : Launch) (hst : l.stackTraces = false) (D : va_G) (cI cO cb : ClassId) (eA mi : Nat) (st : Nat → Nat) (dO dT : Nat) (vF : Value) {A : Nat → Prop} (ws : va_W) {h : Nat} {M : MS} (hc : cSt cI cO eA st A h M ws) (hM : MI M) (hs : sInj st) (b : Int32) : Met l yL_owes wsL_owes ({ frames := 8, cells := 1, slots := 6, locals := 125 }) (va_Pc [.ref h, .int b] (kB D cI cO cb eA mi st dO dT vF A ws)) (va_Qi (fun (ri : Int32) (u : va_W) => ri = er (k_b b) (r_owes M b) ∧ cSt cI cO eA st A h (M) u) (fun u U9 => va_P D vwCl u U9.heap) A) 1 6 A := by
  have hcx : k_b b ≠ 0 → cSt cI cO eA st A h (M) ws := fun _ => hc
  obtain ⟨k9, hk9, hk9S, hMet⟩ := cq_owes l hst D cI cO cb eA mi st ws hc hM hs b
  obtain ⟨own9, kd, F, L, hC, hW, ⟨tn, lo, aw, co, ct, ow, G⟩, hD⟩ := hc
  have hm_1 : (h, .inr (9, [.ref (F 0 h), .ref (F 1 h), .ref (F 2 h), .ref (F 3 h), .ref (F 4 h), .int (nI (F 5 h))])) ∈ ws := hC.at G.1.1 (by decide) (by decide)
  refine met_ofWH (cc := cL_owes) (maxL := 4) (ret := (some .int)) (hh := [(0, 6, 9, 22)]) (by decide) rfl ?_
  intro p e s m args below meth c s₁ B hml htab hv
  obtain ⟨rfl, ⟨hP, hK, ⟨hG, hGT⟩, hA⟩, hn1, hn2, hn3⟩ := hv
  have hx := B.exec
  have hb := B.bytes
  have hr := B.returns
  have hts := atoms_spec (ws := wsL_owes) B.pre
  have hown : s.vm.findClass RL = some m.cls := findClass_of_methodNamed B.named
  have hlocks := B.notSynchronized
  have hS : va_S A s.heap s.heap [] := va_S.rf
  have hl := lv_entry ([.ref h, .int b]) (n := 4) (Nat.le_of_ble_eq_true rfl)
  rw [lg_entry_eq]
  generalize (lg_sl ([.ref h, .int b]) ++ List.replicate (4 - (lg_sl ([.ref h, .int b])).length) Slot.unset).toArray = ls at hl ⊢
  have hl : lv_has ls 4 [(0, .ref h), (1, .int b)] := hl
  refine lv_aload_n hx hb dL_owes_0 rfl (lv_at hl 0 rfl) ?_
  refine lv_iload_n hx hb dL_owes_1 rfl (lv_at hl 1 rfl) ?_
  refine vx_calli (vx_runV (As := [.int b]) (rest := []) ⟨hx, hb, hml, hown, hts⟩ hMet (cwV 1 hts gL_owes_X8_owes rfl rfl rfl kd_X8_owes ⟨Nat.le_of_ble_eq_true rfl, Nat.le_of_ble_eq_true rfl⟩) ⟨cB_blind, c_recv hK hP rfl hm_1, cB_pre hK hG hA hS hP _⟩ rfl rfl hl.1 rfl (lv_room (Nat.le_of_ble_eq_true rfl)) dL_owes_2 ⟨Nat.le_of_eq (Nat.zero_add _), Nat.le_of_eq (Nat.zero_add _)⟩) hS (fun _ _ h => h) (fun _ h => h) (fun _ _ h => h) (fun E9 ce9 q9 u9 U8 H1 locs1 ht hvm hu hB hz1 hk1 hS1 hc1 hc2 hc3 => ?_) (fun r u U8 H1 locs1 ht hvm hu hB hz1 hk1 hS1 => ?_)
  · obtain ⟨hB1, hB2, hB3⟩ := hB
    rw [ht] at hB3
    simp only [List.mem_cons, List.not_mem_nil, or_false] at hk9S
    rcases hk9S with rfl | rfl
    · exact absurd rfl hB2
    · obtain rfl : E9 = "java/lang/IndexOutOfBoundsException" := hB1.trans rfl
      refine vx_catch (own := RL) (name := "java/lang/IndexOutOfBoundsException") hown [] ⟨0, 6, 9, 22⟩ [] htab (fun z hz => ?_) (by decide) (by decide) (hts (.classLink RL 22 "java/lang/IndexOutOfBoundsException") (List.mem_of_getElem? (i := 1) rfl)) (hG.2.2.2.2.2.2.1.1 ("java/lang/IndexOutOfBoundsException", "java/lang/IndexOutOfBoundsException") (by decide)) hc1 hc2 hc3 ?_
      · cases hz
      · refine lv_astore_n (lv' := [(3, .ref q9), (0, .ref h), (1, .int b)]) hx hb dL_owes_9 rfl hl (by decide) rfl (fun ls hl => ?_)
        refine lv_sipush (v := (-7100)) hx hb dL_owes_10 (by decide) ?_
        refine W.widen (k := 1) (n := 6) (Nat.le_of_eq (Nat.zero_add _)) (Nat.le_of_eq (Nat.zero_add _)) ?_
        exact W.iret (v := (-7100)) hx hb hr (fun U9 ht9 hW9 => ⟨⟨_, ws, rfl, ⟨by rw [← hk9]; rfl, hcx (fun e9 => absurd (hk9.trans e9) (by decide))⟩, by show va_P D vwCl ws U9.heap; rw [ht9]; exact hB3⟩, hS1.F ht9⟩) hS1.2.2 dL_owes_13 hlocks
  · obtain ⟨ek, hrv, hc2⟩ := hu
    replace hB : va_P D vwCl u U8.heap := hB
    rw [ht] at hB
    refine lv_istore_n (lv' := [(2, .int r), (0, .ref h), (1, .int b)]) hx hb dL_owes_5 rfl hl (by decide) rfl (fun ls hl => ?_)
    refine lv_goto (tgt := 14) hx hb dL_owes_6 (by decide) ?_
    refine lv_iload_n hx hb dL_owes_14 rfl (lv_at hl 0 rfl) ?_
    refine W.widen (k := 1) (n := 6) (Nat.le_of_eq (Nat.zero_add _)) (Nat.le_of_eq (Nat.zero_add _)) ?_
    exact W.iret (v := r) hx hb hr (fun U9 ht9 hW9 => ⟨⟨_, u, rfl, ⟨by rw [hrv, ek]; rfl, hc2⟩, by show va_P D vwCl u U9.heap; rw [ht9]; exact hB⟩, hS1.F ht9⟩) hS1.2.2 dL_owes_15 hlocks
set_option maxHeartbeats 4000000 in
set_option maxRecDepth 100000 in
theorem cw_held (l : Launch) (hst : l.stackTraces = false) (D : va_G) (cI cO cb : ClassId) (eA mi : Nat) (st : Nat → Nat) (dO dT : Nat) (vF : Value) {A : Nat → Prop} (ws : va_W) {h : Nat} {M : MS} (hc : cSt cI cO eA st A h M ws) (hM : MI M) (hs : sInj st) (b : Int32) : Met l yL_held wsL_held ({ frames := 8, cells := 1, slots := 6, locals := 137 }) (va_Pc [.ref h, .int b] (kB D cI cO cb eA mi st dO dT vF A ws)) (va_Qi (fun (ri : Int32) (u : va_W) => ri = er (k_b b) (r_held M b) ∧ cSt cI cO eA st A h (M) u) (fun u U9 => va_P D vwCl u U9.heap) A) 1 6 A := by
  have hcx : k_b b ≠ 0 → cSt cI cO eA st A h (M) ws := fun _ => hc
  obtain ⟨k9, hk9, hk9S, hMet⟩ := cq_held l hst D cI cO cb eA mi st ws hc hM hs b
  obtain ⟨own9, kd, F, L, hC, hW, ⟨tn, lo, aw, co, ct, ow, G⟩, hD⟩ := hc
  have hm_1 : (h, .inr (9, [.ref (F 0 h), .ref (F 1 h), .ref (F 2 h), .ref (F 3 h), .ref (F 4 h), .int (nI (F 5 h))])) ∈ ws := hC.at G.1.1 (by decide) (by decide)
  refine met_ofWH (cc := cL_held) (maxL := 4) (ret := (some .int)) (hh := [(0, 6, 9, 22)]) (by decide) rfl ?_
  intro p e s m args below meth c s₁ B hml htab hv
  obtain ⟨rfl, ⟨hP, hK, ⟨hG, hGT⟩, hA⟩, hn1, hn2, hn3⟩ := hv
  have hx := B.exec
  have hb := B.bytes
  have hr := B.returns
  have hts := atoms_spec (ws := wsL_held) B.pre
  have hown : s.vm.findClass RL = some m.cls := findClass_of_methodNamed B.named
  have hlocks := B.notSynchronized
  have hS : va_S A s.heap s.heap [] := va_S.rf
  have hl := lv_entry ([.ref h, .int b]) (n := 4) (Nat.le_of_ble_eq_true rfl)
  rw [lg_entry_eq]
  generalize (lg_sl ([.ref h, .int b]) ++ List.replicate (4 - (lg_sl ([.ref h, .int b])).length) Slot.unset).toArray = ls at hl ⊢
  have hl : lv_has ls 4 [(0, .ref h), (1, .int b)] := hl
  refine lv_aload_n hx hb dL_held_0 rfl (lv_at hl 0 rfl) ?_
  refine lv_iload_n hx hb dL_held_1 rfl (lv_at hl 1 rfl) ?_
  refine vx_calli (vx_runV (As := [.int b]) (rest := []) ⟨hx, hb, hml, hown, hts⟩ hMet (cwV 1 hts gL_held_X8_held rfl rfl rfl kd_X8_held ⟨Nat.le_of_ble_eq_true rfl, Nat.le_of_ble_eq_true rfl⟩) ⟨cB_blind, c_recv hK hP rfl hm_1, cB_pre hK hG hA hS hP _⟩ rfl rfl hl.1 rfl (lv_room (Nat.le_of_ble_eq_true rfl)) dL_held_2 ⟨Nat.le_of_eq (Nat.zero_add _), Nat.le_of_eq (Nat.zero_add _)⟩) hS (fun _ _ h => h) (fun _ h => h) (fun _ _ h => h) (fun E9 ce9 q9 u9 U8 H1 locs1 ht hvm hu hB hz1 hk1 hS1 hc1 hc2 hc3 => ?_) (fun r u U8 H1 locs1 ht hvm hu hB hz1 hk1 hS1 => ?_)
  · obtain ⟨hB1, hB2, hB3⟩ := hB
    rw [ht] at hB3
    simp only [List.mem_cons, List.not_mem_nil, or_false] at hk9S
    rcases hk9S with rfl | rfl
    · exact absurd rfl hB2
    · obtain rfl : E9 = "java/lang/IndexOutOfBoundsException" := hB1.trans rfl
      refine vx_catch (own := RL) (name := "java/lang/IndexOutOfBoundsException") hown [] ⟨0, 6, 9, 22⟩ [] htab (fun z hz => ?_) (by decide) (by decide) (hts (.classLink RL 22 "java/lang/IndexOutOfBoundsException") (List.mem_of_getElem? (i := 1) rfl)) (hG.2.2.2.2.2.2.1.1 ("java/lang/IndexOutOfBoundsException", "java/lang/IndexOutOfBoundsException") (by decide)) hc1 hc2 hc3 ?_
      · cases hz
      · refine lv_astore_n (lv' := [(3, .ref q9), (0, .ref h), (1, .int b)]) hx hb dL_held_9 rfl hl (by decide) rfl (fun ls hl => ?_)
        refine lv_sipush (v := (-7100)) hx hb dL_held_10 (by decide) ?_
        refine W.widen (k := 1) (n := 6) (Nat.le_of_eq (Nat.zero_add _)) (Nat.le_of_eq (Nat.zero_add _)) ?_
        exact W.iret (v := (-7100)) hx hb hr (fun U9 ht9 hW9 => ⟨⟨_, ws, rfl, ⟨by rw [← hk9]; rfl, hcx (fun e9 => absurd (hk9.trans e9) (by decide))⟩, by show va_P D vwCl ws U9.heap; rw [ht9]; exact hB3⟩, hS1.F ht9⟩) hS1.2.2 dL_held_13 hlocks
  · obtain ⟨ek, hrv, hc2⟩ := hu
    replace hB : va_P D vwCl u U8.heap := hB
    rw [ht] at hB
    refine lv_istore_n (lv' := [(2, .int r), (0, .ref h), (1, .int b)]) hx hb dL_held_5 rfl hl (by decide) rfl (fun ls hl => ?_)
    refine lv_goto (tgt := 14) hx hb dL_held_6 (by decide) ?_
    refine lv_iload_n hx hb dL_held_14 rfl (lv_at hl 0 rfl) ?_
    refine W.widen (k := 1) (n := 6) (Nat.le_of_eq (Nat.zero_add _)) (Nat.le_of_eq (Nat.zero_add _)) ?_
    exact W.iret (v := r) hx hb hr (fun U9 ht9 hW9 => ⟨⟨_, u, rfl, ⟨by rw [hrv, ek]; rfl, hc2⟩, by show va_P D vwCl u U9.heap; rw [ht9]; exact hB⟩, hS1.F ht9⟩) hS1.2.2 dL_held_15 hlocks
set_option maxHeartbeats 4000000 in
set_option maxRecDepth 100000 in
theorem cw_lost (l : Launch) (hst : l.stackTraces = false) (D : va_G) (cI cO cb : ClassId) (eA mi : Nat) (st : Nat → Nat) (dO dT : Nat) (vF : Value) {A : Nat → Prop} (ws : va_W) {h : Nat} {M : MS} (hc : cSt cI cO eA st A h M ws) (hM : MI M) (hs : sInj st) (b : Int32) : Met l yL_lost wsL_lost ({ frames := 8, cells := 1, slots := 6, locals := 125 }) (va_Pc [.ref h, .int b] (kB D cI cO cb eA mi st dO dT vF A ws)) (va_Qi (fun (ri : Int32) (u : va_W) => ri = er (k_b b) (r_lost M b) ∧ cSt cI cO eA st A h (M) u) (fun u U9 => va_P D vwCl u U9.heap) A) 1 6 A := by
  have hcx : k_b b ≠ 0 → cSt cI cO eA st A h (M) ws := fun _ => hc
  obtain ⟨k9, hk9, hk9S, hMet⟩ := cq_lost l hst D cI cO cb eA mi st ws hc hM hs b
  obtain ⟨own9, kd, F, L, hC, hW, ⟨tn, lo, aw, co, ct, ow, G⟩, hD⟩ := hc
  have hm_1 : (h, .inr (9, [.ref (F 0 h), .ref (F 1 h), .ref (F 2 h), .ref (F 3 h), .ref (F 4 h), .int (nI (F 5 h))])) ∈ ws := hC.at G.1.1 (by decide) (by decide)
  refine met_ofWH (cc := cL_lost) (maxL := 4) (ret := (some .int)) (hh := [(0, 6, 9, 22)]) (by decide) rfl ?_
  intro p e s m args below meth c s₁ B hml htab hv
  obtain ⟨rfl, ⟨hP, hK, ⟨hG, hGT⟩, hA⟩, hn1, hn2, hn3⟩ := hv
  have hx := B.exec
  have hb := B.bytes
  have hr := B.returns
  have hts := atoms_spec (ws := wsL_lost) B.pre
  have hown : s.vm.findClass RL = some m.cls := findClass_of_methodNamed B.named
  have hlocks := B.notSynchronized
  have hS : va_S A s.heap s.heap [] := va_S.rf
  have hl := lv_entry ([.ref h, .int b]) (n := 4) (Nat.le_of_ble_eq_true rfl)
  rw [lg_entry_eq]
  generalize (lg_sl ([.ref h, .int b]) ++ List.replicate (4 - (lg_sl ([.ref h, .int b])).length) Slot.unset).toArray = ls at hl ⊢
  have hl : lv_has ls 4 [(0, .ref h), (1, .int b)] := hl
  refine lv_aload_n hx hb dL_lost_0 rfl (lv_at hl 0 rfl) ?_
  refine lv_iload_n hx hb dL_lost_1 rfl (lv_at hl 1 rfl) ?_
  refine vx_calli (vx_runV (As := [.int b]) (rest := []) ⟨hx, hb, hml, hown, hts⟩ hMet (cwV 1 hts gL_lost_X8_lost rfl rfl rfl kd_X8_lost ⟨Nat.le_of_ble_eq_true rfl, Nat.le_of_ble_eq_true rfl⟩) ⟨cB_blind, c_recv hK hP rfl hm_1, cB_pre hK hG hA hS hP _⟩ rfl rfl hl.1 rfl (lv_room (Nat.le_of_ble_eq_true rfl)) dL_lost_2 ⟨Nat.le_of_eq (Nat.zero_add _), Nat.le_of_eq (Nat.zero_add _)⟩) hS (fun _ _ h => h) (fun _ h => h) (fun _ _ h => h) (fun E9 ce9 q9 u9 U8 H1 locs1 ht hvm hu hB hz1 hk1 hS1 hc1 hc2 hc3 => ?_) (fun r u U8 H1 locs1 ht hvm hu hB hz1 hk1 hS1 => ?_)
  · obtain ⟨hB1, hB2, hB3⟩ := hB
    rw [ht] at hB3
    simp only [List.mem_cons, List.not_mem_nil, or_false] at hk9S
    rcases hk9S with rfl | rfl
    · exact absurd rfl hB2
    · obtain rfl : E9 = "java/lang/IndexOutOfBoundsException" := hB1.trans rfl
      refine vx_catch (own := RL) (name := "java/lang/IndexOutOfBoundsException") hown [] ⟨0, 6, 9, 22⟩ [] htab (fun z hz => ?_) (by decide) (by decide) (hts (.classLink RL 22 "java/lang/IndexOutOfBoundsException") (List.mem_of_getElem? (i := 1) rfl)) (hG.2.2.2.2.2.2.1.1 ("java/lang/IndexOutOfBoundsException", "java/lang/IndexOutOfBoundsException") (by decide)) hc1 hc2 hc3 ?_
      · cases hz
      · refine lv_astore_n (lv' := [(3, .ref q9), (0, .ref h), (1, .int b)]) hx hb dL_lost_9 rfl hl (by decide) rfl (fun ls hl => ?_)
        refine lv_sipush (v := (-7100)) hx hb dL_lost_10 (by decide) ?_
        refine W.widen (k := 1) (n := 6) (Nat.le_of_eq (Nat.zero_add _)) (Nat.le_of_eq (Nat.zero_add _)) ?_
        exact W.iret (v := (-7100)) hx hb hr (fun U9 ht9 hW9 => ⟨⟨_, ws, rfl, ⟨by rw [← hk9]; rfl, hcx (fun e9 => absurd (hk9.trans e9) (by decide))⟩, by show va_P D vwCl ws U9.heap; rw [ht9]; exact hB3⟩, hS1.F ht9⟩) hS1.2.2 dL_lost_13 hlocks
  · obtain ⟨ek, hrv, hc2⟩ := hu
    replace hB : va_P D vwCl u U8.heap := hB
    rw [ht] at hB
    refine lv_istore_n (lv' := [(2, .int r), (0, .ref h), (1, .int b)]) hx hb dL_lost_5 rfl hl (by decide) rfl (fun ls hl => ?_)
    refine lv_goto (tgt := 14) hx hb dL_lost_6 (by decide) ?_
    refine lv_iload_n hx hb dL_lost_14 rfl (lv_at hl 0 rfl) ?_
    refine W.widen (k := 1) (n := 6) (Nat.le_of_eq (Nat.zero_add _)) (Nat.le_of_eq (Nat.zero_add _)) ?_
    exact W.iret (v := r) hx hb hr (fun U9 ht9 hW9 => ⟨⟨_, u, rfl, ⟨by rw [hrv, ek]; rfl, hc2⟩, by show va_P D vwCl u U9.heap; rw [ht9]; exact hB⟩, hS1.F ht9⟩) hS1.2.2 dL_lost_15 hlocks
