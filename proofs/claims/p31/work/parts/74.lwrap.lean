/-! the law's wrappers of the class's calls: what they answer -/
section
theorem met_ofWH {l : Launch} {y : MethodName} {ws ws' : List Cond} {rm : Room} {Pc : Array Value → State → Prop} {Qc : Array Value → State → Outcome → State → Prop} {mc ms : Nat} {free : Addr → Prop} {cc : ByteArray} {maxL : Nat} {ret : Option FieldType} {hh : List (Nat × Nat × Nat × Nat)}
    (hy : plainName y.cls = true) (hw : ws = Cond.codeWith y cc maxL ret hh :: ws')
    (body : ∀ p e s m args below meth c s₁, BodyLoose p l y (headSpec ws rm) cc maxL ret e s m args below meth c s₁ → c.maxLocals = maxL → c.exceptionTable.toList = tableOf hh → Pc args s →
      W p l e (headSpec ws rm).room s m args below meth c s.heap [] 0 0 (MQ below Qc args s mc ms free) (entryFrame m args maxL)) : Met l y ws rm Pc Qc mc ms free := by
  refine MetFree.of_bodyS (code := cc) (maxLocals := maxL) (ret := ret) hy ?_ ?_
  · intro args s m h hn
    obtain ⟨m9, meth, c, hn9, h1, h2, h3, h4, -, h5, h6, -⟩ := Cond.codeWith_spec (atoms_spec (ws := ws) h _ (by rw [hw]; exact List.mem_cons_self))
    cases hn.symm.trans hn9
    exact ⟨meth, c, h1, h2, h3, h4, h5, h6⟩
  · intro p e s m args below meth c s₁ B hml hP _
    have hh0 : s₁.heap = s.heap := by rw [B.state]; rfl
    have htab := vx_table (x := y) B (atoms_spec (ws := ws) B.pre _ (by rw [hw]; exact List.mem_cons_self))
    obtain ⟨t, a1, o, b1, b2, b3⟩ := body p e s m args below meth c s₁ B hml htab hP s₁ hh0 (Stand.of_body B)
    exact ⟨t, o, a1, b1, b2, b3⟩
end
def lNc (U : State) : Prop := va_Nc "java/lang/IllegalArgumentException" "java/lang/IndexOutOfBoundsException" U ∧ va_Nc "java/lang/IllegalStateException" "java/lang/IndexOutOfBoundsException" U ∧ va_Nc "java/lang/IllegalStateException" "java/lang/IllegalArgumentException" U
def kB (D : va_G) (cI cO cb : ClassId) (eA mi : Nat) (st : Nat → Nat) (dO dT : Nat) (vF : Value) (A : Nat → Prop) (ws : va_W) : State → Prop := fun U => cT D cI cO cb eA mi st dO dT vF A ws U ∧ lNc U
def er (k : Nat) (r : Int32) : Int32 := if k = 0 then r else if k = 1 then (-7100) else if k = 2 then (-7200) else (-7300)
def e13 (k : Nat) (r : Int32) : Int32 := if k = 0 then r else if k = 1 then (-7100) else (-7300)
def e23 (k : Nat) (r : Int32) : Int32 := if k = 0 then r else if k = 1 then (-7200) else (-7300)
theorem gS.narrow {eA mi : Nat} {st : Nat → Nat} {A A2 : Nat → Prop} {U : State} {H : Heap} (h : gS eA mi st A U H) (hAB : ∀ q, A2 q → A q) : gS eA mi st A2 U H := by
  obtain ⟨h1, h2, h3, h4, h5, h6, h7, h8, h9, h10, h11⟩ := h
  exact ⟨h1.narrow hAB, h2.narrow hAB, h3.narrow hAB, h4.narrow hAB, h5, h6, h7, h8.narrow hAB, h9.narrow hAB, h10.narrow hAB, h11.narrow hAB⟩
theorem gT.narrow {dO dT : Nat} {vF : Value} {A A2 : Nat → Prop} {U : State} {H : Heap} (h : gT dO dT vF A U H) (hAB : ∀ q, A2 q → A q) : gT dO dT vF A2 U H := by
  obtain ⟨h1, h2, h3, h4, h5, h6, h7⟩ := h
  exact ⟨h1.narrow hAB, h2.narrow hAB, h3.narrow hAB, h4.narrow hAB, h5.narrow hAB, h6.narrow hAB, h7⟩
theorem lNc.moved {u U : State} (hvm : u.vm.Alike U.vm) (h : lNc u) : lNc U := ⟨h.1.moved hvm, h.2.1.moved hvm, h.2.2.moved hvm⟩
theorem kB_blind {D : va_G} {cI cO cb : ClassId} {eA mi : Nat} {st : Nat → Nat} {dO dT : Nat} {vF : Value} {A : Nat → Prop} {ws : va_W} {av : List Value} : FrameBlind (va_Pc av (kB D cI cO cb eA mi st dO dT vF A ws)) := fun a U g mk q => ⟨q.1, (cT_blind (av := av) a U g mk ⟨q.1, q.2.1⟩).2, lNc.moved (u := U) (U := U.calling g mk a) (Vm.Alike.refl U.vm) q.2.2⟩
theorem kB_pre {D : va_G} {cI cO cb : ClassId} {eA mi : Nat} {st : Nat → Nat} {dO dT : Nat} {vF : Value} {A A0 : Nat → Prop} {ws : va_W} {s : State} {H : Heap} {locs : List Loc} (hK : va_K D vwCl (cty cI cO cb) s) (hG : gS eA mi st A0 s s.heap) (hGT : gT dO dT vF A0 s s.heap) (hN : lNc s) (hAB : ∀ q, A q → A0 q) (hS : va_S A0 s.heap H locs) (hA : ∀ q : Nat, H.size ≤ q → A q) (hP : va_P D vwCl ws H) (av : List Value) : ∀ U : State, U.heap = H → s.WarmedH U.vm → va_Pc av (kB D cI cO cb eA mi st dO dT vF A ws) av.toArray U :=
  fun U hU hW => ⟨rfl, ⟨by rw [hU]; exact hP, va_K.moved hW.alike hK, ⟨by rw [hU]; exact ((hG.kept (fun q h1 h2 => hS.2.1 q h1 h2)).narrow hAB).moved hW.alike, by rw [hU]; exact ((hGT.kept (fun q h1 h2 => hS.2.1 q h1 h2)).narrow hAB).moved hW.alike⟩, fun q hq => hA q (by rw [← hU]; exact hq)⟩, hN.moved hW.alike⟩
set_option maxHeartbeats 4000000 in
set_option maxRecDepth 100000 in
theorem cw_addTender (l : Launch) (hst : l.stackTraces = false) (D : va_G) (cI cO cb : ClassId) (eA mi : Nat) (st : Nat → Nat) (dO dT : Nat) (vF : Value) {A : Nat → Prop} (ws : va_W) {h : Nat} {M : MS} (hc : cSt cI cO eA st A h M ws) (hM : MI M) (hs : sInj st) (cl : Int32) (pa : Int32) (we : Int32) (sd : Int32) : Met l yL_addTender wsL_addTender ({ frames := 8, cells := 4, slots := 114, locals := 216 }) (va_Pc [.ref h, .int cl, .int pa, .int we, .int sd] (kB D cI cO cb eA mi st dO dT vF A ws)) (va_Qi (fun (ri : Int32) (u : va_W) => ri = e23 (k_addTender M cl pa we sd) (if k_addTender M cl pa we sd = 0 then nI (M 3 0) else nI 0) ∧ cSt cI cO eA st A h (g_addTender M cl pa we sd) u) (fun u U9 => va_P D vwCl u U9.heap) A) 4 114 A := by
  have hcx : k_addTender M cl pa we sd ≠ 0 → cSt cI cO eA st A h (g_addTender M cl pa we sd) ws := fun e9 => by
    have e8 : g_addTender M cl pa we sd = M := by
      unfold g_addTender
      exact if_neg e9
    rw [e8]; exact hc
  obtain ⟨k9, hk9, hk9S, hMet⟩ := cq_addTender l hst D cI cO cb eA mi st ws hc hM hs cl pa we sd
  obtain ⟨own9, kd, F, L, hC, hW, ⟨tn, lo, aw, co, ct, ow, G⟩, hD⟩ := hc
  have hm_1 : (h, .inr (9, [.ref (F 0 h), .ref (F 1 h), .ref (F 2 h), .ref (F 3 h), .ref (F 4 h), .int (nI (F 5 h))])) ∈ ws := hC.at G.1.1 (by decide) (by decide)
  refine met_ofWH (cc := cL_addTender) (maxL := 7) (ret := (some .int)) (hh := [(0, 11, 14, 14), (0, 11, 20, 16)]) (by decide) rfl ?_
  intro p e s m args below meth c s₁ B hml htab hv
  obtain ⟨rfl, ⟨hP, hK, ⟨hG, hGT⟩, hA⟩, hn1, hn2, hn3⟩ := hv
  have hx := B.exec
  have hb := B.bytes
  have hr := B.returns
  have hts := atoms_spec (ws := wsL_addTender) B.pre
  have hown : s.vm.findClass RL = some m.cls := findClass_of_methodNamed B.named
  have hlocks := B.notSynchronized
  have hS : va_S A s.heap s.heap [] := va_S.rf
  have hl := lv_entry ([.ref h, .int cl, .int pa, .int we, .int sd]) (n := 7) (Nat.le_of_ble_eq_true rfl)
  rw [lg_entry_eq]
  generalize (lg_sl ([.ref h, .int cl, .int pa, .int we, .int sd]) ++ List.replicate (7 - (lg_sl ([.ref h, .int cl, .int pa, .int we, .int sd])).length) Slot.unset).toArray = ls at hl ⊢
  have hl : lv_has ls 7 [(0, .ref h), (1, .int cl), (2, .int pa), (3, .int we), (4, .int sd)] := hl
  refine lv_aload_n hx hb dL_addTender_0 rfl (lv_at hl 0 rfl) ?_
  refine lv_iload_n hx hb dL_addTender_1 rfl (lv_at hl 1 rfl) ?_
  refine lv_iload_n hx hb dL_addTender_2 rfl (lv_at hl 2 rfl) ?_
  refine lv_iload_n hx hb dL_addTender_3 rfl (lv_at hl 3 rfl) ?_
  refine lv_iload hx hb dL_addTender_4 (lv_at hl 4 rfl) ?_
  refine vx_calli (vx_runV (As := [.int cl, .int pa, .int we, .int sd]) (rest := []) ⟨hx, hb, hml, hown, hts⟩ hMet (cwV 4 hts gL_addTender_X8_addTender rfl rfl rfl kd_X8_addTender ⟨Nat.le_of_ble_eq_true rfl, Nat.le_of_ble_eq_true rfl⟩) ⟨cB_blind, c_recv hK hP rfl hm_1, cB_pre hK hG hA hS hP _⟩ rfl rfl hl.1 rfl (lv_room (Nat.le_of_ble_eq_true rfl)) dL_addTender_6 ⟨Nat.le_of_eq (Nat.zero_add _), Nat.le_of_eq (Nat.zero_add _)⟩) hS (fun _ _ h => h) (fun _ h => h) (fun _ _ h => h) (fun E9 ce9 q9 u9 U8 H1 locs1 ht hvm hu hB hz1 hk1 hS1 hc1 hc2 hc3 => ?_) (fun r u U8 H1 locs1 ht hvm hu hB hz1 hk1 hS1 => ?_)
  · obtain ⟨hB1, hB2, hB3⟩ := hB
    rw [ht] at hB3
    simp only [List.mem_cons, List.not_mem_nil, or_false] at hk9S
    rcases hk9S with rfl | rfl | rfl
    · exact absurd rfl hB2
    · obtain rfl : E9 = "java/lang/IllegalArgumentException" := hB1.trans rfl
      refine vx_catch (own := RL) (name := "java/lang/IllegalArgumentException") hown [] ⟨0, 11, 14, 14⟩ [⟨0, 11, 20, 16⟩] htab (fun z hz => ?_) (by decide) (by decide) (hts (.classLink RL 14 "java/lang/IllegalArgumentException") (List.mem_of_getElem? (i := 1) rfl)) (hG.2.2.2.2.2.2.1.1 ("java/lang/IllegalArgumentException", "java/lang/IllegalArgumentException") (by decide)) hc1 hc2 hc3 ?_
      · cases hz
      · refine lv_astore (lv' := [(6, .ref q9), (0, .ref h), (1, .int cl), (2, .int pa), (3, .int we), (4, .int sd)]) hx hb dL_addTender_14 hl (by decide) rfl (fun ls hl => ?_)
        refine lv_sipush (v := (-7200)) hx hb dL_addTender_16 (by decide) ?_
        refine W.widen (k := 4) (n := 114) (Nat.le_of_eq (Nat.zero_add _)) (Nat.le_of_eq (Nat.zero_add _)) ?_
        exact W.iret (v := (-7200)) hx hb hr (fun U9 ht9 hW9 => ⟨⟨_, ws, rfl, ⟨by rw [← hk9]; rfl, hcx (fun e9 => absurd (hk9.trans e9) (by decide))⟩, by show va_P D vwCl ws U9.heap; rw [ht9]; exact hB3⟩, hS1.F ht9⟩) hS1.2.2 dL_addTender_19 hlocks
    · obtain rfl : E9 = "java/lang/IllegalStateException" := hB1.trans rfl
      refine vx_catch (own := RL) (name := "java/lang/IllegalStateException") hown [⟨0, 11, 14, 14⟩] ⟨0, 11, 20, 16⟩ [] htab (fun z hz => ?_) (by decide) (by decide) (hts (.classLink RL 16 "java/lang/IllegalStateException") (List.mem_of_getElem? (i := 2) rfl)) (hG.2.2.2.2.2.2.1.1 ("java/lang/IllegalStateException", "java/lang/IllegalStateException") (by decide)) hc1 hc2 hc3 ?_
      · obtain rfl := List.mem_singleton.mp hz
        exact Or.inr ⟨by decide, _, (hts (.classLink RL 14 "java/lang/IllegalArgumentException") (List.mem_of_getElem? (i := 1) rfl)), hn3⟩
      · refine lv_astore (lv' := [(6, .ref q9), (0, .ref h), (1, .int cl), (2, .int pa), (3, .int we), (4, .int sd)]) hx hb dL_addTender_20 hl (by decide) rfl (fun ls hl => ?_)
        refine lv_sipush (v := (-7300)) hx hb dL_addTender_22 (by decide) ?_
        refine W.widen (k := 4) (n := 114) (Nat.le_of_eq (Nat.zero_add _)) (Nat.le_of_eq (Nat.zero_add _)) ?_
        exact W.iret (v := (-7300)) hx hb hr (fun U9 ht9 hW9 => ⟨⟨_, ws, rfl, ⟨by rw [← hk9]; rfl, hcx (fun e9 => absurd (hk9.trans e9) (by decide))⟩, by show va_P D vwCl ws U9.heap; rw [ht9]; exact hB3⟩, hS1.F ht9⟩) hS1.2.2 dL_addTender_25 hlocks
  · obtain ⟨ek, hrv, hc2⟩ := hu
    replace hB : va_P D vwCl u U8.heap := hB
    rw [ht] at hB
    refine lv_istore (lv' := [(5, .int r), (0, .ref h), (1, .int cl), (2, .int pa), (3, .int we), (4, .int sd)]) hx hb dL_addTender_9 hl (by decide) rfl (fun ls hl => ?_)
    refine lv_goto (tgt := 26) hx hb dL_addTender_11 (by decide) ?_
    refine lv_iload hx hb dL_addTender_26 (lv_at hl 0 rfl) ?_
    refine W.widen (k := 4) (n := 114) (Nat.le_of_eq (Nat.zero_add _)) (Nat.le_of_eq (Nat.zero_add _)) ?_
    exact W.iret (v := r) hx hb hr (fun U9 ht9 hW9 => ⟨⟨_, u, rfl, ⟨by rw [hrv, ek]; rfl, hc2⟩, by show va_P D vwCl u U9.heap; rw [ht9]; exact hB⟩, hS1.F ht9⟩) hS1.2.2 dL_addTender_28 hlocks
set_option maxHeartbeats 4000000 in
set_option maxRecDepth 100000 in
theorem cw_addLot (l : Launch) (hst : l.stackTraces = false) (D : va_G) (cI cO cb : ClassId) (eA mi : Nat) (st : Nat → Nat) (dO dT : Nat) (vF : Value) {A : Nat → Prop} (ws : va_W) {h : Nat} {M : MS} (hc : cSt cI cO eA st A h M ws) (hM : MI M) (hs : sInj st) (t : Int32) (de : Int32) : Met l yL_addLot wsL_addLot ({ frames := 8, cells := 6, slots := 126, locals := 215 }) (va_Pc [.ref h, .int t, .int de] (kB D cI cO cb eA mi st dO dT vF A ws)) (va_Qi (fun (ri : Int32) (u : va_W) => ri = er (k_addLot M t de) (if k_addLot M t de = 0 then nI (M 8 t.toNatClampNeg) else nI 0) ∧ cSt cI cO eA st A h (g_addLot M t de) u) (fun u U9 => va_P D vwCl u U9.heap) A) 6 126 A := by
  have hcx : k_addLot M t de ≠ 0 → cSt cI cO eA st A h (g_addLot M t de) ws := fun e9 => by
    have e8 : g_addLot M t de = M := by
      unfold g_addLot
      exact if_neg e9
    rw [e8]; exact hc
  obtain ⟨k9, hk9, hk9S, hMet⟩ := cq_addLot l hst D cI cO cb eA mi st ws hc hM hs t de
  obtain ⟨own9, kd, F, L, hC, hW, ⟨tn, lo, aw, co, ct, ow, G⟩, hD⟩ := hc
  have hm_1 : (h, .inr (9, [.ref (F 0 h), .ref (F 1 h), .ref (F 2 h), .ref (F 3 h), .ref (F 4 h), .int (nI (F 5 h))])) ∈ ws := hC.at G.1.1 (by decide) (by decide)
  refine met_ofWH (cc := cL_addLot) (maxL := 5) (ret := (some .int)) (hh := [(0, 7, 10, 22), (0, 7, 16, 14), (0, 7, 22, 16)]) (by decide) rfl ?_
  intro p e s m args below meth c s₁ B hml htab hv
  obtain ⟨rfl, ⟨hP, hK, ⟨hG, hGT⟩, hA⟩, hn1, hn2, hn3⟩ := hv
  have hx := B.exec
  have hb := B.bytes
  have hr := B.returns
  have hts := atoms_spec (ws := wsL_addLot) B.pre
  have hown : s.vm.findClass RL = some m.cls := findClass_of_methodNamed B.named
  have hlocks := B.notSynchronized
  have hS : va_S A s.heap s.heap [] := va_S.rf
  have hl := lv_entry ([.ref h, .int t, .int de]) (n := 5) (Nat.le_of_ble_eq_true rfl)
  rw [lg_entry_eq]
  generalize (lg_sl ([.ref h, .int t, .int de]) ++ List.replicate (5 - (lg_sl ([.ref h, .int t, .int de])).length) Slot.unset).toArray = ls at hl ⊢
  have hl : lv_has ls 5 [(0, .ref h), (1, .int t), (2, .int de)] := hl
  refine lv_aload_n hx hb dL_addLot_0 rfl (lv_at hl 0 rfl) ?_
  refine lv_iload_n hx hb dL_addLot_1 rfl (lv_at hl 1 rfl) ?_
  refine lv_iload_n hx hb dL_addLot_2 rfl (lv_at hl 2 rfl) ?_
  refine vx_calli (vx_runV (As := [.int t, .int de]) (rest := []) ⟨hx, hb, hml, hown, hts⟩ hMet (cwV 2 hts gL_addLot_X8_addLot rfl rfl rfl kd_X8_addLot ⟨Nat.le_of_ble_eq_true rfl, Nat.le_of_ble_eq_true rfl⟩) ⟨cB_blind, c_recv hK hP rfl hm_1, cB_pre hK hG hA hS hP _⟩ rfl rfl hl.1 rfl (lv_room (Nat.le_of_ble_eq_true rfl)) dL_addLot_3 ⟨Nat.le_of_eq (Nat.zero_add _), Nat.le_of_eq (Nat.zero_add _)⟩) hS (fun _ _ h => h) (fun _ h => h) (fun _ _ h => h) (fun E9 ce9 q9 u9 U8 H1 locs1 ht hvm hu hB hz1 hk1 hS1 hc1 hc2 hc3 => ?_) (fun r u U8 H1 locs1 ht hvm hu hB hz1 hk1 hS1 => ?_)
  · obtain ⟨hB1, hB2, hB3⟩ := hB
    rw [ht] at hB3
    simp only [List.mem_cons, List.not_mem_nil, or_false] at hk9S
    rcases hk9S with rfl | rfl | rfl | rfl
    · exact absurd rfl hB2
    · obtain rfl : E9 = "java/lang/IndexOutOfBoundsException" := hB1.trans rfl
      refine vx_catch (own := RL) (name := "java/lang/IndexOutOfBoundsException") hown [] ⟨0, 7, 10, 22⟩ [⟨0, 7, 16, 14⟩, ⟨0, 7, 22, 16⟩] htab (fun z hz => ?_) (by decide) (by decide) (hts (.classLink RL 22 "java/lang/IndexOutOfBoundsException") (List.mem_of_getElem? (i := 1) rfl)) (hG.2.2.2.2.2.2.1.1 ("java/lang/IndexOutOfBoundsException", "java/lang/IndexOutOfBoundsException") (by decide)) hc1 hc2 hc3 ?_
      · cases hz
      · refine lv_astore (lv' := [(4, .ref q9), (0, .ref h), (1, .int t), (2, .int de)]) hx hb dL_addLot_10 hl (by decide) rfl (fun ls hl => ?_)
        refine lv_sipush (v := (-7100)) hx hb dL_addLot_12 (by decide) ?_
        refine W.widen (k := 6) (n := 126) (Nat.le_of_eq (Nat.zero_add _)) (Nat.le_of_eq (Nat.zero_add _)) ?_
        exact W.iret (v := (-7100)) hx hb hr (fun U9 ht9 hW9 => ⟨⟨_, ws, rfl, ⟨by rw [← hk9]; rfl, hcx (fun e9 => absurd (hk9.trans e9) (by decide))⟩, by show va_P D vwCl ws U9.heap; rw [ht9]; exact hB3⟩, hS1.F ht9⟩) hS1.2.2 dL_addLot_15 hlocks
    · obtain rfl : E9 = "java/lang/IllegalArgumentException" := hB1.trans rfl
      refine vx_catch (own := RL) (name := "java/lang/IllegalArgumentException") hown [⟨0, 7, 10, 22⟩] ⟨0, 7, 16, 14⟩ [⟨0, 7, 22, 16⟩] htab (fun z hz => ?_) (by decide) (by decide) (hts (.classLink RL 14 "java/lang/IllegalArgumentException") (List.mem_of_getElem? (i := 2) rfl)) (hG.2.2.2.2.2.2.1.1 ("java/lang/IllegalArgumentException", "java/lang/IllegalArgumentException") (by decide)) hc1 hc2 hc3 ?_
      · obtain rfl := List.mem_singleton.mp hz
        exact Or.inr ⟨by decide, _, (hts (.classLink RL 22 "java/lang/IndexOutOfBoundsException") (List.mem_of_getElem? (i := 1) rfl)), hn1⟩
      · refine lv_astore (lv' := [(4, .ref q9), (0, .ref h), (1, .int t), (2, .int de)]) hx hb dL_addLot_16 hl (by decide) rfl (fun ls hl => ?_)
        refine lv_sipush (v := (-7200)) hx hb dL_addLot_18 (by decide) ?_
        refine W.widen (k := 6) (n := 126) (Nat.le_of_eq (Nat.zero_add _)) (Nat.le_of_eq (Nat.zero_add _)) ?_
        exact W.iret (v := (-7200)) hx hb hr (fun U9 ht9 hW9 => ⟨⟨_, ws, rfl, ⟨by rw [← hk9]; rfl, hcx (fun e9 => absurd (hk9.trans e9) (by decide))⟩, by show va_P D vwCl ws U9.heap; rw [ht9]; exact hB3⟩, hS1.F ht9⟩) hS1.2.2 dL_addLot_21 hlocks
    · obtain rfl : E9 = "java/lang/IllegalStateException" := hB1.trans rfl
      refine vx_catch (own := RL) (name := "java/lang/IllegalStateException") hown [⟨0, 7, 10, 22⟩, ⟨0, 7, 16, 14⟩] ⟨0, 7, 22, 16⟩ [] htab (fun z hz => ?_) (by decide) (by decide) (hts (.classLink RL 16 "java/lang/IllegalStateException") (List.mem_of_getElem? (i := 3) rfl)) (hG.2.2.2.2.2.2.1.1 ("java/lang/IllegalStateException", "java/lang/IllegalStateException") (by decide)) hc1 hc2 hc3 ?_
      · rcases List.mem_cons.mp hz with rfl | hz
        · exact Or.inr ⟨by decide, _, (hts (.classLink RL 22 "java/lang/IndexOutOfBoundsException") (List.mem_of_getElem? (i := 1) rfl)), hn2⟩
        · obtain rfl := List.mem_singleton.mp hz
          exact Or.inr ⟨by decide, _, (hts (.classLink RL 14 "java/lang/IllegalArgumentException") (List.mem_of_getElem? (i := 2) rfl)), hn3⟩
      · refine lv_astore (lv' := [(4, .ref q9), (0, .ref h), (1, .int t), (2, .int de)]) hx hb dL_addLot_22 hl (by decide) rfl (fun ls hl => ?_)
        refine lv_sipush (v := (-7300)) hx hb dL_addLot_24 (by decide) ?_
        refine W.widen (k := 6) (n := 126) (Nat.le_of_eq (Nat.zero_add _)) (Nat.le_of_eq (Nat.zero_add _)) ?_
        exact W.iret (v := (-7300)) hx hb hr (fun U9 ht9 hW9 => ⟨⟨_, ws, rfl, ⟨by rw [← hk9]; rfl, hcx (fun e9 => absurd (hk9.trans e9) (by decide))⟩, by show va_P D vwCl ws U9.heap; rw [ht9]; exact hB3⟩, hS1.F ht9⟩) hS1.2.2 dL_addLot_27 hlocks
  · obtain ⟨ek, hrv, hc2⟩ := hu
    replace hB : va_P D vwCl u U8.heap := hB
    rw [ht] at hB
    refine lv_istore_n (lv' := [(3, .int r), (0, .ref h), (1, .int t), (2, .int de)]) hx hb dL_addLot_6 rfl hl (by decide) rfl (fun ls hl => ?_)
    refine lv_goto (tgt := 28) hx hb dL_addLot_7 (by decide) ?_
    refine lv_iload_n hx hb dL_addLot_28 rfl (lv_at hl 0 rfl) ?_
    refine W.widen (k := 6) (n := 126) (Nat.le_of_eq (Nat.zero_add _)) (Nat.le_of_eq (Nat.zero_add _)) ?_
    exact W.iret (v := r) hx hb hr (fun U9 ht9 hW9 => ⟨⟨_, u, rfl, ⟨by rw [hrv, ek]; rfl, hc2⟩, by show va_P D vwCl u U9.heap; rw [ht9]; exact hB⟩, hS1.F ht9⟩) hS1.2.2 dL_addLot_29 hlocks
set_option maxHeartbeats 4000000 in
set_option maxRecDepth 100000 in
theorem cw_paper (l : Launch) (hst : l.stackTraces = false) (D : va_G) (cI cO cb : ClassId) (eA mi : Nat) (st : Nat → Nat) (dO dT : Nat) (vF : Value) {A : Nat → Prop} (ws : va_W) {h : Nat} {M : MS} (hc : cSt cI cO eA st A h M ws) (hM : MI M) (hs : sInj st) (b : Int32) (k : Int32) (uu : Int32) : Met l yL_paper wsL_paper ({ frames := 7, cells := 1, slots := 6, locals := 106 }) (va_Pc [.ref h, .int b, .int k, .int uu] (kB D cI cO cb eA mi st dO dT vF A ws)) (va_Qi (fun (ri : Int32) (u : va_W) => ri = er (k_paper b k uu) (r_paper M b k uu) ∧ cSt cI cO eA st A h (g_paper M b k uu) u) (fun u U9 => va_P D vwCl u U9.heap) A) 1 6 A := by
  have hcx : k_paper b k uu ≠ 0 → cSt cI cO eA st A h (g_paper M b k uu) ws := fun e9 => by
    have e8 : g_paper M b k uu = M := by
      unfold g_paper
      exact if_neg e9
    rw [e8]; exact hc
  obtain ⟨k9, hk9, hk9S, hMet⟩ := cq_paper l hst D cI cO cb eA mi st ws hc hM hs b k uu
  obtain ⟨own9, kd, F, L, hC, hW, ⟨tn, lo, aw, co, ct, ow, G⟩, hD⟩ := hc
  have hm_1 : (h, .inr (9, [.ref (F 0 h), .ref (F 1 h), .ref (F 2 h), .ref (F 3 h), .ref (F 4 h), .int (nI (F 5 h))])) ∈ ws := hC.at G.1.1 (by decide) (by decide)
  refine met_ofWH (cc := cL_paper) (maxL := 6) (ret := (some .int)) (hh := [(0, 9, 12, 22), (0, 9, 18, 14)]) (by decide) rfl ?_
  intro p e s m args below meth c s₁ B hml htab hv
  obtain ⟨rfl, ⟨hP, hK, ⟨hG, hGT⟩, hA⟩, hn1, hn2, hn3⟩ := hv
  have hx := B.exec
  have hb := B.bytes
  have hr := B.returns
  have hts := atoms_spec (ws := wsL_paper) B.pre
  have hown : s.vm.findClass RL = some m.cls := findClass_of_methodNamed B.named
  have hlocks := B.notSynchronized
  have hS : va_S A s.heap s.heap [] := va_S.rf
  have hl := lv_entry ([.ref h, .int b, .int k, .int uu]) (n := 6) (Nat.le_of_ble_eq_true rfl)
  rw [lg_entry_eq]
  generalize (lg_sl ([.ref h, .int b, .int k, .int uu]) ++ List.replicate (6 - (lg_sl ([.ref h, .int b, .int k, .int uu])).length) Slot.unset).toArray = ls at hl ⊢
  have hl : lv_has ls 6 [(0, .ref h), (1, .int b), (2, .int k), (3, .int uu)] := hl
  refine lv_aload_n hx hb dL_paper_0 rfl (lv_at hl 0 rfl) ?_
  refine lv_iload_n hx hb dL_paper_1 rfl (lv_at hl 1 rfl) ?_
  refine lv_iload_n hx hb dL_paper_2 rfl (lv_at hl 2 rfl) ?_
  refine lv_iload_n hx hb dL_paper_3 rfl (lv_at hl 3 rfl) ?_
  refine vx_calli (vx_runV (As := [.int b, .int k, .int uu]) (rest := []) ⟨hx, hb, hml, hown, hts⟩ hMet (cwV 3 hts gL_paper_X8_paper rfl rfl rfl kd_X8_paper ⟨Nat.le_of_ble_eq_true rfl, Nat.le_of_ble_eq_true rfl⟩) ⟨cB_blind, c_recv hK hP rfl hm_1, cB_pre hK hG hA hS hP _⟩ rfl rfl hl.1 rfl (lv_room (Nat.le_of_ble_eq_true rfl)) dL_paper_4 ⟨Nat.le_of_eq (Nat.zero_add _), Nat.le_of_eq (Nat.zero_add _)⟩) hS (fun _ _ h => h) (fun _ h => h) (fun _ _ h => h) (fun E9 ce9 q9 u9 U8 H1 locs1 ht hvm hu hB hz1 hk1 hS1 hc1 hc2 hc3 => ?_) (fun r u U8 H1 locs1 ht hvm hu hB hz1 hk1 hS1 => ?_)
  · obtain ⟨hB1, hB2, hB3⟩ := hB
    rw [ht] at hB3
    simp only [List.mem_cons, List.not_mem_nil, or_false] at hk9S
    rcases hk9S with rfl | rfl | rfl
    · exact absurd rfl hB2
    · obtain rfl : E9 = "java/lang/IndexOutOfBoundsException" := hB1.trans rfl
      refine vx_catch (own := RL) (name := "java/lang/IndexOutOfBoundsException") hown [] ⟨0, 9, 12, 22⟩ [⟨0, 9, 18, 14⟩] htab (fun z hz => ?_) (by decide) (by decide) (hts (.classLink RL 22 "java/lang/IndexOutOfBoundsException") (List.mem_of_getElem? (i := 1) rfl)) (hG.2.2.2.2.2.2.1.1 ("java/lang/IndexOutOfBoundsException", "java/lang/IndexOutOfBoundsException") (by decide)) hc1 hc2 hc3 ?_
      · cases hz
      · refine lv_astore (lv' := [(5, .ref q9), (0, .ref h), (1, .int b), (2, .int k), (3, .int uu)]) hx hb dL_paper_12 hl (by decide) rfl (fun ls hl => ?_)
        refine lv_sipush (v := (-7100)) hx hb dL_paper_14 (by decide) ?_
        refine W.widen (k := 1) (n := 6) (Nat.le_of_eq (Nat.zero_add _)) (Nat.le_of_eq (Nat.zero_add _)) ?_
        exact W.iret (v := (-7100)) hx hb hr (fun U9 ht9 hW9 => ⟨⟨_, ws, rfl, ⟨by rw [← hk9]; rfl, hcx (fun e9 => absurd (hk9.trans e9) (by decide))⟩, by show va_P D vwCl ws U9.heap; rw [ht9]; exact hB3⟩, hS1.F ht9⟩) hS1.2.2 dL_paper_17 hlocks
    · obtain rfl : E9 = "java/lang/IllegalArgumentException" := hB1.trans rfl
      refine vx_catch (own := RL) (name := "java/lang/IllegalArgumentException") hown [⟨0, 9, 12, 22⟩] ⟨0, 9, 18, 14⟩ [] htab (fun z hz => ?_) (by decide) (by decide) (hts (.classLink RL 14 "java/lang/IllegalArgumentException") (List.mem_of_getElem? (i := 2) rfl)) (hG.2.2.2.2.2.2.1.1 ("java/lang/IllegalArgumentException", "java/lang/IllegalArgumentException") (by decide)) hc1 hc2 hc3 ?_
      · obtain rfl := List.mem_singleton.mp hz
        exact Or.inr ⟨by decide, _, (hts (.classLink RL 22 "java/lang/IndexOutOfBoundsException") (List.mem_of_getElem? (i := 1) rfl)), hn1⟩
      · refine lv_astore (lv' := [(5, .ref q9), (0, .ref h), (1, .int b), (2, .int k), (3, .int uu)]) hx hb dL_paper_18 hl (by decide) rfl (fun ls hl => ?_)
        refine lv_sipush (v := (-7200)) hx hb dL_paper_20 (by decide) ?_
        refine W.widen (k := 1) (n := 6) (Nat.le_of_eq (Nat.zero_add _)) (Nat.le_of_eq (Nat.zero_add _)) ?_
        exact W.iret (v := (-7200)) hx hb hr (fun U9 ht9 hW9 => ⟨⟨_, ws, rfl, ⟨by rw [← hk9]; rfl, hcx (fun e9 => absurd (hk9.trans e9) (by decide))⟩, by show va_P D vwCl ws U9.heap; rw [ht9]; exact hB3⟩, hS1.F ht9⟩) hS1.2.2 dL_paper_23 hlocks
  · obtain ⟨ek, hrv, hc2⟩ := hu
    replace hB : va_P D vwCl u U8.heap := hB
    rw [ht] at hB
    refine lv_istore (lv' := [(4, .int r), (0, .ref h), (1, .int b), (2, .int k), (3, .int uu)]) hx hb dL_paper_7 hl (by decide) rfl (fun ls hl => ?_)
    refine lv_goto (tgt := 24) hx hb dL_paper_9 (by decide) ?_
    refine lv_iload hx hb dL_paper_24 (lv_at hl 0 rfl) ?_
    refine W.widen (k := 1) (n := 6) (Nat.le_of_eq (Nat.zero_add _)) (Nat.le_of_eq (Nat.zero_add _)) ?_
    exact W.iret (v := r) hx hb hr (fun U9 ht9 hW9 => ⟨⟨_, u, rfl, ⟨by rw [hrv, ek]; rfl, hc2⟩, by show va_P D vwCl u U9.heap; rw [ht9]; exact hB⟩, hS1.F ht9⟩) hS1.2.2 dL_paper_26 hlocks
set_option maxHeartbeats 4000000 in
set_option maxRecDepth 100000 in
theorem cw_bid (l : Launch) (hst : l.stackTraces = false) (D : va_G) (cI cO cb : ClassId) (eA mi : Nat) (st : Nat → Nat) (dO dT : Nat) (vF : Value) {A : Nat → Prop} (ws : va_W) {h : Nat} {M : MS} (hc : cSt cI cO eA st A h M ws) (hM : MI M) (hs : sInj st) (b : Int32) (t : Int32) (k : Int32) (pr : Int32) (qu : Int32) : Met l yL_bid wsL_bid ({ frames := 9, cells := 6, slots := 132, locals := 217 }) (va_Pc [.ref h, .int b, .int t, .int k, .int pr, .int qu] (kB D cI cO cb eA mi st dO dT vF A ws)) (va_Qi (fun (ri : Int32) (u : va_W) => ri = er (k_bid M b t k pr qu) (r_bid M b t k pr qu) ∧ cSt cI cO eA st A h (g_bid M b t k pr qu) u) (fun u U9 => va_P D vwCl u U9.heap) A) 6 132 A := by
  have hcx : k_bid M b t k pr qu ≠ 0 → cSt cI cO eA st A h (g_bid M b t k pr qu) ws := fun e9 => by
    have e8 : g_bid M b t k pr qu = M := by
      unfold g_bid
      exact if_neg e9
    rw [e8]; exact hc
  obtain ⟨k9, hk9, hk9S, hMet⟩ := cq_bid l hst D cI cO cb eA mi st ws hc hM hs b t k pr qu
  obtain ⟨own9, kd, F, L, hC, hW, ⟨tn, lo, aw, co, ct, ow, G⟩, hD⟩ := hc
  have hm_1 : (h, .inr (9, [.ref (F 0 h), .ref (F 1 h), .ref (F 2 h), .ref (F 3 h), .ref (F 4 h), .int (nI (F 5 h))])) ∈ ws := hC.at G.1.1 (by decide) (by decide)
  refine met_ofWH (cc := cL_bid) (maxL := 8) (ret := (some .int)) (hh := [(0, 13, 16, 22), (0, 13, 22, 14), (0, 13, 28, 16)]) (by decide) rfl ?_
  intro p e s m args below meth c s₁ B hml htab hv
  obtain ⟨rfl, ⟨hP, hK, ⟨hG, hGT⟩, hA⟩, hn1, hn2, hn3⟩ := hv
  have hx := B.exec
  have hb := B.bytes
  have hr := B.returns
  have hts := atoms_spec (ws := wsL_bid) B.pre
  have hown : s.vm.findClass RL = some m.cls := findClass_of_methodNamed B.named
  have hlocks := B.notSynchronized
  have hS : va_S A s.heap s.heap [] := va_S.rf
  have hl := lv_entry ([.ref h, .int b, .int t, .int k, .int pr, .int qu]) (n := 8) (Nat.le_of_ble_eq_true rfl)
  rw [lg_entry_eq]
  generalize (lg_sl ([.ref h, .int b, .int t, .int k, .int pr, .int qu]) ++ List.replicate (8 - (lg_sl ([.ref h, .int b, .int t, .int k, .int pr, .int qu])).length) Slot.unset).toArray = ls at hl ⊢
  have hl : lv_has ls 8 [(0, .ref h), (1, .int b), (2, .int t), (3, .int k), (4, .int pr), (5, .int qu)] := hl
  refine lv_aload_n hx hb dL_bid_0 rfl (lv_at hl 0 rfl) ?_
  refine lv_iload_n hx hb dL_bid_1 rfl (lv_at hl 1 rfl) ?_
  refine lv_iload_n hx hb dL_bid_2 rfl (lv_at hl 2 rfl) ?_
  refine lv_iload_n hx hb dL_bid_3 rfl (lv_at hl 3 rfl) ?_
  refine lv_iload hx hb dL_bid_4 (lv_at hl 4 rfl) ?_
  refine lv_iload hx hb dL_bid_6 (lv_at hl 5 rfl) ?_
  refine vx_calli (vx_runV (As := [.int b, .int t, .int k, .int pr, .int qu]) (rest := []) ⟨hx, hb, hml, hown, hts⟩ hMet (cwV 5 hts gL_bid_X8_bid rfl rfl rfl kd_X8_bid ⟨Nat.le_of_ble_eq_true rfl, Nat.le_of_ble_eq_true rfl⟩) ⟨cB_blind, c_recv hK hP rfl hm_1, cB_pre hK hG hA hS hP _⟩ rfl rfl hl.1 rfl (lv_room (Nat.le_of_ble_eq_true rfl)) dL_bid_8 ⟨Nat.le_of_eq (Nat.zero_add _), Nat.le_of_eq (Nat.zero_add _)⟩) hS (fun _ _ h => h) (fun _ h => h) (fun _ _ h => h) (fun E9 ce9 q9 u9 U8 H1 locs1 ht hvm hu hB hz1 hk1 hS1 hc1 hc2 hc3 => ?_) (fun r u U8 H1 locs1 ht hvm hu hB hz1 hk1 hS1 => ?_)
  · obtain ⟨hB1, hB2, hB3⟩ := hB
    rw [ht] at hB3
    simp only [List.mem_cons, List.not_mem_nil, or_false] at hk9S
    rcases hk9S with rfl | rfl | rfl | rfl
    · exact absurd rfl hB2
    · obtain rfl : E9 = "java/lang/IndexOutOfBoundsException" := hB1.trans rfl
      refine vx_catch (own := RL) (name := "java/lang/IndexOutOfBoundsException") hown [] ⟨0, 13, 16, 22⟩ [⟨0, 13, 22, 14⟩, ⟨0, 13, 28, 16⟩] htab (fun z hz => ?_) (by decide) (by decide) (hts (.classLink RL 22 "java/lang/IndexOutOfBoundsException") (List.mem_of_getElem? (i := 1) rfl)) (hG.2.2.2.2.2.2.1.1 ("java/lang/IndexOutOfBoundsException", "java/lang/IndexOutOfBoundsException") (by decide)) hc1 hc2 hc3 ?_
      · cases hz
      · refine lv_astore (lv' := [(7, .ref q9), (0, .ref h), (1, .int b), (2, .int t), (3, .int k), (4, .int pr), (5, .int qu)]) hx hb dL_bid_16 hl (by decide) rfl (fun ls hl => ?_)
        refine lv_sipush (v := (-7100)) hx hb dL_bid_18 (by decide) ?_
        refine W.widen (k := 6) (n := 132) (Nat.le_of_eq (Nat.zero_add _)) (Nat.le_of_eq (Nat.zero_add _)) ?_
        exact W.iret (v := (-7100)) hx hb hr (fun U9 ht9 hW9 => ⟨⟨_, ws, rfl, ⟨by rw [← hk9]; rfl, hcx (fun e9 => absurd (hk9.trans e9) (by decide))⟩, by show va_P D vwCl ws U9.heap; rw [ht9]; exact hB3⟩, hS1.F ht9⟩) hS1.2.2 dL_bid_21 hlocks
    · obtain rfl : E9 = "java/lang/IllegalArgumentException" := hB1.trans rfl
      refine vx_catch (own := RL) (name := "java/lang/IllegalArgumentException") hown [⟨0, 13, 16, 22⟩] ⟨0, 13, 22, 14⟩ [⟨0, 13, 28, 16⟩] htab (fun z hz => ?_) (by decide) (by decide) (hts (.classLink RL 14 "java/lang/IllegalArgumentException") (List.mem_of_getElem? (i := 2) rfl)) (hG.2.2.2.2.2.2.1.1 ("java/lang/IllegalArgumentException", "java/lang/IllegalArgumentException") (by decide)) hc1 hc2 hc3 ?_
      · obtain rfl := List.mem_singleton.mp hz
        exact Or.inr ⟨by decide, _, (hts (.classLink RL 22 "java/lang/IndexOutOfBoundsException") (List.mem_of_getElem? (i := 1) rfl)), hn1⟩
      · refine lv_astore (lv' := [(7, .ref q9), (0, .ref h), (1, .int b), (2, .int t), (3, .int k), (4, .int pr), (5, .int qu)]) hx hb dL_bid_22 hl (by decide) rfl (fun ls hl => ?_)
        refine lv_sipush (v := (-7200)) hx hb dL_bid_24 (by decide) ?_
        refine W.widen (k := 6) (n := 132) (Nat.le_of_eq (Nat.zero_add _)) (Nat.le_of_eq (Nat.zero_add _)) ?_
        exact W.iret (v := (-7200)) hx hb hr (fun U9 ht9 hW9 => ⟨⟨_, ws, rfl, ⟨by rw [← hk9]; rfl, hcx (fun e9 => absurd (hk9.trans e9) (by decide))⟩, by show va_P D vwCl ws U9.heap; rw [ht9]; exact hB3⟩, hS1.F ht9⟩) hS1.2.2 dL_bid_27 hlocks
    · obtain rfl : E9 = "java/lang/IllegalStateException" := hB1.trans rfl
      refine vx_catch (own := RL) (name := "java/lang/IllegalStateException") hown [⟨0, 13, 16, 22⟩, ⟨0, 13, 22, 14⟩] ⟨0, 13, 28, 16⟩ [] htab (fun z hz => ?_) (by decide) (by decide) (hts (.classLink RL 16 "java/lang/IllegalStateException") (List.mem_of_getElem? (i := 3) rfl)) (hG.2.2.2.2.2.2.1.1 ("java/lang/IllegalStateException", "java/lang/IllegalStateException") (by decide)) hc1 hc2 hc3 ?_
      · rcases List.mem_cons.mp hz with rfl | hz
        · exact Or.inr ⟨by decide, _, (hts (.classLink RL 22 "java/lang/IndexOutOfBoundsException") (List.mem_of_getElem? (i := 1) rfl)), hn2⟩
        · obtain rfl := List.mem_singleton.mp hz
          exact Or.inr ⟨by decide, _, (hts (.classLink RL 14 "java/lang/IllegalArgumentException") (List.mem_of_getElem? (i := 2) rfl)), hn3⟩
      · refine lv_astore (lv' := [(7, .ref q9), (0, .ref h), (1, .int b), (2, .int t), (3, .int k), (4, .int pr), (5, .int qu)]) hx hb dL_bid_28 hl (by decide) rfl (fun ls hl => ?_)
        refine lv_sipush (v := (-7300)) hx hb dL_bid_30 (by decide) ?_
        refine W.widen (k := 6) (n := 132) (Nat.le_of_eq (Nat.zero_add _)) (Nat.le_of_eq (Nat.zero_add _)) ?_
        exact W.iret (v := (-7300)) hx hb hr (fun U9 ht9 hW9 => ⟨⟨_, ws, rfl, ⟨by rw [← hk9]; rfl, hcx (fun e9 => absurd (hk9.trans e9) (by decide))⟩, by show va_P D vwCl ws U9.heap; rw [ht9]; exact hB3⟩, hS1.F ht9⟩) hS1.2.2 dL_bid_33 hlocks
  · obtain ⟨ek, hrv, hc2⟩ := hu
    replace hB : va_P D vwCl u U8.heap := hB
    rw [ht] at hB
    refine lv_istore (lv' := [(6, .int r), (0, .ref h), (1, .int b), (2, .int t), (3, .int k), (4, .int pr), (5, .int qu)]) hx hb dL_bid_11 hl (by decide) rfl (fun ls hl => ?_)
    refine lv_goto (tgt := 34) hx hb dL_bid_13 (by decide) ?_
    refine lv_iload hx hb dL_bid_34 (lv_at hl 0 rfl) ?_
    refine W.widen (k := 6) (n := 132) (Nat.le_of_eq (Nat.zero_add _)) (Nat.le_of_eq (Nat.zero_add _)) ?_
    exact W.iret (v := r) hx hb hr (fun U9 ht9 hW9 => ⟨⟨_, u, rfl, ⟨by rw [hrv, ek]; rfl, hc2⟩, by show va_P D vwCl u U9.heap; rw [ht9]; exact hB⟩, hS1.F ht9⟩) hS1.2.2 dL_bid_36 hlocks
set_option maxHeartbeats 4000000 in
set_option maxRecDepth 100000 in
theorem cw_withdraw (l : Launch) (hst : l.stackTraces = false) (D : va_G) (cI cO cb : ClassId) (eA mi : Nat) (st : Nat → Nat) (dO dT : Nat) (vF : Value) {A : Nat → Prop} (ws : va_W) {h : Nat} {M : MS} (hc : cSt cI cO eA st A h M ws) (hM : MI M) (hs : sInj st) (b : Int32) (t : Int32) (k : Int32) : Met l yL_withdraw wsL_withdraw ({ frames := 9, cells := 4, slots := 24, locals := 153 }) (va_Pc [.ref h, .int b, .int t, .int k] (kB D cI cO cb eA mi st dO dT vF A ws)) (va_Qi (fun (ri : Int32) (u : va_W) => ri = e13 (k_withdraw M b t k) (r_withdraw M b t k) ∧ cSt cI cO eA st A h (g_withdraw M b t k) u) (fun u U9 => va_P D vwCl u U9.heap) A) 4 24 A := by
  have hcx : k_withdraw M b t k ≠ 0 → cSt cI cO eA st A h (g_withdraw M b t k) ws := fun e9 => by
    have e8 : g_withdraw M b t k = M := by
      unfold g_withdraw
      exact if_neg e9
    rw [e8]; exact hc
  obtain ⟨k9, hk9, hk9S, hMet⟩ := cq_withdraw l hst D cI cO cb eA mi st ws hc hM hs b t k
  obtain ⟨own9, kd, F, L, hC, hW, ⟨tn, lo, aw, co, ct, ow, G⟩, hD⟩ := hc
  have hm_1 : (h, .inr (9, [.ref (F 0 h), .ref (F 1 h), .ref (F 2 h), .ref (F 3 h), .ref (F 4 h), .int (nI (F 5 h))])) ∈ ws := hC.at G.1.1 (by decide) (by decide)
  refine met_ofWH (cc := cL_withdraw) (maxL := 6) (ret := (some .int)) (hh := [(0, 9, 12, 22), (0, 9, 18, 16)]) (by decide) rfl ?_
  intro p e s m args below meth c s₁ B hml htab hv
  obtain ⟨rfl, ⟨hP, hK, ⟨hG, hGT⟩, hA⟩, hn1, hn2, hn3⟩ := hv
  have hx := B.exec
  have hb := B.bytes
  have hr := B.returns
  have hts := atoms_spec (ws := wsL_withdraw) B.pre
  have hown : s.vm.findClass RL = some m.cls := findClass_of_methodNamed B.named
  have hlocks := B.notSynchronized
  have hS : va_S A s.heap s.heap [] := va_S.rf
  have hl := lv_entry ([.ref h, .int b, .int t, .int k]) (n := 6) (Nat.le_of_ble_eq_true rfl)
  rw [lg_entry_eq]
  generalize (lg_sl ([.ref h, .int b, .int t, .int k]) ++ List.replicate (6 - (lg_sl ([.ref h, .int b, .int t, .int k])).length) Slot.unset).toArray = ls at hl ⊢
  have hl : lv_has ls 6 [(0, .ref h), (1, .int b), (2, .int t), (3, .int k)] := hl
  refine lv_aload_n hx hb dL_withdraw_0 rfl (lv_at hl 0 rfl) ?_
  refine lv_iload_n hx hb dL_withdraw_1 rfl (lv_at hl 1 rfl) ?_
  refine lv_iload_n hx hb dL_withdraw_2 rfl (lv_at hl 2 rfl) ?_
  refine lv_iload_n hx hb dL_withdraw_3 rfl (lv_at hl 3 rfl) ?_
  refine vx_calli (vx_runV (As := [.int b, .int t, .int k]) (rest := []) ⟨hx, hb, hml, hown, hts⟩ hMet (cwV 3 hts gL_withdraw_X8_withdraw rfl rfl rfl kd_X8_withdraw ⟨Nat.le_of_ble_eq_true rfl, Nat.le_of_ble_eq_true rfl⟩) ⟨cB_blind, c_recv hK hP rfl hm_1, cB_pre hK hG hA hS hP _⟩ rfl rfl hl.1 rfl (lv_room (Nat.le_of_ble_eq_true rfl)) dL_withdraw_4 ⟨Nat.le_of_eq (Nat.zero_add _), Nat.le_of_eq (Nat.zero_add _)⟩) hS (fun _ _ h => h) (fun _ h => h) (fun _ _ h => h) (fun E9 ce9 q9 u9 U8 H1 locs1 ht hvm hu hB hz1 hk1 hS1 hc1 hc2 hc3 => ?_) (fun r u U8 H1 locs1 ht hvm hu hB hz1 hk1 hS1 => ?_)
  · obtain ⟨hB1, hB2, hB3⟩ := hB
    rw [ht] at hB3
    simp only [List.mem_cons, List.not_mem_nil, or_false] at hk9S
    rcases hk9S with rfl | rfl | rfl
    · exact absurd rfl hB2
    · obtain rfl : E9 = "java/lang/IndexOutOfBoundsException" := hB1.trans rfl
      refine vx_catch (own := RL) (name := "java/lang/IndexOutOfBoundsException") hown [] ⟨0, 9, 12, 22⟩ [⟨0, 9, 18, 16⟩] htab (fun z hz => ?_) (by decide) (by decide) (hts (.classLink RL 22 "java/lang/IndexOutOfBoundsException") (List.mem_of_getElem? (i := 1) rfl)) (hG.2.2.2.2.2.2.1.1 ("java/lang/IndexOutOfBoundsException", "java/lang/IndexOutOfBoundsException") (by decide)) hc1 hc2 hc3 ?_
      · cases hz
      · refine lv_astore (lv' := [(5, .ref q9), (0, .ref h), (1, .int b), (2, .int t), (3, .int k)]) hx hb dL_withdraw_12 hl (by decide) rfl (fun ls hl => ?_)
        refine lv_sipush (v := (-7100)) hx hb dL_withdraw_14 (by decide) ?_
        refine W.widen (k := 4) (n := 24) (Nat.le_of_eq (Nat.zero_add _)) (Nat.le_of_eq (Nat.zero_add _)) ?_
        exact W.iret (v := (-7100)) hx hb hr (fun U9 ht9 hW9 => ⟨⟨_, ws, rfl, ⟨by rw [← hk9]; rfl, hcx (fun e9 => absurd (hk9.trans e9) (by decide))⟩, by show va_P D vwCl ws U9.heap; rw [ht9]; exact hB3⟩, hS1.F ht9⟩) hS1.2.2 dL_withdraw_17 hlocks
    · obtain rfl : E9 = "java/lang/IllegalStateException" := hB1.trans rfl
      refine vx_catch (own := RL) (name := "java/lang/IllegalStateException") hown [⟨0, 9, 12, 22⟩] ⟨0, 9, 18, 16⟩ [] htab (fun z hz => ?_) (by decide) (by decide) (hts (.classLink RL 16 "java/lang/IllegalStateException") (List.mem_of_getElem? (i := 2) rfl)) (hG.2.2.2.2.2.2.1.1 ("java/lang/IllegalStateException", "java/lang/IllegalStateException") (by decide)) hc1 hc2 hc3 ?_
      · obtain rfl := List.mem_singleton.mp hz
        exact Or.inr ⟨by decide, _, (hts (.classLink RL 22 "java/lang/IndexOutOfBoundsException") (List.mem_of_getElem? (i := 1) rfl)), hn2⟩
      · refine lv_astore (lv' := [(5, .ref q9), (0, .ref h), (1, .int b), (2, .int t), (3, .int k)]) hx hb dL_withdraw_18 hl (by decide) rfl (fun ls hl => ?_)
        refine lv_sipush (v := (-7300)) hx hb dL_withdraw_20 (by decide) ?_
        refine W.widen (k := 4) (n := 24) (Nat.le_of_eq (Nat.zero_add _)) (Nat.le_of_eq (Nat.zero_add _)) ?_
        exact W.iret (v := (-7300)) hx hb hr (fun U9 ht9 hW9 => ⟨⟨_, ws, rfl, ⟨by rw [← hk9]; rfl, hcx (fun e9 => absurd (hk9.trans e9) (by decide))⟩, by show va_P D vwCl ws U9.heap; rw [ht9]; exact hB3⟩, hS1.F ht9⟩) hS1.2.2 dL_withdraw_23 hlocks
  · obtain ⟨ek, hrv, hc2⟩ := hu
    replace hB : va_P D vwCl u U8.heap := hB
    rw [ht] at hB
    refine lv_istore (lv' := [(4, .int r), (0, .ref h), (1, .int b), (2, .int t), (3, .int k)]) hx hb dL_withdraw_7 hl (by decide) rfl (fun ls hl => ?_)
    refine lv_goto (tgt := 24) hx hb dL_withdraw_9 (by decide) ?_
    refine lv_iload hx hb dL_withdraw_24 (lv_at hl 0 rfl) ?_
    refine W.widen (k := 4) (n := 24) (Nat.le_of_eq (Nat.zero_add _)) (Nat.le_of_eq (Nat.zero_add _)) ?_
    exact W.iret (v := r) hx hb hr (fun U9 ht9 hW9 => ⟨⟨_, u, rfl, ⟨by rw [hrv, ek]; rfl, hc2⟩, by show va_P D vwCl u U9.heap; rw [ht9]; exact hB⟩, hS1.F ht9⟩) hS1.2.2 dL_withdraw_26 hlocks
set_option maxHeartbeats 4000000 in
set_option maxRecDepth 100000 in
theorem cw_pass (l : Launch) (hst : l.stackTraces = false) (D : va_G) (cI cO cb : ClassId) (eA mi : Nat) (st : Nat → Nat) (dO dT : Nat) (vF : Value) {A : Nat → Prop} (ws : va_W) {h : Nat} {M : MS} (hc : cSt cI cO eA st A h M ws) (hM : MI M) (hs : sInj st) (hLB : m_LB M) (dd : Int32) : Met l yL_pass wsL_pass ({ frames := 11, cells := (4 * dyN M dd dd.toNatClampNeg + 1), slots := (202 * dyN M dd dd.toNatClampNeg + 6), locals := 283 }) (va_Pc [.ref h, .int dd] (kB D cI cO cb eA mi st dO dT vF A ws)) (va_Qi (fun (ri : Int32) (u : va_W) => ri = e23 (k_pass M dd) (r_pass M dd) ∧ cSt cI cO eA st A h (g_pass M dd) u) (fun u U9 => va_P D vwCl u U9.heap) A) (4 * dyN M dd dd.toNatClampNeg + 1) (202 * dyN M dd dd.toNatClampNeg + 6) A := by
  have hcx : k_pass M dd ≠ 0 → cSt cI cO eA st A h (g_pass M dd) ws := fun e9 => by
    have e8 : g_pass M dd = M := by
      unfold g_pass
      exact if_neg e9
    rw [e8]; exact hc
  obtain ⟨k9, hk9, hk9S, hMet⟩ := cq_pass l hst D cI cO cb eA mi st ws hc hM hs hLB dd
  obtain ⟨own9, kd, F, L, hC, hW, ⟨tn, lo, aw, co, ct, ow, G⟩, hD⟩ := hc
  have hm_1 : (h, .inr (9, [.ref (F 0 h), .ref (F 1 h), .ref (F 2 h), .ref (F 3 h), .ref (F 4 h), .int (nI (F 5 h))])) ∈ ws := hC.at G.1.1 (by decide) (by decide)
  refine met_ofWH (cc := cL_pass) (maxL := 4) (ret := (some .int)) (hh := [(0, 6, 9, 14), (0, 6, 14, 16)]) (by decide) rfl ?_
  intro p e s m args below meth c s₁ B hml htab hv
  obtain ⟨rfl, ⟨hP, hK, ⟨hG, hGT⟩, hA⟩, hn1, hn2, hn3⟩ := hv
  have hx := B.exec
  have hb := B.bytes
  have hr := B.returns
  have hts := atoms_spec (ws := wsL_pass) B.pre
  have hown : s.vm.findClass RL = some m.cls := findClass_of_methodNamed B.named
  have hlocks := B.notSynchronized
  have hS : va_S A s.heap s.heap [] := va_S.rf
  have hl := lv_entry ([.ref h, .int dd]) (n := 4) (Nat.le_of_ble_eq_true rfl)
  rw [lg_entry_eq]
  generalize (lg_sl ([.ref h, .int dd]) ++ List.replicate (4 - (lg_sl ([.ref h, .int dd])).length) Slot.unset).toArray = ls at hl ⊢
  have hl : lv_has ls 4 [(0, .ref h), (1, .int dd)] := hl
  refine lv_aload_n hx hb dL_pass_0 rfl (lv_at hl 0 rfl) ?_
  refine lv_iload_n hx hb dL_pass_1 rfl (lv_at hl 1 rfl) ?_
  refine vx_calli (vx_runV (As := [.int dd]) (rest := []) ⟨hx, hb, hml, hown, hts⟩ hMet (cwV 1 hts gL_pass_X8_pass rfl rfl rfl kd_X8_pass ⟨Nat.le_of_ble_eq_true rfl, Nat.le_of_ble_eq_true rfl⟩) ⟨cB_blind, c_recv hK hP rfl hm_1, cB_pre hK hG hA hS hP _⟩ rfl rfl hl.1 rfl (lv_room (Nat.le_of_ble_eq_true rfl)) dL_pass_2 ⟨Nat.le_of_eq (Nat.zero_add _), Nat.le_of_eq (Nat.zero_add _)⟩) hS (fun _ _ h => h) (fun _ h => h) (fun _ _ h => h) (fun E9 ce9 q9 u9 U8 H1 locs1 ht hvm hu hB hz1 hk1 hS1 hc1 hc2 hc3 => ?_) (fun r u U8 H1 locs1 ht hvm hu hB hz1 hk1 hS1 => ?_)
  · obtain ⟨hB1, hB2, hB3⟩ := hB
    rw [ht] at hB3
    simp only [List.mem_cons, List.not_mem_nil, or_false] at hk9S
    rcases hk9S with rfl | rfl | rfl
    · exact absurd rfl hB2
    · obtain rfl : E9 = "java/lang/IllegalArgumentException" := hB1.trans rfl
      refine vx_catch (own := RL) (name := "java/lang/IllegalArgumentException") hown [] ⟨0, 6, 9, 14⟩ [⟨0, 6, 14, 16⟩] htab (fun z hz => ?_) (by decide) (by decide) (hts (.classLink RL 14 "java/lang/IllegalArgumentException") (List.mem_of_getElem? (i := 1) rfl)) (hG.2.2.2.2.2.2.1.1 ("java/lang/IllegalArgumentException", "java/lang/IllegalArgumentException") (by decide)) hc1 hc2 hc3 ?_
      · cases hz
      · refine lv_astore_n (lv' := [(3, .ref q9), (0, .ref h), (1, .int dd)]) hx hb dL_pass_9 rfl hl (by decide) rfl (fun ls hl => ?_)
        refine lv_sipush (v := (-7200)) hx hb dL_pass_10 (by decide) ?_
        refine W.widen (k := (4 * dyN M dd dd.toNatClampNeg + 1)) (n := (202 * dyN M dd dd.toNatClampNeg + 6)) (Nat.le_of_eq (Nat.zero_add _)) (Nat.le_of_eq (Nat.zero_add _)) ?_
        exact W.iret (v := (-7200)) hx hb hr (fun U9 ht9 hW9 => ⟨⟨_, ws, rfl, ⟨by rw [← hk9]; rfl, hcx (fun e9 => absurd (hk9.trans e9) (by decide))⟩, by show va_P D vwCl ws U9.heap; rw [ht9]; exact hB3⟩, hS1.F ht9⟩) hS1.2.2 dL_pass_13 hlocks
    · obtain rfl : E9 = "java/lang/IllegalStateException" := hB1.trans rfl
      refine vx_catch (own := RL) (name := "java/lang/IllegalStateException") hown [⟨0, 6, 9, 14⟩] ⟨0, 6, 14, 16⟩ [] htab (fun z hz => ?_) (by decide) (by decide) (hts (.classLink RL 16 "java/lang/IllegalStateException") (List.mem_of_getElem? (i := 2) rfl)) (hG.2.2.2.2.2.2.1.1 ("java/lang/IllegalStateException", "java/lang/IllegalStateException") (by decide)) hc1 hc2 hc3 ?_
      · obtain rfl := List.mem_singleton.mp hz
        exact Or.inr ⟨by decide, _, (hts (.classLink RL 14 "java/lang/IllegalArgumentException") (List.mem_of_getElem? (i := 1) rfl)), hn3⟩
      · refine lv_astore_n (lv' := [(3, .ref q9), (0, .ref h), (1, .int dd)]) hx hb dL_pass_14 rfl hl (by decide) rfl (fun ls hl => ?_)
        refine lv_sipush (v := (-7300)) hx hb dL_pass_15 (by decide) ?_
        refine W.widen (k := (4 * dyN M dd dd.toNatClampNeg + 1)) (n := (202 * dyN M dd dd.toNatClampNeg + 6)) (Nat.le_of_eq (Nat.zero_add _)) (Nat.le_of_eq (Nat.zero_add _)) ?_
        exact W.iret (v := (-7300)) hx hb hr (fun U9 ht9 hW9 => ⟨⟨_, ws, rfl, ⟨by rw [← hk9]; rfl, hcx (fun e9 => absurd (hk9.trans e9) (by decide))⟩, by show va_P D vwCl ws U9.heap; rw [ht9]; exact hB3⟩, hS1.F ht9⟩) hS1.2.2 dL_pass_18 hlocks
  · obtain ⟨ek, hrv, hc2⟩ := hu
    replace hB : va_P D vwCl u U8.heap := hB
    rw [ht] at hB
    refine lv_istore_n (lv' := [(2, .int r), (0, .ref h), (1, .int dd)]) hx hb dL_pass_5 rfl hl (by decide) rfl (fun ls hl => ?_)
    refine lv_goto (tgt := 19) hx hb dL_pass_6 (by decide) ?_
    refine lv_iload_n hx hb dL_pass_19 rfl (lv_at hl 0 rfl) ?_
    refine W.widen (k := (4 * dyN M dd dd.toNatClampNeg + 1)) (n := (202 * dyN M dd dd.toNatClampNeg + 6)) (Nat.le_of_eq (Nat.zero_add _)) (Nat.le_of_eq (Nat.zero_add _)) ?_
    exact W.iret (v := r) hx hb hr (fun U9 ht9 hW9 => ⟨⟨_, u, rfl, ⟨by rw [hrv, ek]; rfl, hc2⟩, by show va_P D vwCl u U9.heap; rw [ht9]; exact hB⟩, hS1.F ht9⟩) hS1.2.2 dL_pass_20 hlocks
set_option maxHeartbeats 4000000 in
set_option maxRecDepth 100000 in
theorem cw_award (l : Launch) (hst : l.stackTraces = false) (D : va_G) (cI cO cb : ClassId) (eA mi : Nat) (st : Nat → Nat) (dO dT : Nat) (vF : Value) {A : Nat → Prop} (ws : va_W) {h : Nat} {M : MS} (hc : cSt cI cO eA st A h M ws) (hM : MI M) (hs : sInj st) (t : Int32) (k : Int32) : Met l yL_award wsL_award ({ frames := 9, cells := 4, slots := 115, locals := 237 }) (va_Pc [.ref h, .int t, .int k] (kB D cI cO cb eA mi st dO dT vF A ws)) (va_Qi (fun (ri : Int32) (u : va_W) => ri = e13 (k_award M t k) (r_award M t k) ∧ cSt cI cO eA st A h (g_award M t k) u) (fun u U9 => va_P D vwCl u U9.heap) A) 4 115 A := by
  have hcx : k_award M t k ≠ 0 → cSt cI cO eA st A h (g_award M t k) ws := fun e9 => by
    have e8 : g_award M t k = M := by
      unfold g_award
      exact if_neg e9
    rw [e8]; exact hc
  obtain ⟨k9, hk9, hk9S, hMet⟩ := cq_award l hst D cI cO cb eA mi st ws hc hM hs t k
  obtain ⟨own9, kd, F, L, hC, hW, ⟨tn, lo, aw, co, ct, ow, G⟩, hD⟩ := hc
  have hm_1 : (h, .inr (9, [.ref (F 0 h), .ref (F 1 h), .ref (F 2 h), .ref (F 3 h), .ref (F 4 h), .int (nI (F 5 h))])) ∈ ws := hC.at G.1.1 (by decide) (by decide)
  refine met_ofWH (cc := cL_award) (maxL := 5) (ret := (some .int)) (hh := [(0, 7, 10, 22), (0, 7, 16, 16)]) (by decide) rfl ?_
  intro p e s m args below meth c s₁ B hml htab hv
  obtain ⟨rfl, ⟨hP, hK, ⟨hG, hGT⟩, hA⟩, hn1, hn2, hn3⟩ := hv
  have hx := B.exec
  have hb := B.bytes
  have hr := B.returns
  have hts := atoms_spec (ws := wsL_award) B.pre
  have hown : s.vm.findClass RL = some m.cls := findClass_of_methodNamed B.named
  have hlocks := B.notSynchronized
  have hS : va_S A s.heap s.heap [] := va_S.rf
  have hl := lv_entry ([.ref h, .int t, .int k]) (n := 5) (Nat.le_of_ble_eq_true rfl)
  rw [lg_entry_eq]
  generalize (lg_sl ([.ref h, .int t, .int k]) ++ List.replicate (5 - (lg_sl ([.ref h, .int t, .int k])).length) Slot.unset).toArray = ls at hl ⊢
  have hl : lv_has ls 5 [(0, .ref h), (1, .int t), (2, .int k)] := hl
  refine lv_aload_n hx hb dL_award_0 rfl (lv_at hl 0 rfl) ?_
  refine lv_iload_n hx hb dL_award_1 rfl (lv_at hl 1 rfl) ?_
  refine lv_iload_n hx hb dL_award_2 rfl (lv_at hl 2 rfl) ?_
  refine vx_calli (vx_runV (As := [.int t, .int k]) (rest := []) ⟨hx, hb, hml, hown, hts⟩ hMet (cwV 2 hts gL_award_X8_award rfl rfl rfl kd_X8_award ⟨Nat.le_of_ble_eq_true rfl, Nat.le_of_ble_eq_true rfl⟩) ⟨cB_blind, c_recv hK hP rfl hm_1, cB_pre hK hG hA hS hP _⟩ rfl rfl hl.1 rfl (lv_room (Nat.le_of_ble_eq_true rfl)) dL_award_3 ⟨Nat.le_of_eq (Nat.zero_add _), Nat.le_of_eq (Nat.zero_add _)⟩) hS (fun _ _ h => h) (fun _ h => h) (fun _ _ h => h) (fun E9 ce9 q9 u9 U8 H1 locs1 ht hvm hu hB hz1 hk1 hS1 hc1 hc2 hc3 => ?_) (fun r u U8 H1 locs1 ht hvm hu hB hz1 hk1 hS1 => ?_)
  · obtain ⟨hB1, hB2, hB3⟩ := hB
    rw [ht] at hB3
    simp only [List.mem_cons, List.not_mem_nil, or_false] at hk9S
    rcases hk9S with rfl | rfl | rfl
    · exact absurd rfl hB2
    · obtain rfl : E9 = "java/lang/IndexOutOfBoundsException" := hB1.trans rfl
      refine vx_catch (own := RL) (name := "java/lang/IndexOutOfBoundsException") hown [] ⟨0, 7, 10, 22⟩ [⟨0, 7, 16, 16⟩] htab (fun z hz => ?_) (by decide) (by decide) (hts (.classLink RL 22 "java/lang/IndexOutOfBoundsException") (List.mem_of_getElem? (i := 1) rfl)) (hG.2.2.2.2.2.2.1.1 ("java/lang/IndexOutOfBoundsException", "java/lang/IndexOutOfBoundsException") (by decide)) hc1 hc2 hc3 ?_
      · cases hz
      · refine lv_astore (lv' := [(4, .ref q9), (0, .ref h), (1, .int t), (2, .int k)]) hx hb dL_award_10 hl (by decide) rfl (fun ls hl => ?_)
        refine lv_sipush (v := (-7100)) hx hb dL_award_12 (by decide) ?_
        refine W.widen (k := 4) (n := 115) (Nat.le_of_eq (Nat.zero_add _)) (Nat.le_of_eq (Nat.zero_add _)) ?_
        exact W.iret (v := (-7100)) hx hb hr (fun U9 ht9 hW9 => ⟨⟨_, ws, rfl, ⟨by rw [← hk9]; rfl, hcx (fun e9 => absurd (hk9.trans e9) (by decide))⟩, by show va_P D vwCl ws U9.heap; rw [ht9]; exact hB3⟩, hS1.F ht9⟩) hS1.2.2 dL_award_15 hlocks
    · obtain rfl : E9 = "java/lang/IllegalStateException" := hB1.trans rfl
      refine vx_catch (own := RL) (name := "java/lang/IllegalStateException") hown [⟨0, 7, 10, 22⟩] ⟨0, 7, 16, 16⟩ [] htab (fun z hz => ?_) (by decide) (by decide) (hts (.classLink RL 16 "java/lang/IllegalStateException") (List.mem_of_getElem? (i := 2) rfl)) (hG.2.2.2.2.2.2.1.1 ("java/lang/IllegalStateException", "java/lang/IllegalStateException") (by decide)) hc1 hc2 hc3 ?_
      · obtain rfl := List.mem_singleton.mp hz
        exact Or.inr ⟨by decide, _, (hts (.classLink RL 22 "java/lang/IndexOutOfBoundsException") (List.mem_of_getElem? (i := 1) rfl)), hn2⟩
      · refine lv_astore (lv' := [(4, .ref q9), (0, .ref h), (1, .int t), (2, .int k)]) hx hb dL_award_16 hl (by decide) rfl (fun ls hl => ?_)
        refine lv_sipush (v := (-7300)) hx hb dL_award_18 (by decide) ?_
        refine W.widen (k := 4) (n := 115) (Nat.le_of_eq (Nat.zero_add _)) (Nat.le_of_eq (Nat.zero_add _)) ?_
        exact W.iret (v := (-7300)) hx hb hr (fun U9 ht9 hW9 => ⟨⟨_, ws, rfl, ⟨by rw [← hk9]; rfl, hcx (fun e9 => absurd (hk9.trans e9) (by decide))⟩, by show va_P D vwCl ws U9.heap; rw [ht9]; exact hB3⟩, hS1.F ht9⟩) hS1.2.2 dL_award_21 hlocks
  · obtain ⟨ek, hrv, hc2⟩ := hu
    replace hB : va_P D vwCl u U8.heap := hB
    rw [ht] at hB
    refine lv_istore_n (lv' := [(3, .int r), (0, .ref h), (1, .int t), (2, .int k)]) hx hb dL_award_6 rfl hl (by decide) rfl (fun ls hl => ?_)
    refine lv_goto (tgt := 22) hx hb dL_award_7 (by decide) ?_
    refine lv_iload_n hx hb dL_award_22 rfl (lv_at hl 0 rfl) ?_
    refine W.widen (k := 4) (n := 115) (Nat.le_of_eq (Nat.zero_add _)) (Nat.le_of_eq (Nat.zero_add _)) ?_
    exact W.iret (v := r) hx hb hr (fun U9 ht9 hW9 => ⟨⟨_, u, rfl, ⟨by rw [hrv, ek]; rfl, hc2⟩, by show va_P D vwCl u U9.heap; rw [ht9]; exact hB⟩, hS1.F ht9⟩) hS1.2.2 dL_award_23 hlocks
set_option maxHeartbeats 4000000 in
set_option maxRecDepth 100000 in
theorem cw_complain (l : Launch) (hst : l.stackTraces = false) (D : va_G) (cI cO cb : ClassId) (eA mi : Nat) (st : Nat → Nat) (dO dT : Nat) (vF : Value) {A : Nat → Prop} (ws : va_W) {h : Nat} {M : MS} (hc : cSt cI cO eA st A h M ws) (hM : MI M) (hs : sInj st) (b : Int32) (i : Int32) (g : Int32) : Met l yL_complain wsL_complain ({ frames := 8, cells := 4, slots := 114, locals := 216 }) (va_Pc [.ref h, .int b, .int i, .int g] (kB D cI cO cb eA mi st dO dT vF A ws)) (va_Qi (fun (ri : Int32) (u : va_W) => ri = er (k_complain M b i g) (if k_complain M b i g = 0 then nI (M 22 0) else nI 0) ∧ cSt cI cO eA st A h (g_complain M b i g) u) (fun u U9 => va_P D vwCl u U9.heap) A) 4 114 A := by
  have hcx : k_complain M b i g ≠ 0 → cSt cI cO eA st A h (g_complain M b i g) ws := fun e9 => by
    have e8 : g_complain M b i g = M := by
      unfold g_complain
      exact if_neg e9
    rw [e8]; exact hc
  obtain ⟨k9, hk9, hk9S, hMet⟩ := cq_complain l hst D cI cO cb eA mi st ws hc hM hs b i g
  obtain ⟨own9, kd, F, L, hC, hW, ⟨tn, lo, aw, co, ct, ow, G⟩, hD⟩ := hc
  have hm_1 : (h, .inr (9, [.ref (F 0 h), .ref (F 1 h), .ref (F 2 h), .ref (F 3 h), .ref (F 4 h), .int (nI (F 5 h))])) ∈ ws := hC.at G.1.1 (by decide) (by decide)
  refine met_ofWH (cc := cL_complain) (maxL := 6) (ret := (some .int)) (hh := [(0, 9, 12, 22), (0, 9, 18, 14), (0, 9, 24, 16)]) (by decide) rfl ?_
  intro p e s m args below meth c s₁ B hml htab hv
  obtain ⟨rfl, ⟨hP, hK, ⟨hG, hGT⟩, hA⟩, hn1, hn2, hn3⟩ := hv
  have hx := B.exec
  have hb := B.bytes
  have hr := B.returns
  have hts := atoms_spec (ws := wsL_complain) B.pre
  have hown : s.vm.findClass RL = some m.cls := findClass_of_methodNamed B.named
  have hlocks := B.notSynchronized
  have hS : va_S A s.heap s.heap [] := va_S.rf
  have hl := lv_entry ([.ref h, .int b, .int i, .int g]) (n := 6) (Nat.le_of_ble_eq_true rfl)
  rw [lg_entry_eq]
  generalize (lg_sl ([.ref h, .int b, .int i, .int g]) ++ List.replicate (6 - (lg_sl ([.ref h, .int b, .int i, .int g])).length) Slot.unset).toArray = ls at hl ⊢
  have hl : lv_has ls 6 [(0, .ref h), (1, .int b), (2, .int i), (3, .int g)] := hl
  refine lv_aload_n hx hb dL_complain_0 rfl (lv_at hl 0 rfl) ?_
  refine lv_iload_n hx hb dL_complain_1 rfl (lv_at hl 1 rfl) ?_
  refine lv_iload_n hx hb dL_complain_2 rfl (lv_at hl 2 rfl) ?_
  refine lv_iload_n hx hb dL_complain_3 rfl (lv_at hl 3 rfl) ?_
  refine vx_calli (vx_runV (As := [.int b, .int i, .int g]) (rest := []) ⟨hx, hb, hml, hown, hts⟩ hMet (cwV 3 hts gL_complain_X8_complain rfl rfl rfl kd_X8_complain ⟨Nat.le_of_ble_eq_true rfl, Nat.le_of_ble_eq_true rfl⟩) ⟨cB_blind, c_recv hK hP rfl hm_1, cB_pre hK hG hA hS hP _⟩ rfl rfl hl.1 rfl (lv_room (Nat.le_of_ble_eq_true rfl)) dL_complain_4 ⟨Nat.le_of_eq (Nat.zero_add _), Nat.le_of_eq (Nat.zero_add _)⟩) hS (fun _ _ h => h) (fun _ h => h) (fun _ _ h => h) (fun E9 ce9 q9 u9 U8 H1 locs1 ht hvm hu hB hz1 hk1 hS1 hc1 hc2 hc3 => ?_) (fun r u U8 H1 locs1 ht hvm hu hB hz1 hk1 hS1 => ?_)
  · obtain ⟨hB1, hB2, hB3⟩ := hB
    rw [ht] at hB3
    simp only [List.mem_cons, List.not_mem_nil, or_false] at hk9S
    rcases hk9S with rfl | rfl | rfl | rfl
    · exact absurd rfl hB2
    · obtain rfl : E9 = "java/lang/IndexOutOfBoundsException" := hB1.trans rfl
      refine vx_catch (own := RL) (name := "java/lang/IndexOutOfBoundsException") hown [] ⟨0, 9, 12, 22⟩ [⟨0, 9, 18, 14⟩, ⟨0, 9, 24, 16⟩] htab (fun z hz => ?_) (by decide) (by decide) (hts (.classLink RL 22 "java/lang/IndexOutOfBoundsException") (List.mem_of_getElem? (i := 1) rfl)) (hG.2.2.2.2.2.2.1.1 ("java/lang/IndexOutOfBoundsException", "java/lang/IndexOutOfBoundsException") (by decide)) hc1 hc2 hc3 ?_
      · cases hz
      · refine lv_astore (lv' := [(5, .ref q9), (0, .ref h), (1, .int b), (2, .int i), (3, .int g)]) hx hb dL_complain_12 hl (by decide) rfl (fun ls hl => ?_)
        refine lv_sipush (v := (-7100)) hx hb dL_complain_14 (by decide) ?_
        refine W.widen (k := 4) (n := 114) (Nat.le_of_eq (Nat.zero_add _)) (Nat.le_of_eq (Nat.zero_add _)) ?_
        exact W.iret (v := (-7100)) hx hb hr (fun U9 ht9 hW9 => ⟨⟨_, ws, rfl, ⟨by rw [← hk9]; rfl, hcx (fun e9 => absurd (hk9.trans e9) (by decide))⟩, by show va_P D vwCl ws U9.heap; rw [ht9]; exact hB3⟩, hS1.F ht9⟩) hS1.2.2 dL_complain_17 hlocks
    · obtain rfl : E9 = "java/lang/IllegalArgumentException" := hB1.trans rfl
      refine vx_catch (own := RL) (name := "java/lang/IllegalArgumentException") hown [⟨0, 9, 12, 22⟩] ⟨0, 9, 18, 14⟩ [⟨0, 9, 24, 16⟩] htab (fun z hz => ?_) (by decide) (by decide) (hts (.classLink RL 14 "java/lang/IllegalArgumentException") (List.mem_of_getElem? (i := 2) rfl)) (hG.2.2.2.2.2.2.1.1 ("java/lang/IllegalArgumentException", "java/lang/IllegalArgumentException") (by decide)) hc1 hc2 hc3 ?_
      · obtain rfl := List.mem_singleton.mp hz
        exact Or.inr ⟨by decide, _, (hts (.classLink RL 22 "java/lang/IndexOutOfBoundsException") (List.mem_of_getElem? (i := 1) rfl)), hn1⟩
      · refine lv_astore (lv' := [(5, .ref q9), (0, .ref h), (1, .int b), (2, .int i), (3, .int g)]) hx hb dL_complain_18 hl (by decide) rfl (fun ls hl => ?_)
        refine lv_sipush (v := (-7200)) hx hb dL_complain_20 (by decide) ?_
        refine W.widen (k := 4) (n := 114) (Nat.le_of_eq (Nat.zero_add _)) (Nat.le_of_eq (Nat.zero_add _)) ?_
        exact W.iret (v := (-7200)) hx hb hr (fun U9 ht9 hW9 => ⟨⟨_, ws, rfl, ⟨by rw [← hk9]; rfl, hcx (fun e9 => absurd (hk9.trans e9) (by decide))⟩, by show va_P D vwCl ws U9.heap; rw [ht9]; exact hB3⟩, hS1.F ht9⟩) hS1.2.2 dL_complain_23 hlocks
    · obtain rfl : E9 = "java/lang/IllegalStateException" := hB1.trans rfl
      refine vx_catch (own := RL) (name := "java/lang/IllegalStateException") hown [⟨0, 9, 12, 22⟩, ⟨0, 9, 18, 14⟩] ⟨0, 9, 24, 16⟩ [] htab (fun z hz => ?_) (by decide) (by decide) (hts (.classLink RL 16 "java/lang/IllegalStateException") (List.mem_of_getElem? (i := 3) rfl)) (hG.2.2.2.2.2.2.1.1 ("java/lang/IllegalStateException", "java/lang/IllegalStateException") (by decide)) hc1 hc2 hc3 ?_
      · rcases List.mem_cons.mp hz with rfl | hz
        · exact Or.inr ⟨by decide, _, (hts (.classLink RL 22 "java/lang/IndexOutOfBoundsException") (List.mem_of_getElem? (i := 1) rfl)), hn2⟩
        · obtain rfl := List.mem_singleton.mp hz
          exact Or.inr ⟨by decide, _, (hts (.classLink RL 14 "java/lang/IllegalArgumentException") (List.mem_of_getElem? (i := 2) rfl)), hn3⟩
      · refine lv_astore (lv' := [(5, .ref q9), (0, .ref h), (1, .int b), (2, .int i), (3, .int g)]) hx hb dL_complain_24 hl (by decide) rfl (fun ls hl => ?_)
        refine lv_sipush (v := (-7300)) hx hb dL_complain_26 (by decide) ?_
        refine W.widen (k := 4) (n := 114) (Nat.le_of_eq (Nat.zero_add _)) (Nat.le_of_eq (Nat.zero_add _)) ?_
        exact W.iret (v := (-7300)) hx hb hr (fun U9 ht9 hW9 => ⟨⟨_, ws, rfl, ⟨by rw [← hk9]; rfl, hcx (fun e9 => absurd (hk9.trans e9) (by decide))⟩, by show va_P D vwCl ws U9.heap; rw [ht9]; exact hB3⟩, hS1.F ht9⟩) hS1.2.2 dL_complain_29 hlocks
  · obtain ⟨ek, hrv, hc2⟩ := hu
    replace hB : va_P D vwCl u U8.heap := hB
    rw [ht] at hB
    refine lv_istore (lv' := [(4, .int r), (0, .ref h), (1, .int b), (2, .int i), (3, .int g)]) hx hb dL_complain_7 hl (by decide) rfl (fun ls hl => ?_)
    refine lv_goto (tgt := 30) hx hb dL_complain_9 (by decide) ?_
    refine lv_iload hx hb dL_complain_30 (lv_at hl 0 rfl) ?_
    refine W.widen (k := 4) (n := 114) (Nat.le_of_eq (Nat.zero_add _)) (Nat.le_of_eq (Nat.zero_add _)) ?_
    exact W.iret (v := r) hx hb hr (fun U9 ht9 hW9 => ⟨⟨_, u, rfl, ⟨by rw [hrv, ek]; rfl, hc2⟩, by show va_P D vwCl u U9.heap; rw [ht9]; exact hB⟩, hS1.F ht9⟩) hS1.2.2 dL_complain_32 hlocks
set_option maxHeartbeats 4000000 in
set_option maxRecDepth 100000 in
theorem cw_rule (l : Launch) (hst : l.stackTraces = false) (D : va_G) (cI cO cb : ClassId) (eA mi : Nat) (st : Nat → Nat) (dO dT : Nat) (vF : Value) {A : Nat → Prop} (ws : va_W) {h : Nat} {M : MS} (hc : cSt cI cO eA st A h M ws) (hM : MI M) (hs : sInj st) (i : Int32) (v : Bool) (qv : Int32) : Met l yL_rule wsL_rule ({ frames := 11, cells := 6, slots := 214, locals := 285 }) (va_Pc [.ref h, .int i, .int (bi v), .int qv] (kB D cI cO cb eA mi st dO dT vF A ws)) (va_Qi (fun (ri : Int32) (u : va_W) => ri = er (k_rule M i v qv) (r_rule M i v qv) ∧ cSt cI cO eA st A h (g_rule M i v qv) u) (fun u U9 => va_P D vwCl u U9.heap) A) 6 214 A := by
  have hcx : k_rule M i v qv ≠ 0 → cSt cI cO eA st A h (g_rule M i v qv) ws := fun e9 => by
    have e8 : g_rule M i v qv = M := by
      unfold g_rule
      exact if_neg e9
    rw [e8]; exact hc
  obtain ⟨k9, hk9, hk9S, hMet⟩ := cq_rule l hst D cI cO cb eA mi st ws hc hM hs i v qv
  obtain ⟨own9, kd, F, L, hC, hW, ⟨tn, lo, aw, co, ct, ow, G⟩, hD⟩ := hc
  have hm_1 : (h, .inr (9, [.ref (F 0 h), .ref (F 1 h), .ref (F 2 h), .ref (F 3 h), .ref (F 4 h), .int (nI (F 5 h))])) ∈ ws := hC.at G.1.1 (by decide) (by decide)
  refine met_ofWH (cc := cL_rule) (maxL := 6) (ret := (some .int)) (hh := [(0, 9, 12, 22), (0, 9, 18, 14), (0, 9, 24, 16)]) (by decide) rfl ?_
  intro p e s m args below meth c s₁ B hml htab hv
  obtain ⟨rfl, ⟨hP, hK, ⟨hG, hGT⟩, hA⟩, hn1, hn2, hn3⟩ := hv
  have hx := B.exec
  have hb := B.bytes
  have hr := B.returns
  have hts := atoms_spec (ws := wsL_rule) B.pre
  have hown : s.vm.findClass RL = some m.cls := findClass_of_methodNamed B.named
  have hlocks := B.notSynchronized
  have hS : va_S A s.heap s.heap [] := va_S.rf
  have hl := lv_entry ([.ref h, .int i, .int (bi v), .int qv]) (n := 6) (Nat.le_of_ble_eq_true rfl)
  rw [lg_entry_eq]
  generalize (lg_sl ([.ref h, .int i, .int (bi v), .int qv]) ++ List.replicate (6 - (lg_sl ([.ref h, .int i, .int (bi v), .int qv])).length) Slot.unset).toArray = ls at hl ⊢
  have hl : lv_has ls 6 [(0, .ref h), (1, .int i), (2, .int (bi v)), (3, .int qv)] := hl
  refine lv_aload_n hx hb dL_rule_0 rfl (lv_at hl 0 rfl) ?_
  refine lv_iload_n hx hb dL_rule_1 rfl (lv_at hl 1 rfl) ?_
  refine lv_iload_n hx hb dL_rule_2 rfl (lv_at hl 2 rfl) ?_
  refine lv_iload_n hx hb dL_rule_3 rfl (lv_at hl 3 rfl) ?_
  refine vx_calli (vx_runV (As := [.int i, .int (bi v), .int qv]) (rest := []) ⟨hx, hb, hml, hown, hts⟩ hMet (cwV 3 hts gL_rule_X8_rule rfl rfl rfl kd_X8_rule ⟨Nat.le_of_ble_eq_true rfl, Nat.le_of_ble_eq_true rfl⟩) ⟨cB_blind, c_recv hK hP rfl hm_1, cB_pre hK hG hA hS hP _⟩ rfl rfl hl.1 rfl (lv_room (Nat.le_of_ble_eq_true rfl)) dL_rule_4 ⟨Nat.le_of_eq (Nat.zero_add _), Nat.le_of_eq (Nat.zero_add _)⟩) hS (fun _ _ h => h) (fun _ h => h) (fun _ _ h => h) (fun E9 ce9 q9 u9 U8 H1 locs1 ht hvm hu hB hz1 hk1 hS1 hc1 hc2 hc3 => ?_) (fun r u U8 H1 locs1 ht hvm hu hB hz1 hk1 hS1 => ?_)
  · obtain ⟨hB1, hB2, hB3⟩ := hB
    rw [ht] at hB3
    simp only [List.mem_cons, List.not_mem_nil, or_false] at hk9S
    rcases hk9S with rfl | rfl | rfl | rfl
    · exact absurd rfl hB2
    · obtain rfl : E9 = "java/lang/IndexOutOfBoundsException" := hB1.trans rfl
      refine vx_catch (own := RL) (name := "java/lang/IndexOutOfBoundsException") hown [] ⟨0, 9, 12, 22⟩ [⟨0, 9, 18, 14⟩, ⟨0, 9, 24, 16⟩] htab (fun z hz => ?_) (by decide) (by decide) (hts (.classLink RL 22 "java/lang/IndexOutOfBoundsException") (List.mem_of_getElem? (i := 1) rfl)) (hG.2.2.2.2.2.2.1.1 ("java/lang/IndexOutOfBoundsException", "java/lang/IndexOutOfBoundsException") (by decide)) hc1 hc2 hc3 ?_
      · cases hz
      · refine lv_astore (lv' := [(5, .ref q9), (0, .ref h), (1, .int i), (2, .int (bi v)), (3, .int qv)]) hx hb dL_rule_12 hl (by decide) rfl (fun ls hl => ?_)
        refine lv_sipush (v := (-7100)) hx hb dL_rule_14 (by decide) ?_
        refine W.widen (k := 6) (n := 214) (Nat.le_of_eq (Nat.zero_add _)) (Nat.le_of_eq (Nat.zero_add _)) ?_
        exact W.iret (v := (-7100)) hx hb hr (fun U9 ht9 hW9 => ⟨⟨_, ws, rfl, ⟨by rw [← hk9]; rfl, hcx (fun e9 => absurd (hk9.trans e9) (by decide))⟩, by show va_P D vwCl ws U9.heap; rw [ht9]; exact hB3⟩, hS1.F ht9⟩) hS1.2.2 dL_rule_17 hlocks
    · obtain rfl : E9 = "java/lang/IllegalArgumentException" := hB1.trans rfl
      refine vx_catch (own := RL) (name := "java/lang/IllegalArgumentException") hown [⟨0, 9, 12, 22⟩] ⟨0, 9, 18, 14⟩ [⟨0, 9, 24, 16⟩] htab (fun z hz => ?_) (by decide) (by decide) (hts (.classLink RL 14 "java/lang/IllegalArgumentException") (List.mem_of_getElem? (i := 2) rfl)) (hG.2.2.2.2.2.2.1.1 ("java/lang/IllegalArgumentException", "java/lang/IllegalArgumentException") (by decide)) hc1 hc2 hc3 ?_
      · obtain rfl := List.mem_singleton.mp hz
        exact Or.inr ⟨by decide, _, (hts (.classLink RL 22 "java/lang/IndexOutOfBoundsException") (List.mem_of_getElem? (i := 1) rfl)), hn1⟩
      · refine lv_astore (lv' := [(5, .ref q9), (0, .ref h), (1, .int i), (2, .int (bi v)), (3, .int qv)]) hx hb dL_rule_18 hl (by decide) rfl (fun ls hl => ?_)
        refine lv_sipush (v := (-7200)) hx hb dL_rule_20 (by decide) ?_
        refine W.widen (k := 6) (n := 214) (Nat.le_of_eq (Nat.zero_add _)) (Nat.le_of_eq (Nat.zero_add _)) ?_
        exact W.iret (v := (-7200)) hx hb hr (fun U9 ht9 hW9 => ⟨⟨_, ws, rfl, ⟨by rw [← hk9]; rfl, hcx (fun e9 => absurd (hk9.trans e9) (by decide))⟩, by show va_P D vwCl ws U9.heap; rw [ht9]; exact hB3⟩, hS1.F ht9⟩) hS1.2.2 dL_rule_23 hlocks
    · obtain rfl : E9 = "java/lang/IllegalStateException" := hB1.trans rfl
      refine vx_catch (own := RL) (name := "java/lang/IllegalStateException") hown [⟨0, 9, 12, 22⟩, ⟨0, 9, 18, 14⟩] ⟨0, 9, 24, 16⟩ [] htab (fun z hz => ?_) (by decide) (by decide) (hts (.classLink RL 16 "java/lang/IllegalStateException") (List.mem_of_getElem? (i := 3) rfl)) (hG.2.2.2.2.2.2.1.1 ("java/lang/IllegalStateException", "java/lang/IllegalStateException") (by decide)) hc1 hc2 hc3 ?_
      · rcases List.mem_cons.mp hz with rfl | hz
        · exact Or.inr ⟨by decide, _, (hts (.classLink RL 22 "java/lang/IndexOutOfBoundsException") (List.mem_of_getElem? (i := 1) rfl)), hn2⟩
        · obtain rfl := List.mem_singleton.mp hz
          exact Or.inr ⟨by decide, _, (hts (.classLink RL 14 "java/lang/IllegalArgumentException") (List.mem_of_getElem? (i := 2) rfl)), hn3⟩
      · refine lv_astore (lv' := [(5, .ref q9), (0, .ref h), (1, .int i), (2, .int (bi v)), (3, .int qv)]) hx hb dL_rule_24 hl (by decide) rfl (fun ls hl => ?_)
        refine lv_sipush (v := (-7300)) hx hb dL_rule_26 (by decide) ?_
        refine W.widen (k := 6) (n := 214) (Nat.le_of_eq (Nat.zero_add _)) (Nat.le_of_eq (Nat.zero_add _)) ?_
        exact W.iret (v := (-7300)) hx hb hr (fun U9 ht9 hW9 => ⟨⟨_, ws, rfl, ⟨by rw [← hk9]; rfl, hcx (fun e9 => absurd (hk9.trans e9) (by decide))⟩, by show va_P D vwCl ws U9.heap; rw [ht9]; exact hB3⟩, hS1.F ht9⟩) hS1.2.2 dL_rule_29 hlocks
  · obtain ⟨ek, hrv, hc2⟩ := hu
    replace hB : va_P D vwCl u U8.heap := hB
    rw [ht] at hB
    refine lv_istore (lv' := [(4, .int r), (0, .ref h), (1, .int i), (2, .int (bi v)), (3, .int qv)]) hx hb dL_rule_7 hl (by decide) rfl (fun ls hl => ?_)
    refine lv_goto (tgt := 30) hx hb dL_rule_9 (by decide) ?_
    refine lv_iload hx hb dL_rule_30 (lv_at hl 0 rfl) ?_
    refine W.widen (k := 6) (n := 214) (Nat.le_of_eq (Nat.zero_add _)) (Nat.le_of_eq (Nat.zero_add _)) ?_
    exact W.iret (v := r) hx hb hr (fun U9 ht9 hW9 => ⟨⟨_, u, rfl, ⟨by rw [hrv, ek]; rfl, hc2⟩, by show va_P D vwCl u U9.heap; rw [ht9]; exact hB⟩, hS1.F ht9⟩) hS1.2.2 dL_rule_32 hlocks
set_option maxHeartbeats 4000000 in
set_option maxRecDepth 100000 in
theorem cw_appeal (l : Launch) (hst : l.stackTraces = false) (D : va_G) (cI cO cb : ClassId) (eA mi : Nat) (st : Nat → Nat) (dO dT : Nat) (vF : Value) {A : Nat → Prop} (ws : va_W) {h : Nat} {M : MS} (hc : cSt cI cO eA st A h M ws) (hM : MI M) (hs : sInj st) (i : Int32) : Met l yL_appeal wsL_appeal ({ frames := 8, cells := 2, slots := 12, locals := 124 }) (va_Pc [.ref h, .int i] (kB D cI cO cb eA mi st dO dT vF A ws)) (va_Qi (fun (ri : Int32) (u : va_W) => ri = e13 (k_appeal M i) (r_appeal M i) ∧ cSt cI cO eA st A h (g_appeal M i) u) (fun u U9 => va_P D vwCl u U9.heap) A) 2 12 A := by
  have hcx : k_appeal M i ≠ 0 → cSt cI cO eA st A h (g_appeal M i) ws := fun e9 => by
    have e8 : g_appeal M i = M := by
      unfold g_appeal
      exact if_neg e9
    rw [e8]; exact hc
  obtain ⟨k9, hk9, hk9S, hMet⟩ := cq_appeal l hst D cI cO cb eA mi st ws hc hM hs i
  obtain ⟨own9, kd, F, L, hC, hW, ⟨tn, lo, aw, co, ct, ow, G⟩, hD⟩ := hc
  have hm_1 : (h, .inr (9, [.ref (F 0 h), .ref (F 1 h), .ref (F 2 h), .ref (F 3 h), .ref (F 4 h), .int (nI (F 5 h))])) ∈ ws := hC.at G.1.1 (by decide) (by decide)
  refine met_ofWH (cc := cL_appeal) (maxL := 4) (ret := (some .int)) (hh := [(0, 6, 9, 22), (0, 6, 14, 16)]) (by decide) rfl ?_
  intro p e s m args below meth c s₁ B hml htab hv
  obtain ⟨rfl, ⟨hP, hK, ⟨hG, hGT⟩, hA⟩, hn1, hn2, hn3⟩ := hv
  have hx := B.exec
  have hb := B.bytes
  have hr := B.returns
  have hts := atoms_spec (ws := wsL_appeal) B.pre
  have hown : s.vm.findClass RL = some m.cls := findClass_of_methodNamed B.named
  have hlocks := B.notSynchronized
  have hS : va_S A s.heap s.heap [] := va_S.rf
  have hl := lv_entry ([.ref h, .int i]) (n := 4) (Nat.le_of_ble_eq_true rfl)
  rw [lg_entry_eq]
  generalize (lg_sl ([.ref h, .int i]) ++ List.replicate (4 - (lg_sl ([.ref h, .int i])).length) Slot.unset).toArray = ls at hl ⊢
  have hl : lv_has ls 4 [(0, .ref h), (1, .int i)] := hl
  refine lv_aload_n hx hb dL_appeal_0 rfl (lv_at hl 0 rfl) ?_
  refine lv_iload_n hx hb dL_appeal_1 rfl (lv_at hl 1 rfl) ?_
  refine vx_calli (vx_runV (As := [.int i]) (rest := []) ⟨hx, hb, hml, hown, hts⟩ hMet (cwV 1 hts gL_appeal_X8_appeal rfl rfl rfl kd_X8_appeal ⟨Nat.le_of_ble_eq_true rfl, Nat.le_of_ble_eq_true rfl⟩) ⟨cB_blind, c_recv hK hP rfl hm_1, cB_pre hK hG hA hS hP _⟩ rfl rfl hl.1 rfl (lv_room (Nat.le_of_ble_eq_true rfl)) dL_appeal_2 ⟨Nat.le_of_eq (Nat.zero_add _), Nat.le_of_eq (Nat.zero_add _)⟩) hS (fun _ _ h => h) (fun _ h => h) (fun _ _ h => h) (fun E9 ce9 q9 u9 U8 H1 locs1 ht hvm hu hB hz1 hk1 hS1 hc1 hc2 hc3 => ?_) (fun r u U8 H1 locs1 ht hvm hu hB hz1 hk1 hS1 => ?_)
  · obtain ⟨hB1, hB2, hB3⟩ := hB
    rw [ht] at hB3
    simp only [List.mem_cons, List.not_mem_nil, or_false] at hk9S
    rcases hk9S with rfl | rfl | rfl
    · exact absurd rfl hB2
    · obtain rfl : E9 = "java/lang/IndexOutOfBoundsException" := hB1.trans rfl
      refine vx_catch (own := RL) (name := "java/lang/IndexOutOfBoundsException") hown [] ⟨0, 6, 9, 22⟩ [⟨0, 6, 14, 16⟩] htab (fun z hz => ?_) (by decide) (by decide) (hts (.classLink RL 22 "java/lang/IndexOutOfBoundsException") (List.mem_of_getElem? (i := 1) rfl)) (hG.2.2.2.2.2.2.1.1 ("java/lang/IndexOutOfBoundsException", "java/lang/IndexOutOfBoundsException") (by decide)) hc1 hc2 hc3 ?_
      · cases hz
      · refine lv_astore_n (lv' := [(3, .ref q9), (0, .ref h), (1, .int i)]) hx hb dL_appeal_9 rfl hl (by decide) rfl (fun ls hl => ?_)
        refine lv_sipush (v := (-7100)) hx hb dL_appeal_10 (by decide) ?_
        refine W.widen (k := 2) (n := 12) (Nat.le_of_eq (Nat.zero_add _)) (Nat.le_of_eq (Nat.zero_add _)) ?_
        exact W.iret (v := (-7100)) hx hb hr (fun U9 ht9 hW9 => ⟨⟨_, ws, rfl, ⟨by rw [← hk9]; rfl, hcx (fun e9 => absurd (hk9.trans e9) (by decide))⟩, by show va_P D vwCl ws U9.heap; rw [ht9]; exact hB3⟩, hS1.F ht9⟩) hS1.2.2 dL_appeal_13 hlocks
    · obtain rfl : E9 = "java/lang/IllegalStateException" := hB1.trans rfl
      refine vx_catch (own := RL) (name := "java/lang/IllegalStateException") hown [⟨0, 6, 9, 22⟩] ⟨0, 6, 14, 16⟩ [] htab (fun z hz => ?_) (by decide) (by decide) (hts (.classLink RL 16 "java/lang/IllegalStateException") (List.mem_of_getElem? (i := 2) rfl)) (hG.2.2.2.2.2.2.1.1 ("java/lang/IllegalStateException", "java/lang/IllegalStateException") (by decide)) hc1 hc2 hc3 ?_
      · obtain rfl := List.mem_singleton.mp hz
        exact Or.inr ⟨by decide, _, (hts (.classLink RL 22 "java/lang/IndexOutOfBoundsException") (List.mem_of_getElem? (i := 1) rfl)), hn2⟩
      · refine lv_astore_n (lv' := [(3, .ref q9), (0, .ref h), (1, .int i)]) hx hb dL_appeal_14 rfl hl (by decide) rfl (fun ls hl => ?_)
        refine lv_sipush (v := (-7300)) hx hb dL_appeal_15 (by decide) ?_
        refine W.widen (k := 2) (n := 12) (Nat.le_of_eq (Nat.zero_add _)) (Nat.le_of_eq (Nat.zero_add _)) ?_
        exact W.iret (v := (-7300)) hx hb hr (fun U9 ht9 hW9 => ⟨⟨_, ws, rfl, ⟨by rw [← hk9]; rfl, hcx (fun e9 => absurd (hk9.trans e9) (by decide))⟩, by show va_P D vwCl ws U9.heap; rw [ht9]; exact hB3⟩, hS1.F ht9⟩) hS1.2.2 dL_appeal_18 hlocks
  · obtain ⟨ek, hrv, hc2⟩ := hu
    replace hB : va_P D vwCl u U8.heap := hB
    rw [ht] at hB
    refine lv_istore_n (lv' := [(2, .int r), (0, .ref h), (1, .int i)]) hx hb dL_appeal_5 rfl hl (by decide) rfl (fun ls hl => ?_)
    refine lv_goto (tgt := 19) hx hb dL_appeal_6 (by decide) ?_
    refine lv_iload_n hx hb dL_appeal_19 rfl (lv_at hl 0 rfl) ?_
    refine W.widen (k := 2) (n := 12) (Nat.le_of_eq (Nat.zero_add _)) (Nat.le_of_eq (Nat.zero_add _)) ?_
    exact W.iret (v := r) hx hb hr (fun U9 ht9 hW9 => ⟨⟨_, u, rfl, ⟨by rw [hrv, ek]; rfl, hc2⟩, by show va_P D vwCl u U9.heap; rw [ht9]; exact hB⟩, hS1.F ht9⟩) hS1.2.2 dL_appeal_20 hlocks
set_option maxHeartbeats 4000000 in
set_option maxRecDepth 100000 in
theorem cw_sign (l : Launch) (hst : l.stackTraces = false) (D : va_G) (cI cO cb : ClassId) (eA mi : Nat) (st : Nat → Nat) (dO dT : Nat) (vF : Value) {A : Nat → Prop} (ws : va_W) {h : Nat} {M : MS} (hc : cSt cI cO eA st A h M ws) (hM : MI M) (hs : sInj st) (i : Int32) : Met l yL_sign wsL_sign ({ frames := 8, cells := 4, slots := 120, locals := 214 }) (va_Pc [.ref h, .int i] (kB D cI cO cb eA mi st dO dT vF A ws)) (va_Qi (fun (ri : Int32) (u : va_W) => ri = e13 (k_sign M i) (r_sign M i) ∧ cSt cI cO eA st A h (g_sign M i) u) (fun u U9 => va_P D vwCl u U9.heap) A) 4 120 A := by
  have hcx : k_sign M i ≠ 0 → cSt cI cO eA st A h (g_sign M i) ws := fun e9 => by
    have e8 : g_sign M i = M := by
      unfold g_sign
      exact if_neg e9
    rw [e8]; exact hc
  obtain ⟨k9, hk9, hk9S, hMet⟩ := cq_sign l hst D cI cO cb eA mi st ws hc hM hs i
  obtain ⟨own9, kd, F, L, hC, hW, ⟨tn, lo, aw, co, ct, ow, G⟩, hD⟩ := hc
  have hm_1 : (h, .inr (9, [.ref (F 0 h), .ref (F 1 h), .ref (F 2 h), .ref (F 3 h), .ref (F 4 h), .int (nI (F 5 h))])) ∈ ws := hC.at G.1.1 (by decide) (by decide)
  refine met_ofWH (cc := cL_sign) (maxL := 4) (ret := (some .int)) (hh := [(0, 6, 9, 22), (0, 6, 14, 16)]) (by decide) rfl ?_
  intro p e s m args below meth c s₁ B hml htab hv
  obtain ⟨rfl, ⟨hP, hK, ⟨hG, hGT⟩, hA⟩, hn1, hn2, hn3⟩ := hv
  have hx := B.exec
  have hb := B.bytes
  have hr := B.returns
  have hts := atoms_spec (ws := wsL_sign) B.pre
  have hown : s.vm.findClass RL = some m.cls := findClass_of_methodNamed B.named
  have hlocks := B.notSynchronized
  have hS : va_S A s.heap s.heap [] := va_S.rf
  have hl := lv_entry ([.ref h, .int i]) (n := 4) (Nat.le_of_ble_eq_true rfl)
  rw [lg_entry_eq]
  generalize (lg_sl ([.ref h, .int i]) ++ List.replicate (4 - (lg_sl ([.ref h, .int i])).length) Slot.unset).toArray = ls at hl ⊢
  have hl : lv_has ls 4 [(0, .ref h), (1, .int i)] := hl
  refine lv_aload_n hx hb dL_sign_0 rfl (lv_at hl 0 rfl) ?_
  refine lv_iload_n hx hb dL_sign_1 rfl (lv_at hl 1 rfl) ?_
  refine vx_calli (vx_runV (As := [.int i]) (rest := []) ⟨hx, hb, hml, hown, hts⟩ hMet (cwV 1 hts gL_sign_X8_sign rfl rfl rfl kd_X8_sign ⟨Nat.le_of_ble_eq_true rfl, Nat.le_of_ble_eq_true rfl⟩) ⟨cB_blind, c_recv hK hP rfl hm_1, cB_pre hK hG hA hS hP _⟩ rfl rfl hl.1 rfl (lv_room (Nat.le_of_ble_eq_true rfl)) dL_sign_2 ⟨Nat.le_of_eq (Nat.zero_add _), Nat.le_of_eq (Nat.zero_add _)⟩) hS (fun _ _ h => h) (fun _ h => h) (fun _ _ h => h) (fun E9 ce9 q9 u9 U8 H1 locs1 ht hvm hu hB hz1 hk1 hS1 hc1 hc2 hc3 => ?_) (fun r u U8 H1 locs1 ht hvm hu hB hz1 hk1 hS1 => ?_)
  · obtain ⟨hB1, hB2, hB3⟩ := hB
    rw [ht] at hB3
    simp only [List.mem_cons, List.not_mem_nil, or_false] at hk9S
    rcases hk9S with rfl | rfl | rfl
    · exact absurd rfl hB2
    · obtain rfl : E9 = "java/lang/IndexOutOfBoundsException" := hB1.trans rfl
      refine vx_catch (own := RL) (name := "java/lang/IndexOutOfBoundsException") hown [] ⟨0, 6, 9, 22⟩ [⟨0, 6, 14, 16⟩] htab (fun z hz => ?_) (by decide) (by decide) (hts (.classLink RL 22 "java/lang/IndexOutOfBoundsException") (List.mem_of_getElem? (i := 1) rfl)) (hG.2.2.2.2.2.2.1.1 ("java/lang/IndexOutOfBoundsException", "java/lang/IndexOutOfBoundsException") (by decide)) hc1 hc2 hc3 ?_
      · cases hz
      · refine lv_astore_n (lv' := [(3, .ref q9), (0, .ref h), (1, .int i)]) hx hb dL_sign_9 rfl hl (by decide) rfl (fun ls hl => ?_)
        refine lv_sipush (v := (-7100)) hx hb dL_sign_10 (by decide) ?_
        refine W.widen (k := 4) (n := 120) (Nat.le_of_eq (Nat.zero_add _)) (Nat.le_of_eq (Nat.zero_add _)) ?_
        exact W.iret (v := (-7100)) hx hb hr (fun U9 ht9 hW9 => ⟨⟨_, ws, rfl, ⟨by rw [← hk9]; rfl, hcx (fun e9 => absurd (hk9.trans e9) (by decide))⟩, by show va_P D vwCl ws U9.heap; rw [ht9]; exact hB3⟩, hS1.F ht9⟩) hS1.2.2 dL_sign_13 hlocks
    · obtain rfl : E9 = "java/lang/IllegalStateException" := hB1.trans rfl
      refine vx_catch (own := RL) (name := "java/lang/IllegalStateException") hown [⟨0, 6, 9, 22⟩] ⟨0, 6, 14, 16⟩ [] htab (fun z hz => ?_) (by decide) (by decide) (hts (.classLink RL 16 "java/lang/IllegalStateException") (List.mem_of_getElem? (i := 2) rfl)) (hG.2.2.2.2.2.2.1.1 ("java/lang/IllegalStateException", "java/lang/IllegalStateException") (by decide)) hc1 hc2 hc3 ?_
      · obtain rfl := List.mem_singleton.mp hz
        exact Or.inr ⟨by decide, _, (hts (.classLink RL 22 "java/lang/IndexOutOfBoundsException") (List.mem_of_getElem? (i := 1) rfl)), hn2⟩
      · refine lv_astore_n (lv' := [(3, .ref q9), (0, .ref h), (1, .int i)]) hx hb dL_sign_14 rfl hl (by decide) rfl (fun ls hl => ?_)
        refine lv_sipush (v := (-7300)) hx hb dL_sign_15 (by decide) ?_
        refine W.widen (k := 4) (n := 120) (Nat.le_of_eq (Nat.zero_add _)) (Nat.le_of_eq (Nat.zero_add _)) ?_
        exact W.iret (v := (-7300)) hx hb hr (fun U9 ht9 hW9 => ⟨⟨_, ws, rfl, ⟨by rw [← hk9]; rfl, hcx (fun e9 => absurd (hk9.trans e9) (by decide))⟩, by show va_P D vwCl ws U9.heap; rw [ht9]; exact hB3⟩, hS1.F ht9⟩) hS1.2.2 dL_sign_18 hlocks
  · obtain ⟨ek, hrv, hc2⟩ := hu
    replace hB : va_P D vwCl u U8.heap := hB
    rw [ht] at hB
    refine lv_istore_n (lv' := [(2, .int r), (0, .ref h), (1, .int i)]) hx hb dL_sign_5 rfl hl (by decide) rfl (fun ls hl => ?_)
    refine lv_goto (tgt := 19) hx hb dL_sign_6 (by decide) ?_
    refine lv_iload_n hx hb dL_sign_19 rfl (lv_at hl 0 rfl) ?_
    refine W.widen (k := 4) (n := 120) (Nat.le_of_eq (Nat.zero_add _)) (Nat.le_of_eq (Nat.zero_add _)) ?_
    exact W.iret (v := r) hx hb hr (fun U9 ht9 hW9 => ⟨⟨_, u, rfl, ⟨by rw [hrv, ek]; rfl, hc2⟩, by show va_P D vwCl u U9.heap; rw [ht9]; exact hB⟩, hS1.F ht9⟩) hS1.2.2 dL_sign_20 hlocks
set_option maxHeartbeats 4000000 in
set_option maxRecDepth 100000 in
theorem cw_call (l : Launch) (hst : l.stackTraces = false) (D : va_G) (cI cO cb : ClassId) (eA mi : Nat) (st : Nat → Nat) (dO dT : Nat) (vF : Value) {A : Nat → Prop} (ws : va_W) {h : Nat} {M : MS} (hc : cSt cI cO eA st A h M ws) (hM : MI M) (hs : sInj st) (i : Int32) (v : Int32) : Met l yL_call wsL_call ({ frames := 8, cells := 2, slots := 12, locals := 125 }) (va_Pc [.ref h, .int i, .int v] (kB D cI cO cb eA mi st dO dT vF A ws)) (va_Qi (fun (ri : Int32) (u : va_W) => ri = er (k_call M i v) (r_call M i v) ∧ cSt cI cO eA st A h (g_call M i v) u) (fun u U9 => va_P D vwCl u U9.heap) A) 2 12 A := by
  have hcx : k_call M i v ≠ 0 → cSt cI cO eA st A h (g_call M i v) ws := fun e9 => by
    have e8 : g_call M i v = M := by
      unfold g_call
      exact if_neg e9
    rw [e8]; exact hc
  obtain ⟨k9, hk9, hk9S, hMet⟩ := cq_call l hst D cI cO cb eA mi st ws hc hM hs i v
  obtain ⟨own9, kd, F, L, hC, hW, ⟨tn, lo, aw, co, ct, ow, G⟩, hD⟩ := hc
  have hm_1 : (h, .inr (9, [.ref (F 0 h), .ref (F 1 h), .ref (F 2 h), .ref (F 3 h), .ref (F 4 h), .int (nI (F 5 h))])) ∈ ws := hC.at G.1.1 (by decide) (by decide)
  refine met_ofWH (cc := cL_call) (maxL := 5) (ret := (some .int)) (hh := [(0, 7, 10, 22), (0, 7, 16, 14), (0, 7, 22, 16)]) (by decide) rfl ?_
  intro p e s m args below meth c s₁ B hml htab hv
  obtain ⟨rfl, ⟨hP, hK, ⟨hG, hGT⟩, hA⟩, hn1, hn2, hn3⟩ := hv
  have hx := B.exec
  have hb := B.bytes
  have hr := B.returns
  have hts := atoms_spec (ws := wsL_call) B.pre
  have hown : s.vm.findClass RL = some m.cls := findClass_of_methodNamed B.named
  have hlocks := B.notSynchronized
  have hS : va_S A s.heap s.heap [] := va_S.rf
  have hl := lv_entry ([.ref h, .int i, .int v]) (n := 5) (Nat.le_of_ble_eq_true rfl)
  rw [lg_entry_eq]
  generalize (lg_sl ([.ref h, .int i, .int v]) ++ List.replicate (5 - (lg_sl ([.ref h, .int i, .int v])).length) Slot.unset).toArray = ls at hl ⊢
  have hl : lv_has ls 5 [(0, .ref h), (1, .int i), (2, .int v)] := hl
  refine lv_aload_n hx hb dL_call_0 rfl (lv_at hl 0 rfl) ?_
  refine lv_iload_n hx hb dL_call_1 rfl (lv_at hl 1 rfl) ?_
  refine lv_iload_n hx hb dL_call_2 rfl (lv_at hl 2 rfl) ?_
  refine vx_calli (vx_runV (As := [.int i, .int v]) (rest := []) ⟨hx, hb, hml, hown, hts⟩ hMet (cwV 2 hts gL_call_X8_call rfl rfl rfl kd_X8_call ⟨Nat.le_of_ble_eq_true rfl, Nat.le_of_ble_eq_true rfl⟩) ⟨cB_blind, c_recv hK hP rfl hm_1, cB_pre hK hG hA hS hP _⟩ rfl rfl hl.1 rfl (lv_room (Nat.le_of_ble_eq_true rfl)) dL_call_3 ⟨Nat.le_of_eq (Nat.zero_add _), Nat.le_of_eq (Nat.zero_add _)⟩) hS (fun _ _ h => h) (fun _ h => h) (fun _ _ h => h) (fun E9 ce9 q9 u9 U8 H1 locs1 ht hvm hu hB hz1 hk1 hS1 hc1 hc2 hc3 => ?_) (fun r u U8 H1 locs1 ht hvm hu hB hz1 hk1 hS1 => ?_)
  · obtain ⟨hB1, hB2, hB3⟩ := hB
    rw [ht] at hB3
    simp only [List.mem_cons, List.not_mem_nil, or_false] at hk9S
    rcases hk9S with rfl | rfl | rfl | rfl
    · exact absurd rfl hB2
    · obtain rfl : E9 = "java/lang/IndexOutOfBoundsException" := hB1.trans rfl
      refine vx_catch (own := RL) (name := "java/lang/IndexOutOfBoundsException") hown [] ⟨0, 7, 10, 22⟩ [⟨0, 7, 16, 14⟩, ⟨0, 7, 22, 16⟩] htab (fun z hz => ?_) (by decide) (by decide) (hts (.classLink RL 22 "java/lang/IndexOutOfBoundsException") (List.mem_of_getElem? (i := 1) rfl)) (hG.2.2.2.2.2.2.1.1 ("java/lang/IndexOutOfBoundsException", "java/lang/IndexOutOfBoundsException") (by decide)) hc1 hc2 hc3 ?_
      · cases hz
      · refine lv_astore (lv' := [(4, .ref q9), (0, .ref h), (1, .int i), (2, .int v)]) hx hb dL_call_10 hl (by decide) rfl (fun ls hl => ?_)
        refine lv_sipush (v := (-7100)) hx hb dL_call_12 (by decide) ?_
        refine W.widen (k := 2) (n := 12) (Nat.le_of_eq (Nat.zero_add _)) (Nat.le_of_eq (Nat.zero_add _)) ?_
        exact W.iret (v := (-7100)) hx hb hr (fun U9 ht9 hW9 => ⟨⟨_, ws, rfl, ⟨by rw [← hk9]; rfl, hcx (fun e9 => absurd (hk9.trans e9) (by decide))⟩, by show va_P D vwCl ws U9.heap; rw [ht9]; exact hB3⟩, hS1.F ht9⟩) hS1.2.2 dL_call_15 hlocks
    · obtain rfl : E9 = "java/lang/IllegalArgumentException" := hB1.trans rfl
      refine vx_catch (own := RL) (name := "java/lang/IllegalArgumentException") hown [⟨0, 7, 10, 22⟩] ⟨0, 7, 16, 14⟩ [⟨0, 7, 22, 16⟩] htab (fun z hz => ?_) (by decide) (by decide) (hts (.classLink RL 14 "java/lang/IllegalArgumentException") (List.mem_of_getElem? (i := 2) rfl)) (hG.2.2.2.2.2.2.1.1 ("java/lang/IllegalArgumentException", "java/lang/IllegalArgumentException") (by decide)) hc1 hc2 hc3 ?_
      · obtain rfl := List.mem_singleton.mp hz
        exact Or.inr ⟨by decide, _, (hts (.classLink RL 22 "java/lang/IndexOutOfBoundsException") (List.mem_of_getElem? (i := 1) rfl)), hn1⟩
      · refine lv_astore (lv' := [(4, .ref q9), (0, .ref h), (1, .int i), (2, .int v)]) hx hb dL_call_16 hl (by decide) rfl (fun ls hl => ?_)
        refine lv_sipush (v := (-7200)) hx hb dL_call_18 (by decide) ?_
        refine W.widen (k := 2) (n := 12) (Nat.le_of_eq (Nat.zero_add _)) (Nat.le_of_eq (Nat.zero_add _)) ?_
        exact W.iret (v := (-7200)) hx hb hr (fun U9 ht9 hW9 => ⟨⟨_, ws, rfl, ⟨by rw [← hk9]; rfl, hcx (fun e9 => absurd (hk9.trans e9) (by decide))⟩, by show va_P D vwCl ws U9.heap; rw [ht9]; exact hB3⟩, hS1.F ht9⟩) hS1.2.2 dL_call_21 hlocks
    · obtain rfl : E9 = "java/lang/IllegalStateException" := hB1.trans rfl
      refine vx_catch (own := RL) (name := "java/lang/IllegalStateException") hown [⟨0, 7, 10, 22⟩, ⟨0, 7, 16, 14⟩] ⟨0, 7, 22, 16⟩ [] htab (fun z hz => ?_) (by decide) (by decide) (hts (.classLink RL 16 "java/lang/IllegalStateException") (List.mem_of_getElem? (i := 3) rfl)) (hG.2.2.2.2.2.2.1.1 ("java/lang/IllegalStateException", "java/lang/IllegalStateException") (by decide)) hc1 hc2 hc3 ?_
      · rcases List.mem_cons.mp hz with rfl | hz
        · exact Or.inr ⟨by decide, _, (hts (.classLink RL 22 "java/lang/IndexOutOfBoundsException") (List.mem_of_getElem? (i := 1) rfl)), hn2⟩
        · obtain rfl := List.mem_singleton.mp hz
          exact Or.inr ⟨by decide, _, (hts (.classLink RL 14 "java/lang/IllegalArgumentException") (List.mem_of_getElem? (i := 2) rfl)), hn3⟩
      · refine lv_astore (lv' := [(4, .ref q9), (0, .ref h), (1, .int i), (2, .int v)]) hx hb dL_call_22 hl (by decide) rfl (fun ls hl => ?_)
        refine lv_sipush (v := (-7300)) hx hb dL_call_24 (by decide) ?_
        refine W.widen (k := 2) (n := 12) (Nat.le_of_eq (Nat.zero_add _)) (Nat.le_of_eq (Nat.zero_add _)) ?_
        exact W.iret (v := (-7300)) hx hb hr (fun U9 ht9 hW9 => ⟨⟨_, ws, rfl, ⟨by rw [← hk9]; rfl, hcx (fun e9 => absurd (hk9.trans e9) (by decide))⟩, by show va_P D vwCl ws U9.heap; rw [ht9]; exact hB3⟩, hS1.F ht9⟩) hS1.2.2 dL_call_27 hlocks
  · obtain ⟨ek, hrv, hc2⟩ := hu
    replace hB : va_P D vwCl u U8.heap := hB
    rw [ht] at hB
    refine lv_istore_n (lv' := [(3, .int r), (0, .ref h), (1, .int i), (2, .int v)]) hx hb dL_call_6 rfl hl (by decide) rfl (fun ls hl => ?_)
    refine lv_goto (tgt := 28) hx hb dL_call_7 (by decide) ?_
    refine lv_iload_n hx hb dL_call_28 rfl (lv_at hl 0 rfl) ?_
    refine W.widen (k := 2) (n := 12) (Nat.le_of_eq (Nat.zero_add _)) (Nat.le_of_eq (Nat.zero_add _)) ?_
    exact W.iret (v := r) hx hb hr (fun U9 ht9 hW9 => ⟨⟨_, u, rfl, ⟨by rw [hrv, ek]; rfl, hc2⟩, by show va_P D vwCl u U9.heap; rw [ht9]; exact hB⟩, hS1.F ht9⟩) hS1.2.2 dL_call_29 hlocks
set_option maxHeartbeats 4000000 in
set_option maxRecDepth 100000 in
theorem cw_isIn (l : Launch) (hst : l.stackTraces = false) (D : va_G) (cI cO cb : ClassId) (eA mi : Nat) (st : Nat → Nat) (dO dT : Nat) (vF : Value) {A : Nat → Prop} (ws : va_W) {h : Nat} {M : MS} (hc : cSt cI cO eA st A h M ws) (hM : MI M) (hs : sInj st) (b : Int32) (t : Int32) (k : Int32) : Met l yL_isIn wsL_isIn ({ frames := 9, cells := 3, slots := 18, locals := 149 }) (va_Pc [.ref h, .int b, .int t, .int k] (kB D cI cO cb eA mi st dO dT vF A ws)) (va_Qi (fun (ri : Int32) (u : va_W) => ri = er (k_ask M b t k) (bi (r_isIn M b t k)) ∧ cSt cI cO eA st A h (M) u) (fun u U9 => va_P D vwCl u U9.heap) A) 3 18 A := by
  have hcx : k_ask M b t k ≠ 0 → cSt cI cO eA st A h (M) ws := fun _ => hc
  obtain ⟨k9, hk9, hk9S, hMet⟩ := cq_isIn l hst D cI cO cb eA mi st ws hc hM hs b t k
  obtain ⟨own9, kd, F, L, hC, hW, ⟨tn, lo, aw, co, ct, ow, G⟩, hD⟩ := hc
  have hm_1 : (h, .inr (9, [.ref (F 0 h), .ref (F 1 h), .ref (F 2 h), .ref (F 3 h), .ref (F 4 h), .int (nI (F 5 h))])) ∈ ws := hC.at G.1.1 (by decide) (by decide)
  refine met_ofWH (cc := cL_isIn) (maxL := 6) (ret := (some .int)) (hh := [(0, 9, 12, 22)]) (by decide) rfl ?_
  intro p e s m args below meth c s₁ B hml htab hv
  obtain ⟨rfl, ⟨hP, hK, ⟨hG, hGT⟩, hA⟩, hn1, hn2, hn3⟩ := hv
  have hx := B.exec
  have hb := B.bytes
  have hr := B.returns
  have hts := atoms_spec (ws := wsL_isIn) B.pre
  have hown : s.vm.findClass RL = some m.cls := findClass_of_methodNamed B.named
  have hlocks := B.notSynchronized
  have hS : va_S A s.heap s.heap [] := va_S.rf
  have hl := lv_entry ([.ref h, .int b, .int t, .int k]) (n := 6) (Nat.le_of_ble_eq_true rfl)
  rw [lg_entry_eq]
  generalize (lg_sl ([.ref h, .int b, .int t, .int k]) ++ List.replicate (6 - (lg_sl ([.ref h, .int b, .int t, .int k])).length) Slot.unset).toArray = ls at hl ⊢
  have hl : lv_has ls 6 [(0, .ref h), (1, .int b), (2, .int t), (3, .int k)] := hl
  refine lv_aload_n hx hb dL_isIn_0 rfl (lv_at hl 0 rfl) ?_
  refine lv_iload_n hx hb dL_isIn_1 rfl (lv_at hl 1 rfl) ?_
  refine lv_iload_n hx hb dL_isIn_2 rfl (lv_at hl 2 rfl) ?_
  refine lv_iload_n hx hb dL_isIn_3 rfl (lv_at hl 3 rfl) ?_
  refine vx_calli (vx_runV (As := [.int b, .int t, .int k]) (rest := []) ⟨hx, hb, hml, hown, hts⟩ hMet (cwV 3 hts gL_isIn_X8_isIn rfl rfl rfl kd_X8_isIn ⟨Nat.le_of_ble_eq_true rfl, Nat.le_of_ble_eq_true rfl⟩) ⟨cB_blind, c_recv hK hP rfl hm_1, cB_pre hK hG hA hS hP _⟩ rfl rfl hl.1 rfl (lv_room (Nat.le_of_ble_eq_true rfl)) dL_isIn_4 ⟨Nat.le_of_eq (Nat.zero_add _), Nat.le_of_eq (Nat.zero_add _)⟩) hS (fun _ _ h => h) (fun _ h => h) (fun _ _ h => h) (fun E9 ce9 q9 u9 U8 H1 locs1 ht hvm hu hB hz1 hk1 hS1 hc1 hc2 hc3 => ?_) (fun r u U8 H1 locs1 ht hvm hu hB hz1 hk1 hS1 => ?_)
  · obtain ⟨hB1, hB2, hB3⟩ := hB
    rw [ht] at hB3
    simp only [List.mem_cons, List.not_mem_nil, or_false] at hk9S
    rcases hk9S with rfl | rfl
    · exact absurd rfl hB2
    · obtain rfl : E9 = "java/lang/IndexOutOfBoundsException" := hB1.trans rfl
      refine vx_catch (own := RL) (name := "java/lang/IndexOutOfBoundsException") hown [] ⟨0, 9, 12, 22⟩ [] htab (fun z hz => ?_) (by decide) (by decide) (hts (.classLink RL 22 "java/lang/IndexOutOfBoundsException") (List.mem_of_getElem? (i := 1) rfl)) (hG.2.2.2.2.2.2.1.1 ("java/lang/IndexOutOfBoundsException", "java/lang/IndexOutOfBoundsException") (by decide)) hc1 hc2 hc3 ?_
      · cases hz
      · refine lv_astore (lv' := [(5, .ref q9), (0, .ref h), (1, .int b), (2, .int t), (3, .int k)]) hx hb dL_isIn_12 hl (by decide) rfl (fun ls hl => ?_)
        refine lv_sipush (v := (-7100)) hx hb dL_isIn_14 (by decide) ?_
        refine W.widen (k := 3) (n := 18) (Nat.le_of_eq (Nat.zero_add _)) (Nat.le_of_eq (Nat.zero_add _)) ?_
        exact W.iret (v := (-7100)) hx hb hr (fun U9 ht9 hW9 => ⟨⟨_, ws, rfl, ⟨by rw [← hk9]; rfl, hcx (fun e9 => absurd (hk9.trans e9) (by decide))⟩, by show va_P D vwCl ws U9.heap; rw [ht9]; exact hB3⟩, hS1.F ht9⟩) hS1.2.2 dL_isIn_17 hlocks
  · obtain ⟨ek, hrv, hc2⟩ := hu
    replace hB : va_P D vwCl u U8.heap := hB
    rw [ht] at hB
    refine lv_istore (lv' := [(4, .int r), (0, .ref h), (1, .int b), (2, .int t), (3, .int k)]) hx hb dL_isIn_7 hl (by decide) rfl (fun ls hl => ?_)
    refine lv_goto (tgt := 18) hx hb dL_isIn_9 (by decide) ?_
    refine lv_iload hx hb dL_isIn_18 (lv_at hl 0 rfl) ?_
    subst hrv
    refine b_if_eq (tgt := 27) hx hb dL_isIn_20 (by decide) (fun c9 => ?_) (fun c9 => ?_)
    · refine lv_iconst (v := nI 0) hx hb dL_isIn_27 (by decide) ?_
      refine W.widen (k := 3) (n := 18) (Nat.le_of_eq (Nat.zero_add _)) (Nat.le_of_eq (Nat.zero_add _)) ?_
      exact W.iret (v := nI 0) hx hb hr (fun U9 ht9 hW9 => ⟨⟨_, u, rfl, ⟨by rw [ek, c9]; rfl, hc2⟩, by show va_P D vwCl u U9.heap; rw [ht9]; exact hB⟩, hS1.F ht9⟩) hS1.2.2 dL_isIn_28 hlocks
    · refine lv_iconst (v := nI 1) hx hb dL_isIn_23 (by decide) ?_
      refine lv_goto (tgt := 28) hx hb dL_isIn_24 (by decide) ?_
      refine W.widen (k := 3) (n := 18) (Nat.le_of_eq (Nat.zero_add _)) (Nat.le_of_eq (Nat.zero_add _)) ?_
      exact W.iret (v := nI 1) hx hb hr (fun U9 ht9 hW9 => ⟨⟨_, u, rfl, ⟨by rw [ek, c9]; rfl, hc2⟩, by show va_P D vwCl u U9.heap; rw [ht9]; exact hB⟩, hS1.F ht9⟩) hS1.2.2 dL_isIn_28 hlocks
