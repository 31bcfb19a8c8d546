/-! the class: methods that may throw, and its public questions -/
def xnm (k : Nat) : String := if k = 1 then "java/lang/IndexOutOfBoundsException" else if k = 2 then "java/lang/IllegalArgumentException" else "java/lang/IllegalStateException"
abbrev XK (D : va_G) (ws : va_W) (A : Nat → Prop) (k : Nat) : String → State → State → Prop := vx_X (fun _ : Unit => True) (fun E _ U9 => E = xnm k ∧ k ≠ 0 ∧ va_P D vwCl ws U9.heap) A
theorem x_keep {D : va_G} {ws : va_W} {s t : State} {H : Heap} {locs : List Loc} {A : Nat → Prop} (hS : va_S A s.heap H locs) (hP : va_P D vwCl ws H) (h2 : H.size ≤ t.heap.size) (h3 : ∀ q : Nat, q < H.size → t.heap[q]? = H[q]?) : va_P D vwCl ws t.heap ∧ va_F A s t := by
  refine ⟨hP.kept (fun k q hk => h3 _ ?_), Nat.le_trans hS.1 h2, fun q h4 h5 => (h3 q (Nat.lt_of_lt_of_le h4 hS.1)).trans (hS.2.1 q h4 h5)⟩
  exact (hP k q hk).lt
theorem isIx_lo {x : Int32} {n : Nat} (h : x < 0) : isIx x n = false := by
  have h0 : x < nI 0 := h
  simp [isIx, i_in, h0]
theorem isIx_hi {x : Int32} {n : Nat} (hn : n < 2 ^ 31) (h : ¬ x < nI n) : isIx x n = false := by
  by_cases h1 : isIx x n = true
  · obtain ⟨j, hj, rfl⟩ := isIx_of hn h1
    exact absurd (nI_lt hj hn) h
  · simpa using h1
theorem isIx_mk {x : Int32} {n : Nat} (hn : n < 2 ^ 31) (h : ¬ x < 0) (h2 : x < nI n) : ∃ j : Nat, j < n ∧ x = nI j := by
  obtain ⟨j, hj, rfl⟩ := nI_of h
  refine ⟨j, ?_, rfl⟩
  by_cases h3 : j < n
  · exact h3
  · exact absurd h2 (nI_nlt (by omega) hj)
theorem vx_callr {p : Program} {l : Launch} {e : Env} {R : Room} {s : State} {m : MethodId} {args : Array Value} {below : List Frame} {meth : Method} {c : Code} {H H0 : Heap} {locs : List Loc} {cells slots mc ms pc : Nat} {Q : State → Prop} {ls : Array Slot} {st0 rest : List Value} {A0 A1 : Nat → Prop} {free : Addr → Prop} {a : Array Value}
    {S SX : Type} {post : S → Prop} {px : SX → Prop} {B : S → Nat → State → Prop} {BX : String → SX → State → Prop} {AX : Nat → Prop} (hr : vx_Run p l e R s m args below meth c H locs cells slots mc ms (F0 m pc ls st0) rest (va_Qr post B A1 a) (vx_X px BX AX) free) (hS : va_S A0 H0 H locs) (hA : ∀ q, q < H.size → A1 q → A0 q) (hf : ∀ q, free q → A0 q) (hAX : ∀ q, q < H.size → AX q → A0 q)
    (kx : ∀ (E : String) (ce : Cell) (q9 : Addr) (u : SX) (t : State) (H1 : Heap) (locs1 : List Loc), t.heap = H1 → s.vm.Alike t.vm → px u → BX E u t → H.size ≤ H1.size → (∀ q : Nat, q < H.size → ¬ AX q → H1[q]? = H[q]?) → va_S A0 H0 H1 locs1 → H1[q9]? = some ce → ce.vm = .none → s.vm.findClass E = some ce.cls → vx_W p l e R s m args below meth c H1 locs1 (cells + mc) (slots + ms) Q (F0 m pc ls rest) q9)
    (kk : ∀ (u : S) (ra : Nat) (t : State) (H1 : Heap) (locs1 : List Loc), t.heap = H1 → s.vm.Alike t.vm → post u → B u ra t → H.size ≤ H1.size → (∀ q : Nat, q < H.size → ¬ A1 q → H1[q]? = H[q]?) → va_S A0 H0 H1 locs1 → W p l e R s m args below meth c H1 locs1 (cells + mc) (slots + ms) Q (F0 m (pc + 3) ls (.ref ra :: rest))) : W p l e R s m args below meth c H locs cells slots Q (F0 m pc ls st0) := by
  intro T hT X
  rcases hr T hT X with ⟨v, st₀, t, T', L, h0, X', hL, e1, e2, ⟨⟨u, ra, hv, hp, hb⟩, hF⟩, st⟩ | ⟨q, st₀, t, T', L, E, ce, h0, X', hL, e1, e2, ⟨u, hp, hb, hF⟩, hce, hcv, hcl, st⟩
  · cases hv
    obtain ⟨k1, k2, k3⟩ := vx_keep h0 e1 hS hA hf hL hF
    obtain ⟨t2, a1, b1⟩ := kk u ra t T'.heap (locs ++ L) e1.symm (by rw [← e2]; exact X'.warmed.alike) hp hb k1 k2 k3 T' rfl X'
    exact ⟨t2, st t2 a1, b1⟩
  · obtain ⟨k1, k2, k3⟩ := vx_keep h0 e1 hS hAX hf hL hF
    obtain ⟨t2, a1, b1⟩ := kx E ce q u t T'.heap (locs ++ L) e1.symm (by rw [← e2]; exact X'.warmed.alike) hp hb k1 k2 k3 (by rw [e1]; exact hce) hcv hcl T' rfl X'
    exact ⟨t2, st.trans a1, b1⟩
abbrev kIx (i : Int32) (n : Nat) : Nat := if isIx i n = true then 0 else 1
theorem kIx_no {i : Int32} {n : Nat} (h : isIx i n = false) : kIx i n = 1 := if_neg (by rw [h]; decide)
theorem kIx_yes {j n : Nat} (hn : n < 2 ^ 31) (h : j < n) : kIx (nI j) n = 0 := if_pos (isIx_nI hn h)
theorem kIx_0 {i : Int32} {n : Nat} (hn : n < 2 ^ 31) (h : kIx i n = 0) : ∃ j : Nat, j < n ∧ i = nI j := by
  unfold kIx at h
  split at h
  · exact isIx_of hn (by assumption)
  · cases h
theorem kIx_1 {i : Int32} {n : Nat} (h : kIx i n ≠ 0) : kIx i n = 1 := by
  unfold kIx at h ⊢
  split at h
  · exact absurd rfl h
  · exact if_neg (by assumption)
/-- the element that a checked index names -/
abbrev ga (vs : List Nat) (i : Int32) : Nat := gt vs i.toNatClampNeg
theorem ga_nI {vs : List Nat} {j : Nat} (h : j < 2 ^ 31) : ga vs (nI j) = gt vs j := by unfold ga; rw [nI_clamp h]
theorem WF.ela {kd : Nat → Nat} {F : Nat → Nat → Nat} {L : Nat → List Nat} (h : WF kd F L) {a k : Nat} {i : Int32} (hk : kd a = k + 20) (hi : kIx i (L a).length = 0) : kd (ga (L a) i) = k := by
  have hl := h.len hk (by omega)
  obtain ⟨j, hj, rfl⟩ := kIx_0 (by omega) hi
  rw [ga_nI (by omega)]
  exact h.el hk hj
theorem nar01 {n : Nat} (h : n < 2) : narrow .boolean (.int (nI n)) = .int (nI n) := by
  have : n = 0 ∨ n = 1 := by omega
  rcases this with rfl | rfl <;> rfl
set_option maxHeartbeats 4000000 in
set_option maxRecDepth 100000 in
theorem cx_checkBidder (l : Launch) (hst : l.stackTraces = false) (D : va_G) (cI cO cb : ClassId) (eA mi : Nat) (st : Nat → Nat) {A : Nat → Prop} (ws : va_W) (hD : va_D A ws) {own kd : Nat → Nat} {F : Nat → Nat → Nat} {L : Nat → List Nat} (hC : CW cI cO eA st own kd F L ws) (hW : WF kd F L) (hs : sInj st)  (b : Int32) : vx_Met l yX8_checkBidder wsX8_checkBidder ({ frames := 6, cells := 1, slots := 6, locals := 81 }) (va_Pc [.int b] (cB D cI cO cb eA mi st A ws)) (va_Qv (fun _ : Unit => kIx b 8 = 0) (fun _ U9 => va_P D vwCl ws U9.heap) A) (XK D ws A (kIx b 8)) 1 6 A := by
  refine vx_ofW (cc := cX8_checkBidder) (maxL := 1) (ret := none) (by decide) rfl ?_
  intro p e s m args below meth c s₁ B hml htab hv
  obtain ⟨rfl, hP, hK, hG, hA⟩ := hv
  have hx := B.exec
  have hb := B.bytes
  have hr := B.returns
  have hts := atoms_spec (ws := wsX8_checkBidder) B.pre
  have hown : s.vm.findClass RX8 = some m.cls := findClass_of_methodNamed B.named
  have hlocks := B.notSynchronized
  have hS : va_S A s.heap s.heap [] := va_S.rf
  have hD0 := hD
  have hl := lv_entry ([.int b]) (n := 1) (Nat.le_of_ble_eq_true rfl)
  rw [lg_entry_eq]
  generalize (lg_sl ([.int b]) ++ List.replicate (1 - (lg_sl ([.int b])).length) Slot.unset).toArray = ls at hl ⊢
  have hl : lv_has ls 1 [(0, .int b)] := hl
  refine lv_iload_n hx hb dX8_checkBidder_0 rfl (lv_at hl 0 rfl) ?_
  refine lv_if_lt (tgt := 10) hx hb dX8_checkBidder_1 (by decide)  (fun c_1 => ?_) (fun c_1 => ?_)
  · have hkx : kIx b 8 = 1 := by first | exact kIx_no (isIx_lo (by assumption)) | exact kIx_no (isIx_hi (by decide) (by assumption))
    exact vx_throw0 (A := A) (own := RX8) (cls := "java/lang/IndexOutOfBoundsException") (names := ["java/lang/RuntimeException", "java/lang/Exception"]) (ik := 76) (ic := 78) hx hb hst hown (by decide +kernel) (by decide +kernel) (hts (.classLink RX8 76 "java/lang/IndexOutOfBoundsException") (List.mem_of_getElem? (i := 1) rfl)) (hts (.initialized "java/lang/IndexOutOfBoundsException") (List.mem_of_getElem? (i := 2) rfl)) (vx_hat (L := vx_at0 RX8 78 "java/lang/IndexOutOfBoundsException" ["java/lang/RuntimeException", "java/lang/Exception"]) (fun w9 h9 => hts w9 (List.mem_cons_of_mem _ (List.mem_append_right _ h9))) gB1 (gB_of (by decide +kernel) hG.2.2.2.2.2.2.1)) (by decide +kernel) hG.1 hG.2.1 hS (hl.1.trans hml.symm) dX8_checkBidder_10 dX8_checkBidder_13 dX8_checkBidder_14 dX8_checkBidder_17 (fun z9 h9 => (htab z9 h9).elim) (by decide) (Nat.le_of_ble_eq_true rfl) (Nat.le_of_ble_eq_true rfl) (Nat.le_of_ble_eq_true rfl) hlocks (fun t9 _ g2 g3 => ⟨(), trivial, ⟨by rw [hkx]; rfl, by rw [hkx]; decide, (x_keep hS hP g2 g3).1⟩, (x_keep hS hP g2 g3).2⟩) hS.2.2 (Nat.le_of_ble_eq_true rfl) (Nat.le_of_ble_eq_true rfl)
  · refine lv_iload_n hx hb dX8_checkBidder_4 rfl (lv_at hl 0 rfl) ?_
    refine lv_bipush (v := nI 8) hx hb dX8_checkBidder_5 (by decide) ?_
    refine lv_icmp_lt (tgt := 18) hx hb dX8_checkBidder_7 (by decide)  (fun c_2 => ?_) (fun c_2 => ?_)
    · obtain ⟨j, hj, rfl⟩ := isIx_mk (by omega) c_1 c_2
      refine W.widen (k := 1) (n := 6) (by omega) (by omega) ?_
      refine vx_ret ?_
      have hk9 : kIx (nI j) 8 = 0 := by exact kIx_yes (by decide) (by assumption)
      exact W.vret hx hb hr (fun U9 ht hW9 => ⟨⟨(), rfl, hk9, by show va_P D vwCl ws U9.heap; rw [ht]; exact hP⟩, hS.F ht⟩) hS.2.2 dX8_checkBidder_18
    · have hkx : kIx b 8 = 1 := by first | exact kIx_no (isIx_lo (by assumption)) | exact kIx_no (isIx_hi (by decide) (by assumption))
      exact vx_throw0 (A := A) (own := RX8) (cls := "java/lang/IndexOutOfBoundsException") (names := ["java/lang/RuntimeException", "java/lang/Exception"]) (ik := 76) (ic := 78) hx hb hst hown (by decide +kernel) (by decide +kernel) (hts (.classLink RX8 76 "java/lang/IndexOutOfBoundsException") (List.mem_of_getElem? (i := 1) rfl)) (hts (.initialized "java/lang/IndexOutOfBoundsException") (List.mem_of_getElem? (i := 2) rfl)) (vx_hat (L := vx_at0 RX8 78 "java/lang/IndexOutOfBoundsException" ["java/lang/RuntimeException", "java/lang/Exception"]) (fun w9 h9 => hts w9 (List.mem_cons_of_mem _ (List.mem_append_right _ h9))) gB1 (gB_of (by decide +kernel) hG.2.2.2.2.2.2.1)) (by decide +kernel) hG.1 hG.2.1 hS (hl.1.trans hml.symm) dX8_checkBidder_10 dX8_checkBidder_13 dX8_checkBidder_14 dX8_checkBidder_17 (fun z9 h9 => (htab z9 h9).elim) (by decide) (Nat.le_of_ble_eq_true rfl) (Nat.le_of_ble_eq_true rfl) (Nat.le_of_ble_eq_true rfl) hlocks (fun t9 _ g2 g3 => ⟨(), trivial, ⟨by rw [hkx]; rfl, by rw [hkx]; decide, (x_keep hS hP g2 g3).1⟩, (x_keep hS hP g2 g3).2⟩) hS.2.2 (Nat.le_of_ble_eq_true rfl) (Nat.le_of_ble_eq_true rfl)
set_option maxHeartbeats 4000000 in
set_option maxRecDepth 100000 in
theorem cx_awardAt (l : Launch) (hst : l.stackTraces = false) (D : va_G) (cI cO cb : ClassId) (eA mi : Nat) (st : Nat → Nat) {A : Nat → Prop} (ws : va_W) (hD : va_D A ws) {own kd : Nat → Nat} {F : Nat → Nat → Nat} {L : Nat → List Nat} (hC : CW cI cO eA st own kd F L ws) (hW : WF kd F L) (hs : sInj st)  (h : Nat) (hk_h : kd h = 9) (i : Int32) : vx_Met l yX8_awardAt wsX8_awardAt ({ frames := 6, cells := 1, slots := 6, locals := 81 }) (va_Pc [.ref h, .int i] (cB D cI cO cb eA mi st A ws)) (va_Qr (fun _ : Unit => kIx i (L (F 2 h)).length = 0) (fun _ q U9 => q = ga (L (F 2 h)) i ∧ va_P D vwCl ws U9.heap) A) (XK D ws A (kIx i (L (F 2 h)).length)) 1 6 A := by
  refine vx_ofW (cc := cX8_awardAt) (maxL := 2) (ret := (some (.object "TenderHall$Award"))) (by decide) rfl ?_
  intro p e s m args below meth c s₁ B hml htab hv
  obtain ⟨rfl, hP, hK, hG, hA⟩ := hv
  have hx := B.exec
  have hb := B.bytes
  have hr := B.returns
  have hts := atoms_spec (ws := wsX8_awardAt) B.pre
  have hown : s.vm.findClass RX8 = some m.cls := findClass_of_methodNamed B.named
  have hlocks := B.notSynchronized
  have hin_X8 : ∀ w ∈ wsX80, w ∈ wsX8_awardAt := fun w h => List.mem_cons_of_mem _ (List.mem_append_left _ (List.mem_append_left _ (List.mem_append_right _ h)))
  have l_20 := (hts (.fieldLink RX8 20 "TenderHall" "awards" "Ljava/util/ArrayList;") (List.mem_of_getElem? (i := 3) rfl))
  have hS : va_S A s.heap s.heap [] := va_S.rf
  have hD0 := hD
  have hl := lv_entry ([.ref h, .int i]) (n := 2) (Nat.le_of_ble_eq_true rfl)
  rw [lg_entry_eq]
  generalize (lg_sl ([.ref h, .int i]) ++ List.replicate (2 - (lg_sl ([.ref h, .int i])).length) Slot.unset).toArray = ls at hl ⊢
  have hl : lv_has ls 2 [(0, .ref h), (1, .int i)] := hl
  have hk3 : kd (F 2 h) = 22 := hW.ref hk_h rfl (by decide)
  have hl3 : (L (F 2 h)).length ≤ 60 := hW.len hk3 (by decide)
  refine lv_iload_n hx hb dX8_awardAt_0 rfl (lv_at hl 1 rfl) ?_
  refine lv_if_lt (tgt := 15) hx hb dX8_awardAt_1 (by decide)  (fun c_1 => ?_) (fun c_1 => ?_)
  · have hkx : kIx i (L (F 2 h)).length = 1 := by first | exact kIx_no (isIx_lo (by assumption)) | exact kIx_no (isIx_hi (by omega) (by assumption))
    exact vx_throw0 (A := A) (own := RX8) (cls := "java/lang/IndexOutOfBoundsException") (names := ["java/lang/RuntimeException", "java/lang/Exception"]) (ik := 76) (ic := 78) hx hb hst hown (by decide +kernel) (by decide +kernel) (hts (.classLink RX8 76 "java/lang/IndexOutOfBoundsException") (List.mem_of_getElem? (i := 1) rfl)) (hts (.initialized "java/lang/IndexOutOfBoundsException") (List.mem_of_getElem? (i := 2) rfl)) (vx_hat (L := vx_at0 RX8 78 "java/lang/IndexOutOfBoundsException" ["java/lang/RuntimeException", "java/lang/Exception"]) (fun w9 h9 => hts w9 (List.mem_cons_of_mem _ (List.mem_append_right _ h9))) gB1 (gB_of (by decide +kernel) hG.2.2.2.2.2.2.1)) (by decide +kernel) hG.1 hG.2.1 hS (hl.1.trans hml.symm) dX8_awardAt_15 dX8_awardAt_18 dX8_awardAt_19 dX8_awardAt_22 (fun z9 h9 => (htab z9 h9).elim) (by decide) (Nat.le_of_ble_eq_true rfl) (Nat.le_of_ble_eq_true rfl) (Nat.le_of_ble_eq_true rfl) hlocks (fun t9 _ g2 g3 => ⟨(), trivial, ⟨by rw [hkx]; rfl, by rw [hkx]; decide, (x_keep hS hP g2 g3).1⟩, (x_keep hS hP g2 g3).2⟩) hS.2.2 (Nat.le_of_ble_eq_true rfl) (Nat.le_of_ble_eq_true rfl)
  · refine lv_iload_n hx hb dX8_awardAt_4 rfl (lv_at hl 1 rfl) ?_
    refine lv_aload_n hx hb dX8_awardAt_5 rfl (lv_at hl 0 rfl) ?_
    have hm_2 : (h, .inr (9, [.ref (F 0 h), .ref (F 1 h), .ref (F 2 h), .ref (F 3 h), .ref (F 4 h), .int (nI (F 5 h))])) ∈ ws := hC.at hk_h (by decide) (by decide)
    refine c_get (C := RX8) (T := TX8) (N := 6) hx hb hts hin_X8 hown hK hP hm_2 rfl 2 (by decide) l_20 (fun _ h9 => h9) rfl dX8_awardAt_6 ?_
    have hk_3 : kd (F 2 h) = 22 := hW.ref hk_h rfl (by decide)
    have hl_4 : (L (F 2 h)).length ≤ 60 := hW.len hk_3 (by decide)
    obtain ⟨fs_hm_5, hm_5⟩ := hC.obj hk_3 (by decide)
    refine vp_callSi (W.runV (As := []) (rest := [.int i]) ⟨hx, hb, hml, hown, hts⟩ ((cl_size l D cI cO cb eA mi st ws hD (F 2 h) (L (F 2 h)) (hC.lst hk_3 (by decide)))) (cwV 0 hts gX8_awardAt_Jx4a65c_size_8abf5 rfl rfl rfl kd_Jx4a65c_size_8abf5 ⟨Nat.le_of_ble_eq_true rfl, Nat.le_of_ble_eq_true rfl⟩) ⟨cB_blind, c_recv hK hP rfl hm_5, cB_pre hK hG hA hS hP _⟩ rfl rfl hl.1 rfl (lv_room (Nat.le_of_ble_eq_true rfl)) dX8_awardAt_9 ⟨Nat.le_of_ble_eq_true rfl, Nat.le_of_ble_eq_true rfl⟩) (fun r_6 hr_6 => ?_)
    subst hr_6
    refine lv_icmp_lt (tgt := 23) hx hb dX8_awardAt_12 (by decide)  (fun c_7 => ?_) (fun c_7 => ?_)
    · obtain ⟨j, hj, rfl⟩ := isIx_mk (by omega) c_1 c_7
      refine lv_aload_n hx hb dX8_awardAt_23 rfl (lv_at hl 0 rfl) ?_
      refine c_get (C := RX8) (T := TX8) (N := 6) hx hb hts hin_X8 hown hK hP hm_2 rfl 2 (by decide) l_20 (fun _ h9 => h9) rfl dX8_awardAt_24 ?_
      refine lv_iload_n hx hb dX8_awardAt_27 rfl (lv_at hl 1 rfl) ?_
      obtain ⟨fs_hm_8, hm_8⟩ := hC.obj hk_3 (by decide)
      refine va_csr (W.runV (As := [.int (nI j)]) (rest := []) ⟨hx, hb, hml, hown, hts⟩ ((cl_get l D cI cO cb eA mi st ws hD (F 2 h) (L (F 2 h)) (hC.lst hk_3 (by decide)) j (gt (L (F 2 h)) j) (gt_some (by omega)))) (cwV 1 hts gX8_awardAt_Jx4a65c_get_915e3 rfl rfl rfl kd_Jx4a65c_get_915e3 ⟨Nat.le_of_ble_eq_true rfl, Nat.le_of_ble_eq_true rfl⟩) ⟨cB_blind, c_recv hK hP rfl hm_8, cB_pre hK hG hA hS hP _⟩ rfl rfl hl.1 rfl (lv_room (Nat.le_of_ble_eq_true rfl)) dX8_awardAt_28 ⟨Nat.le_of_ble_eq_true rfl, Nat.le_of_ble_eq_true rfl⟩) (fun r_9 hr_9 => ?_)
      subst hr_9
      have hk_10 : kd (gt (L (F 2 h)) j) = 2 := hW.el hk_3 (by omega)
      have hm_11 : (gt (L (F 2 h)) j, .inr (2, [.int (nI (F 0 (gt (L (F 2 h)) j))), .ref (F 1 (gt (L (F 2 h)) j)), .ref (F 2 (gt (L (F 2 h)) j)), .int (nI (F 3 (gt (L (F 2 h)) j))), .int (nI (F 4 (gt (L (F 2 h)) j))), .int (nI (F 5 (gt (L (F 2 h)) j))), .int (nI (F 6 (gt (L (F 2 h)) j)))])) ∈ ws := hC.at hk_10 (by decide) (by decide)
      refine va_castE hx hb hown (hts (.classLink RX8 144 "TenderHall$Award") (List.mem_of_getElem? (i := 4) rfl)) (c_recv hK hP (ci := 2) rfl hm_11) dX8_awardAt_31 ?_
      refine W.widen (k := 1) (n := 6) (by omega) (by omega) ?_
      refine vx_ret ?_
      have hk9 : kIx (nI j) (L (F 2 h)).length = 0 := by exact kIx_yes (by omega) (by assumption)
      exact W.aret hx hb hr (Or.inl ⟨_, rfl⟩) (Or.inr ⟨_, rfl⟩) (fun U9 ht hW9 => ⟨⟨(), (gt (L (F 2 h)) j), rfl, hk9, (show gt (L (F 2 h)) j = ga (L (F 2 h)) (nI j) from by rw [ga_nI (by omega)]), by show va_P D vwCl ws U9.heap; rw [ht]; exact hP⟩, hS.F ht⟩) hS.2.2 dX8_awardAt_34
    · have hkx : kIx i (L (F 2 h)).length = 1 := by first | exact kIx_no (isIx_lo (by assumption)) | exact kIx_no (isIx_hi (by omega) (by assumption))
      exact vx_throw0 (A := A) (own := RX8) (cls := "java/lang/IndexOutOfBoundsException") (names := ["java/lang/RuntimeException", "java/lang/Exception"]) (ik := 76) (ic := 78) hx hb hst hown (by decide +kernel) (by decide +kernel) (hts (.classLink RX8 76 "java/lang/IndexOutOfBoundsException") (List.mem_of_getElem? (i := 1) rfl)) (hts (.initialized "java/lang/IndexOutOfBoundsException") (List.mem_of_getElem? (i := 2) rfl)) (vx_hat (L := vx_at0 RX8 78 "java/lang/IndexOutOfBoundsException" ["java/lang/RuntimeException", "java/lang/Exception"]) (fun w9 h9 => hts w9 (List.mem_cons_of_mem _ (List.mem_append_right _ h9))) gB1 (gB_of (by decide +kernel) hG.2.2.2.2.2.2.1)) (by decide +kernel) hG.1 hG.2.1 hS (hl.1.trans hml.symm) dX8_awardAt_15 dX8_awardAt_18 dX8_awardAt_19 dX8_awardAt_22 (fun z9 h9 => (htab z9 h9).elim) (by decide) (Nat.le_of_ble_eq_true rfl) (Nat.le_of_ble_eq_true rfl) (Nat.le_of_ble_eq_true rfl) hlocks (fun t9 _ g2 g3 => ⟨(), trivial, ⟨by rw [hkx]; rfl, by rw [hkx]; decide, (x_keep hS hP g2 g3).1⟩, (x_keep hS hP g2 g3).2⟩) hS.2.2 (Nat.le_of_ble_eq_true rfl) (Nat.le_of_ble_eq_true rfl)
set_option maxHeartbeats 4000000 in
set_option maxRecDepth 100000 in
theorem cx_complaintAt (l : Launch) (hst : l.stackTraces = false) (D : va_G) (cI cO cb : ClassId) (eA mi : Nat) (st : Nat → Nat) {A : Nat → Prop} (ws : va_W) (hD : va_D A ws) {own kd : Nat → Nat} {F : Nat → Nat → Nat} {L : Nat → List Nat} (hC : CW cI cO eA st own kd F L ws) (hW : WF kd F L) (hs : sInj st)  (h : Nat) (hk_h : kd h = 9) (i : Int32) : vx_Met l yX8_complaintAt wsX8_complaintAt ({ frames := 6, cells := 1, slots := 6, locals := 81 }) (va_Pc [.ref h, .int i] (cB D cI cO cb eA mi st A ws)) (va_Qr (fun _ : Unit => kIx i (L (F 3 h)).length = 0) (fun _ q U9 => q = ga (L (F 3 h)) i ∧ va_P D vwCl ws U9.heap) A) (XK D ws A (kIx i (L (F 3 h)).length)) 1 6 A := by
  refine vx_ofW (cc := cX8_complaintAt) (maxL := 2) (ret := (some (.object "TenderHall$Complaint"))) (by decide) rfl ?_
  intro p e s m args below meth c s₁ B hml htab hv
  obtain ⟨rfl, hP, hK, hG, hA⟩ := hv
  have hx := B.exec
  have hb := B.bytes
  have hr := B.returns
  have hts := atoms_spec (ws := wsX8_complaintAt) B.pre
  have hown : s.vm.findClass RX8 = some m.cls := findClass_of_methodNamed B.named
  have hlocks := B.notSynchronized
  have hin_X8 : ∀ w ∈ wsX80, w ∈ wsX8_complaintAt := fun w h => List.mem_cons_of_mem _ (List.mem_append_left _ (List.mem_append_left _ (List.mem_append_right _ h)))
  have l_23 := (hts (.fieldLink RX8 23 "TenderHall" "complaints" "Ljava/util/ArrayList;") (List.mem_of_getElem? (i := 3) rfl))
  have hS : va_S A s.heap s.heap [] := va_S.rf
  have hD0 := hD
  have hl := lv_entry ([.ref h, .int i]) (n := 2) (Nat.le_of_ble_eq_true rfl)
  rw [lg_entry_eq]
  generalize (lg_sl ([.ref h, .int i]) ++ List.replicate (2 - (lg_sl ([.ref h, .int i])).length) Slot.unset).toArray = ls at hl ⊢
  have hl : lv_has ls 2 [(0, .ref h), (1, .int i)] := hl
  have hk3 : kd (F 3 h) = 25 := hW.ref hk_h rfl (by decide)
  have hl3 : (L (F 3 h)).length ≤ 60 := hW.len hk3 (by decide)
  refine lv_iload_n hx hb dX8_complaintAt_0 rfl (lv_at hl 1 rfl) ?_
  refine lv_if_lt (tgt := 15) hx hb dX8_complaintAt_1 (by decide)  (fun c_1 => ?_) (fun c_1 => ?_)
  · have hkx : kIx i (L (F 3 h)).length = 1 := by first | exact kIx_no (isIx_lo (by assumption)) | exact kIx_no (isIx_hi (by omega) (by assumption))
    exact vx_throw0 (A := A) (own := RX8) (cls := "java/lang/IndexOutOfBoundsException") (names := ["java/lang/RuntimeException", "java/lang/Exception"]) (ik := 76) (ic := 78) hx hb hst hown (by decide +kernel) (by decide +kernel) (hts (.classLink RX8 76 "java/lang/IndexOutOfBoundsException") (List.mem_of_getElem? (i := 1) rfl)) (hts (.initialized "java/lang/IndexOutOfBoundsException") (List.mem_of_getElem? (i := 2) rfl)) (vx_hat (L := vx_at0 RX8 78 "java/lang/IndexOutOfBoundsException" ["java/lang/RuntimeException", "java/lang/Exception"]) (fun w9 h9 => hts w9 (List.mem_cons_of_mem _ (List.mem_append_right _ h9))) gB1 (gB_of (by decide +kernel) hG.2.2.2.2.2.2.1)) (by decide +kernel) hG.1 hG.2.1 hS (hl.1.trans hml.symm) dX8_complaintAt_15 dX8_complaintAt_18 dX8_complaintAt_19 dX8_complaintAt_22 (fun z9 h9 => (htab z9 h9).elim) (by decide) (Nat.le_of_ble_eq_true rfl) (Nat.le_of_ble_eq_true rfl) (Nat.le_of_ble_eq_true rfl) hlocks (fun t9 _ g2 g3 => ⟨(), trivial, ⟨by rw [hkx]; rfl, by rw [hkx]; decide, (x_keep hS hP g2 g3).1⟩, (x_keep hS hP g2 g3).2⟩) hS.2.2 (Nat.le_of_ble_eq_true rfl) (Nat.le_of_ble_eq_true rfl)
  · refine lv_iload_n hx hb dX8_complaintAt_4 rfl (lv_at hl 1 rfl) ?_
    refine lv_aload_n hx hb dX8_complaintAt_5 rfl (lv_at hl 0 rfl) ?_
    have hm_2 : (h, .inr (9, [.ref (F 0 h), .ref (F 1 h), .ref (F 2 h), .ref (F 3 h), .ref (F 4 h), .int (nI (F 5 h))])) ∈ ws := hC.at hk_h (by decide) (by decide)
    refine c_get (C := RX8) (T := TX8) (N := 6) hx hb hts hin_X8 hown hK hP hm_2 rfl 3 (by decide) l_23 (fun _ h9 => h9) rfl dX8_complaintAt_6 ?_
    have hk_3 : kd (F 3 h) = 25 := hW.ref hk_h rfl (by decide)
    have hl_4 : (L (F 3 h)).length ≤ 60 := hW.len hk_3 (by decide)
    obtain ⟨fs_hm_5, hm_5⟩ := hC.obj hk_3 (by decide)
    refine vp_callSi (W.runV (As := []) (rest := [.int i]) ⟨hx, hb, hml, hown, hts⟩ ((cl_size l D cI cO cb eA mi st ws hD (F 3 h) (L (F 3 h)) (hC.lst hk_3 (by decide)))) (cwV 0 hts gX8_complaintAt_Jx4a65c_size_8abf5 rfl rfl rfl kd_Jx4a65c_size_8abf5 ⟨Nat.le_of_ble_eq_true rfl, Nat.le_of_ble_eq_true rfl⟩) ⟨cB_blind, c_recv hK hP rfl hm_5, cB_pre hK hG hA hS hP _⟩ rfl rfl hl.1 rfl (lv_room (Nat.le_of_ble_eq_true rfl)) dX8_complaintAt_9 ⟨Nat.le_of_ble_eq_true rfl, Nat.le_of_ble_eq_true rfl⟩) (fun r_6 hr_6 => ?_)
    subst hr_6
    refine lv_icmp_lt (tgt := 23) hx hb dX8_complaintAt_12 (by decide)  (fun c_7 => ?_) (fun c_7 => ?_)
    · obtain ⟨j, hj, rfl⟩ := isIx_mk (by omega) c_1 c_7
      refine lv_aload_n hx hb dX8_complaintAt_23 rfl (lv_at hl 0 rfl) ?_
      refine c_get (C := RX8) (T := TX8) (N := 6) hx hb hts hin_X8 hown hK hP hm_2 rfl 3 (by decide) l_23 (fun _ h9 => h9) rfl dX8_complaintAt_24 ?_
      refine lv_iload_n hx hb dX8_complaintAt_27 rfl (lv_at hl 1 rfl) ?_
      obtain ⟨fs_hm_8, hm_8⟩ := hC.obj hk_3 (by decide)
      refine va_csr (W.runV (As := [.int (nI j)]) (rest := []) ⟨hx, hb, hml, hown, hts⟩ ((cl_get l D cI cO cb eA mi st ws hD (F 3 h) (L (F 3 h)) (hC.lst hk_3 (by decide)) j (gt (L (F 3 h)) j) (gt_some (by omega)))) (cwV 1 hts gX8_complaintAt_Jx4a65c_get_915e3 rfl rfl rfl kd_Jx4a65c_get_915e3 ⟨Nat.le_of_ble_eq_true rfl, Nat.le_of_ble_eq_true rfl⟩) ⟨cB_blind, c_recv hK hP rfl hm_8, cB_pre hK hG hA hS hP _⟩ rfl rfl hl.1 rfl (lv_room (Nat.le_of_ble_eq_true rfl)) dX8_complaintAt_28 ⟨Nat.le_of_ble_eq_true rfl, Nat.le_of_ble_eq_true rfl⟩) (fun r_9 hr_9 => ?_)
      subst hr_9
      have hk_10 : kd (gt (L (F 3 h)) j) = 5 := hW.el hk_3 (by omega)
      have hm_11 : (gt (L (F 3 h)) j, .inr (5, [.int (nI (F 0 (gt (L (F 3 h)) j))), .ref (F 1 (gt (L (F 3 h)) j)), .int (nI (F 2 (gt (L (F 3 h)) j))), .int (nI (F 3 (gt (L (F 3 h)) j))), .int (nI (F 4 (gt (L (F 3 h)) j))), .int (nI (F 5 (gt (L (F 3 h)) j)))])) ∈ ws := hC.at hk_10 (by decide) (by decide)
      refine va_castE hx hb hown (hts (.classLink RX8 191 "TenderHall$Complaint") (List.mem_of_getElem? (i := 4) rfl)) (c_recv hK hP (ci := 5) rfl hm_11) dX8_complaintAt_31 ?_
      refine W.widen (k := 1) (n := 6) (by omega) (by omega) ?_
      refine vx_ret ?_
      have hk9 : kIx (nI j) (L (F 3 h)).length = 0 := by exact kIx_yes (by omega) (by assumption)
      exact W.aret hx hb hr (Or.inl ⟨_, rfl⟩) (Or.inr ⟨_, rfl⟩) (fun U9 ht hW9 => ⟨⟨(), (gt (L (F 3 h)) j), rfl, hk9, (show gt (L (F 3 h)) j = ga (L (F 3 h)) (nI j) from by rw [ga_nI (by omega)]), by show va_P D vwCl ws U9.heap; rw [ht]; exact hP⟩, hS.F ht⟩) hS.2.2 dX8_complaintAt_34
    · have hkx : kIx i (L (F 3 h)).length = 1 := by first | exact kIx_no (isIx_lo (by assumption)) | exact kIx_no (isIx_hi (by omega) (by assumption))
      exact vx_throw0 (A := A) (own := RX8) (cls := "java/lang/IndexOutOfBoundsException") (names := ["java/lang/RuntimeException", "java/lang/Exception"]) (ik := 76) (ic := 78) hx hb hst hown (by decide +kernel) (by decide +kernel) (hts (.classLink RX8 76 "java/lang/IndexOutOfBoundsException") (List.mem_of_getElem? (i := 1) rfl)) (hts (.initialized "java/lang/IndexOutOfBoundsException") (List.mem_of_getElem? (i := 2) rfl)) (vx_hat (L := vx_at0 RX8 78 "java/lang/IndexOutOfBoundsException" ["java/lang/RuntimeException", "java/lang/Exception"]) (fun w9 h9 => hts w9 (List.mem_cons_of_mem _ (List.mem_append_right _ h9))) gB1 (gB_of (by decide +kernel) hG.2.2.2.2.2.2.1)) (by decide +kernel) hG.1 hG.2.1 hS (hl.1.trans hml.symm) dX8_complaintAt_15 dX8_complaintAt_18 dX8_complaintAt_19 dX8_complaintAt_22 (fun z9 h9 => (htab z9 h9).elim) (by decide) (Nat.le_of_ble_eq_true rfl) (Nat.le_of_ble_eq_true rfl) (Nat.le_of_ble_eq_true rfl) hlocks (fun t9 _ g2 g3 => ⟨(), trivial, ⟨by rw [hkx]; rfl, by rw [hkx]; decide, (x_keep hS hP g2 g3).1⟩, (x_keep hS hP g2 g3).2⟩) hS.2.2 (Nat.le_of_ble_eq_true rfl) (Nat.le_of_ble_eq_true rfl)
set_option maxHeartbeats 4000000 in
set_option maxRecDepth 100000 in
theorem cx_contractAt (l : Launch) (hst : l.stackTraces = false) (D : va_G) (cI cO cb : ClassId) (eA mi : Nat) (st : Nat → Nat) {A : Nat → Prop} (ws : va_W) (hD : va_D A ws) {own kd : Nat → Nat} {F : Nat → Nat → Nat} {L : Nat → List Nat} (hC : CW cI cO eA st own kd F L ws) (hW : WF kd F L) (hs : sInj st)  (h : Nat) (hk_h : kd h = 9) (i : Int32) : vx_Met l yX8_contractAt wsX8_contractAt ({ frames := 6, cells := 1, slots := 6, locals := 81 }) (va_Pc [.ref h, .int i] (cB D cI cO cb eA mi st A ws)) (va_Qr (fun _ : Unit => kIx i (L (F 4 h)).length = 0) (fun _ q U9 => q = ga (L (F 4 h)) i ∧ va_P D vwCl ws U9.heap) A) (XK D ws A (kIx i (L (F 4 h)).length)) 1 6 A := by
  refine vx_ofW (cc := cX8_contractAt) (maxL := 2) (ret := (some (.object "TenderHall$Contract"))) (by decide) rfl ?_
  intro p e s m args below meth c s₁ B hml htab hv
  obtain ⟨rfl, hP, hK, hG, hA⟩ := hv
  have hx := B.exec
  have hb := B.bytes
  have hr := B.returns
  have hts := atoms_spec (ws := wsX8_contractAt) B.pre
  have hown : s.vm.findClass RX8 = some m.cls := findClass_of_methodNamed B.named
  have hlocks := B.notSynchronized
  have hin_X8 : ∀ w ∈ wsX80, w ∈ wsX8_contractAt := fun w h => List.mem_cons_of_mem _ (List.mem_append_left _ (List.mem_append_left _ (List.mem_append_right _ h)))
  have l_26 := (hts (.fieldLink RX8 26 "TenderHall" "contracts" "Ljava/util/ArrayList;") (List.mem_of_getElem? (i := 3) rfl))
  have hS : va_S A s.heap s.heap [] := va_S.rf
  have hD0 := hD
  have hl := lv_entry ([.ref h, .int i]) (n := 2) (Nat.le_of_ble_eq_true rfl)
  rw [lg_entry_eq]
  generalize (lg_sl ([.ref h, .int i]) ++ List.replicate (2 - (lg_sl ([.ref h, .int i])).length) Slot.unset).toArray = ls at hl ⊢
  have hl : lv_has ls 2 [(0, .ref h), (1, .int i)] := hl
  have hk3 : kd (F 4 h) = 26 := hW.ref hk_h rfl (by decide)
  have hl3 : (L (F 4 h)).length ≤ 60 := hW.len hk3 (by decide)
  refine lv_iload_n hx hb dX8_contractAt_0 rfl (lv_at hl 1 rfl) ?_
  refine lv_if_lt (tgt := 15) hx hb dX8_contractAt_1 (by decide)  (fun c_1 => ?_) (fun c_1 => ?_)
  · have hkx : kIx i (L (F 4 h)).length = 1 := by first | exact kIx_no (isIx_lo (by assumption)) | exact kIx_no (isIx_hi (by omega) (by assumption))
    exact vx_throw0 (A := A) (own := RX8) (cls := "java/lang/IndexOutOfBoundsException") (names := ["java/lang/RuntimeException", "java/lang/Exception"]) (ik := 76) (ic := 78) hx hb hst hown (by decide +kernel) (by decide +kernel) (hts (.classLink RX8 76 "java/lang/IndexOutOfBoundsException") (List.mem_of_getElem? (i := 1) rfl)) (hts (.initialized "java/lang/IndexOutOfBoundsException") (List.mem_of_getElem? (i := 2) rfl)) (vx_hat (L := vx_at0 RX8 78 "java/lang/IndexOutOfBoundsException" ["java/lang/RuntimeException", "java/lang/Exception"]) (fun w9 h9 => hts w9 (List.mem_cons_of_mem _ (List.mem_append_right _ h9))) gB1 (gB_of (by decide +kernel) hG.2.2.2.2.2.2.1)) (by decide +kernel) hG.1 hG.2.1 hS (hl.1.trans hml.symm) dX8_contractAt_15 dX8_contractAt_18 dX8_contractAt_19 dX8_contractAt_22 (fun z9 h9 => (htab z9 h9).elim) (by decide) (Nat.le_of_ble_eq_true rfl) (Nat.le_of_ble_eq_true rfl) (Nat.le_of_ble_eq_true rfl) hlocks (fun t9 _ g2 g3 => ⟨(), trivial, ⟨by rw [hkx]; rfl, by rw [hkx]; decide, (x_keep hS hP g2 g3).1⟩, (x_keep hS hP g2 g3).2⟩) hS.2.2 (Nat.le_of_ble_eq_true rfl) (Nat.le_of_ble_eq_true rfl)
  · refine lv_iload_n hx hb dX8_contractAt_4 rfl (lv_at hl 1 rfl) ?_
    refine lv_aload_n hx hb dX8_contractAt_5 rfl (lv_at hl 0 rfl) ?_
    have hm_2 : (h, .inr (9, [.ref (F 0 h), .ref (F 1 h), .ref (F 2 h), .ref (F 3 h), .ref (F 4 h), .int (nI (F 5 h))])) ∈ ws := hC.at hk_h (by decide) (by decide)
    refine c_get (C := RX8) (T := TX8) (N := 6) hx hb hts hin_X8 hown hK hP hm_2 rfl 4 (by decide) l_26 (fun _ h9 => h9) rfl dX8_contractAt_6 ?_
    have hk_3 : kd (F 4 h) = 26 := hW.ref hk_h rfl (by decide)
    have hl_4 : (L (F 4 h)).length ≤ 60 := hW.len hk_3 (by decide)
    obtain ⟨fs_hm_5, hm_5⟩ := hC.obj hk_3 (by decide)
    refine vp_callSi (W.runV (As := []) (rest := [.int i]) ⟨hx, hb, hml, hown, hts⟩ ((cl_size l D cI cO cb eA mi st ws hD (F 4 h) (L (F 4 h)) (hC.lst hk_3 (by decide)))) (cwV 0 hts gX8_contractAt_Jx4a65c_size_8abf5 rfl rfl rfl kd_Jx4a65c_size_8abf5 ⟨Nat.le_of_ble_eq_true rfl, Nat.le_of_ble_eq_true rfl⟩) ⟨cB_blind, c_recv hK hP rfl hm_5, cB_pre hK hG hA hS hP _⟩ rfl rfl hl.1 rfl (lv_room (Nat.le_of_ble_eq_true rfl)) dX8_contractAt_9 ⟨Nat.le_of_ble_eq_true rfl, Nat.le_of_ble_eq_true rfl⟩) (fun r_6 hr_6 => ?_)
    subst hr_6
    refine lv_icmp_lt (tgt := 23) hx hb dX8_contractAt_12 (by decide)  (fun c_7 => ?_) (fun c_7 => ?_)
    · obtain ⟨j, hj, rfl⟩ := isIx_mk (by omega) c_1 c_7
      refine lv_aload_n hx hb dX8_contractAt_23 rfl (lv_at hl 0 rfl) ?_
      refine c_get (C := RX8) (T := TX8) (N := 6) hx hb hts hin_X8 hown hK hP hm_2 rfl 4 (by decide) l_26 (fun _ h9 => h9) rfl dX8_contractAt_24 ?_
      refine lv_iload_n hx hb dX8_contractAt_27 rfl (lv_at hl 1 rfl) ?_
      obtain ⟨fs_hm_8, hm_8⟩ := hC.obj hk_3 (by decide)
      refine va_csr (W.runV (As := [.int (nI j)]) (rest := []) ⟨hx, hb, hml, hown, hts⟩ ((cl_get l D cI cO cb eA mi st ws hD (F 4 h) (L (F 4 h)) (hC.lst hk_3 (by decide)) j (gt (L (F 4 h)) j) (gt_some (by omega)))) (cwV 1 hts gX8_contractAt_Jx4a65c_get_915e3 rfl rfl rfl kd_Jx4a65c_get_915e3 ⟨Nat.le_of_ble_eq_true rfl, Nat.le_of_ble_eq_true rfl⟩) ⟨cB_blind, c_recv hK hP rfl hm_8, cB_pre hK hG hA hS hP _⟩ rfl rfl hl.1 rfl (lv_room (Nat.le_of_ble_eq_true rfl)) dX8_contractAt_28 ⟨Nat.le_of_ble_eq_true rfl, Nat.le_of_ble_eq_true rfl⟩) (fun r_9 hr_9 => ?_)
      subst hr_9
      have hk_10 : kd (gt (L (F 4 h)) j) = 6 := hW.el hk_3 (by omega)
      have hm_11 : (gt (L (F 4 h)) j, .inr (6, [.ref (F 0 (gt (L (F 4 h)) j)), .int (nI (F 1 (gt (L (F 4 h)) j)))])) ∈ ws := hC.at hk_10 (by decide) (by decide)
      refine va_castE hx hb hown (hts (.classLink RX8 224 "TenderHall$Contract") (List.mem_of_getElem? (i := 4) rfl)) (c_recv hK hP (ci := 6) rfl hm_11) dX8_contractAt_31 ?_
      refine W.widen (k := 1) (n := 6) (by omega) (by omega) ?_
      refine vx_ret ?_
      have hk9 : kIx (nI j) (L (F 4 h)).length = 0 := by exact kIx_yes (by omega) (by assumption)
      exact W.aret hx hb hr (Or.inl ⟨_, rfl⟩) (Or.inr ⟨_, rfl⟩) (fun U9 ht hW9 => ⟨⟨(), (gt (L (F 4 h)) j), rfl, hk9, (show gt (L (F 4 h)) j = ga (L (F 4 h)) (nI j) from by rw [ga_nI (by omega)]), by show va_P D vwCl ws U9.heap; rw [ht]; exact hP⟩, hS.F ht⟩) hS.2.2 dX8_contractAt_34
    · have hkx : kIx i (L (F 4 h)).length = 1 := by first | exact kIx_no (isIx_lo (by assumption)) | exact kIx_no (isIx_hi (by omega) (by assumption))
      exact vx_throw0 (A := A) (own := RX8) (cls := "java/lang/IndexOutOfBoundsException") (names := ["java/lang/RuntimeException", "java/lang/Exception"]) (ik := 76) (ic := 78) hx hb hst hown (by decide +kernel) (by decide +kernel) (hts (.classLink RX8 76 "java/lang/IndexOutOfBoundsException") (List.mem_of_getElem? (i := 1) rfl)) (hts (.initialized "java/lang/IndexOutOfBoundsException") (List.mem_of_getElem? (i := 2) rfl)) (vx_hat (L := vx_at0 RX8 78 "java/lang/IndexOutOfBoundsException" ["java/lang/RuntimeException", "java/lang/Exception"]) (fun w9 h9 => hts w9 (List.mem_cons_of_mem _ (List.mem_append_right _ h9))) gB1 (gB_of (by decide +kernel) hG.2.2.2.2.2.2.1)) (by decide +kernel) hG.1 hG.2.1 hS (hl.1.trans hml.symm) dX8_contractAt_15 dX8_contractAt_18 dX8_contractAt_19 dX8_contractAt_22 (fun z9 h9 => (htab z9 h9).elim) (by decide) (Nat.le_of_ble_eq_true rfl) (Nat.le_of_ble_eq_true rfl) (Nat.le_of_ble_eq_true rfl) hlocks (fun t9 _ g2 g3 => ⟨(), trivial, ⟨by rw [hkx]; rfl, by rw [hkx]; decide, (x_keep hS hP g2 g3).1⟩, (x_keep hS hP g2 g3).2⟩) hS.2.2 (Nat.le_of_ble_eq_true rfl) (Nat.le_of_ble_eq_true rfl)
set_option maxHeartbeats 4000000 in
set_option maxRecDepth 100000 in
theorem cx_tenderAt (l : Launch) (hst : l.stackTraces = false) (D : va_G) (cI cO cb : ClassId) (eA mi : Nat) (st : Nat → Nat) {A : Nat → Prop} (ws : va_W) (hD : va_D A ws) {own kd : Nat → Nat} {F : Nat → Nat → Nat} {L : Nat → List Nat} (hC : CW cI cO eA st own kd F L ws) (hW : WF kd F L) (hs : sInj st)  (h : Nat) (hk_h : kd h = 9) (i : Int32) : vx_Met l yX8_tenderAt wsX8_tenderAt ({ frames := 6, cells := 1, slots := 6, locals := 81 }) (va_Pc [.ref h, .int i] (cB D cI cO cb eA mi st A ws)) (va_Qr (fun _ : Unit => kIx i (L (F 1 h)).length = 0) (fun _ q U9 => q = ga (L (F 1 h)) i ∧ va_P D vwCl ws U9.heap) A) (XK D ws A (kIx i (L (F 1 h)).length)) 1 6 A := by
  refine vx_ofW (cc := cX8_tenderAt) (maxL := 2) (ret := (some (.object "TenderHall$Tender"))) (by decide) rfl ?_
  intro p e s m args below meth c s₁ B hml htab hv
  obtain ⟨rfl, hP, hK, hG, hA⟩ := hv
  have hx := B.exec
  have hb := B.bytes
  have hr := B.returns
  have hts := atoms_spec (ws := wsX8_tenderAt) B.pre
  have hown : s.vm.findClass RX8 = some m.cls := findClass_of_methodNamed B.named
  have hlocks := B.notSynchronized
  have hin_X8 : ∀ w ∈ wsX80, w ∈ wsX8_tenderAt := fun w h => List.mem_cons_of_mem _ (List.mem_append_left _ (List.mem_append_left _ (List.mem_append_right _ h)))
  have l_16 := (hts (.fieldLink RX8 16 "TenderHall" "tenders" "Ljava/util/ArrayList;") (List.mem_of_getElem? (i := 3) rfl))
  have hS : va_S A s.heap s.heap [] := va_S.rf
  have hD0 := hD
  have hl := lv_entry ([.ref h, .int i]) (n := 2) (Nat.le_of_ble_eq_true rfl)
  rw [lg_entry_eq]
  generalize (lg_sl ([.ref h, .int i]) ++ List.replicate (2 - (lg_sl ([.ref h, .int i])).length) Slot.unset).toArray = ls at hl ⊢
  have hl : lv_has ls 2 [(0, .ref h), (1, .int i)] := hl
  have hk3 : kd (F 1 h) = 28 := hW.ref hk_h rfl (by decide)
  have hl3 : (L (F 1 h)).length ≤ 60 := hW.len hk3 (by decide)
  refine lv_iload_n hx hb dX8_tenderAt_0 rfl (lv_at hl 1 rfl) ?_
  refine lv_if_lt (tgt := 15) hx hb dX8_tenderAt_1 (by decide)  (fun c_1 => ?_) (fun c_1 => ?_)
  · have hkx : kIx i (L (F 1 h)).length = 1 := by first | exact kIx_no (isIx_lo (by assumption)) | exact kIx_no (isIx_hi (by omega) (by assumption))
    exact vx_throw0 (A := A) (own := RX8) (cls := "java/lang/IndexOutOfBoundsException") (names := ["java/lang/RuntimeException", "java/lang/Exception"]) (ik := 76) (ic := 78) hx hb hst hown (by decide +kernel) (by decide +kernel) (hts (.classLink RX8 76 "java/lang/IndexOutOfBoundsException") (List.mem_of_getElem? (i := 1) rfl)) (hts (.initialized "java/lang/IndexOutOfBoundsException") (List.mem_of_getElem? (i := 2) rfl)) (vx_hat (L := vx_at0 RX8 78 "java/lang/IndexOutOfBoundsException" ["java/lang/RuntimeException", "java/lang/Exception"]) (fun w9 h9 => hts w9 (List.mem_cons_of_mem _ (List.mem_append_right _ h9))) gB1 (gB_of (by decide +kernel) hG.2.2.2.2.2.2.1)) (by decide +kernel) hG.1 hG.2.1 hS (hl.1.trans hml.symm) dX8_tenderAt_15 dX8_tenderAt_18 dX8_tenderAt_19 dX8_tenderAt_22 (fun z9 h9 => (htab z9 h9).elim) (by decide) (Nat.le_of_ble_eq_true rfl) (Nat.le_of_ble_eq_true rfl) (Nat.le_of_ble_eq_true rfl) hlocks (fun t9 _ g2 g3 => ⟨(), trivial, ⟨by rw [hkx]; rfl, by rw [hkx]; decide, (x_keep hS hP g2 g3).1⟩, (x_keep hS hP g2 g3).2⟩) hS.2.2 (Nat.le_of_ble_eq_true rfl) (Nat.le_of_ble_eq_true rfl)
  · refine lv_iload_n hx hb dX8_tenderAt_4 rfl (lv_at hl 1 rfl) ?_
    refine lv_aload_n hx hb dX8_tenderAt_5 rfl (lv_at hl 0 rfl) ?_
    have hm_2 : (h, .inr (9, [.ref (F 0 h), .ref (F 1 h), .ref (F 2 h), .ref (F 3 h), .ref (F 4 h), .int (nI (F 5 h))])) ∈ ws := hC.at hk_h (by decide) (by decide)
    refine c_get (C := RX8) (T := TX8) (N := 6) hx hb hts hin_X8 hown hK hP hm_2 rfl 1 (by decide) l_16 (fun _ h9 => h9) rfl dX8_tenderAt_6 ?_
    have hk_3 : kd (F 1 h) = 28 := hW.ref hk_h rfl (by decide)
    have hl_4 : (L (F 1 h)).length ≤ 60 := hW.len hk_3 (by decide)
    obtain ⟨fs_hm_5, hm_5⟩ := hC.obj hk_3 (by decide)
    refine vp_callSi (W.runV (As := []) (rest := [.int i]) ⟨hx, hb, hml, hown, hts⟩ ((cl_size l D cI cO cb eA mi st ws hD (F 1 h) (L (F 1 h)) (hC.lst hk_3 (by decide)))) (cwV 0 hts gX8_tenderAt_Jx4a65c_size_8abf5 rfl rfl rfl kd_Jx4a65c_size_8abf5 ⟨Nat.le_of_ble_eq_true rfl, Nat.le_of_ble_eq_true rfl⟩) ⟨cB_blind, c_recv hK hP rfl hm_5, cB_pre hK hG hA hS hP _⟩ rfl rfl hl.1 rfl (lv_room (Nat.le_of_ble_eq_true rfl)) dX8_tenderAt_9 ⟨Nat.le_of_ble_eq_true rfl, Nat.le_of_ble_eq_true rfl⟩) (fun r_6 hr_6 => ?_)
    subst hr_6
    refine lv_icmp_lt (tgt := 23) hx hb dX8_tenderAt_12 (by decide)  (fun c_7 => ?_) (fun c_7 => ?_)
    · obtain ⟨j, hj, rfl⟩ := isIx_mk (by omega) c_1 c_7
      refine lv_aload_n hx hb dX8_tenderAt_23 rfl (lv_at hl 0 rfl) ?_
      refine c_get (C := RX8) (T := TX8) (N := 6) hx hb hts hin_X8 hown hK hP hm_2 rfl 1 (by decide) l_16 (fun _ h9 => h9) rfl dX8_tenderAt_24 ?_
      refine lv_iload_n hx hb dX8_tenderAt_27 rfl (lv_at hl 1 rfl) ?_
      obtain ⟨fs_hm_8, hm_8⟩ := hC.obj hk_3 (by decide)
      refine va_csr (W.runV (As := [.int (nI j)]) (rest := []) ⟨hx, hb, hml, hown, hts⟩ ((cl_get l D cI cO cb eA mi st ws hD (F 1 h) (L (F 1 h)) (hC.lst hk_3 (by decide)) j (gt (L (F 1 h)) j) (gt_some (by omega)))) (cwV 1 hts gX8_tenderAt_Jx4a65c_get_915e3 rfl rfl rfl kd_Jx4a65c_get_915e3 ⟨Nat.le_of_ble_eq_true rfl, Nat.le_of_ble_eq_true rfl⟩) ⟨cB_blind, c_recv hK hP rfl hm_8, cB_pre hK hG hA hS hP _⟩ rfl rfl hl.1 rfl (lv_room (Nat.le_of_ble_eq_true rfl)) dX8_tenderAt_28 ⟨Nat.le_of_ble_eq_true rfl, Nat.le_of_ble_eq_true rfl⟩) (fun r_9 hr_9 => ?_)
      subst hr_9
      have hk_10 : kd (gt (L (F 1 h)) j) = 8 := hW.el hk_3 (by omega)
      have hm_11 : (gt (L (F 1 h)) j, .inr (8, [.int (nI (F 0 (gt (L (F 1 h)) j))), .int (nI (F 1 (gt (L (F 1 h)) j))), .int (nI (F 2 (gt (L (F 1 h)) j))), .int (nI (F 3 (gt (L (F 1 h)) j))), .int (nI (F 4 (gt (L (F 1 h)) j))), .ref (F 5 (gt (L (F 1 h)) j))])) ∈ ws := hC.at hk_10 (by decide) (by decide)
      refine va_castE hx hb hown (hts (.classLink RX8 47 "TenderHall$Tender") (List.mem_of_getElem? (i := 4) rfl)) (c_recv hK hP (ci := 8) rfl hm_11) dX8_tenderAt_31 ?_
      refine W.widen (k := 1) (n := 6) (by omega) (by omega) ?_
      refine vx_ret ?_
      have hk9 : kIx (nI j) (L (F 1 h)).length = 0 := by exact kIx_yes (by omega) (by assumption)
      exact W.aret hx hb hr (Or.inl ⟨_, rfl⟩) (Or.inr ⟨_, rfl⟩) (fun U9 ht hW9 => ⟨⟨(), (gt (L (F 1 h)) j), rfl, hk9, (show gt (L (F 1 h)) j = ga (L (F 1 h)) (nI j) from by rw [ga_nI (by omega)]), by show va_P D vwCl ws U9.heap; rw [ht]; exact hP⟩, hS.F ht⟩) hS.2.2 dX8_tenderAt_34
    · have hkx : kIx i (L (F 1 h)).length = 1 := by first | exact kIx_no (isIx_lo (by assumption)) | exact kIx_no (isIx_hi (by omega) (by assumption))
      exact vx_throw0 (A := A) (own := RX8) (cls := "java/lang/IndexOutOfBoundsException") (names := ["java/lang/RuntimeException", "java/lang/Exception"]) (ik := 76) (ic := 78) hx hb hst hown (by decide +kernel) (by decide +kernel) (hts (.classLink RX8 76 "java/lang/IndexOutOfBoundsException") (List.mem_of_getElem? (i := 1) rfl)) (hts (.initialized "java/lang/IndexOutOfBoundsException") (List.mem_of_getElem? (i := 2) rfl)) (vx_hat (L := vx_at0 RX8 78 "java/lang/IndexOutOfBoundsException" ["java/lang/RuntimeException", "java/lang/Exception"]) (fun w9 h9 => hts w9 (List.mem_cons_of_mem _ (List.mem_append_right _ h9))) gB1 (gB_of (by decide +kernel) hG.2.2.2.2.2.2.1)) (by decide +kernel) hG.1 hG.2.1 hS (hl.1.trans hml.symm) dX8_tenderAt_15 dX8_tenderAt_18 dX8_tenderAt_19 dX8_tenderAt_22 (fun z9 h9 => (htab z9 h9).elim) (by decide) (Nat.le_of_ble_eq_true rfl) (Nat.le_of_ble_eq_true rfl) (Nat.le_of_ble_eq_true rfl) hlocks (fun t9 _ g2 g3 => ⟨(), trivial, ⟨by rw [hkx]; rfl, by rw [hkx]; decide, (x_keep hS hP g2 g3).1⟩, (x_keep hS hP g2 g3).2⟩) hS.2.2 (Nat.le_of_ble_eq_true rfl) (Nat.le_of_ble_eq_true rfl)
