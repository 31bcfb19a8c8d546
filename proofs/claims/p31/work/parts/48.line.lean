/-! the line of an award -/
def sbT (ws : va_W) (b0 r0 : Nat) (cb : ClassId) (T : List Nat) : va_W := (ws ++ [(b0, sbo r0 T.length)]) ++ [(r0, sba cb (putl (fun _ => 0) 0 T))]
theorem sbT_b {ws : va_W} {b0 r0 : Nat} {cb : ClassId} {T : List Nat} : (b0, sbo r0 T.length) ∈ sbT ws b0 r0 cb T := List.mem_append_left _ (List.mem_append_right _ (List.mem_singleton.mpr rfl))
theorem sbT_r {ws : va_W} {b0 r0 : Nat} {cb : ClassId} {T : List Nat} : (r0, sba cb (putl (fun _ => 0) 0 T)) ∈ sbT ws b0 r0 cb T := List.mem_append_right _ (List.mem_singleton.mpr rfl)
theorem wup_no {A : Nat → Prop} {ws ws2 : va_W} {a : Nat} {x y : va_E} (hD : va_D A (ws ++ ws2)) (h : (a, y) ∈ ws2) : wup (ws ++ ws2) a x = ws ++ wup ws2 a x := by
  unfold wup
  rw [List.map_append]
  congr 1
  refine (List.map_congr_left (g := id) (fun q hq => ?_)).trans (List.map_id _)
  refine if_neg (fun e => ?_)
  obtain ⟨i, hi⟩ := List.getElem?_of_mem hq
  obtain ⟨j, hj⟩ := List.getElem?_of_mem h
  have h1 := (List.getElem?_eq_some_iff.mp hi).1
  have := hD.1 i (ws.length + j) q (a, y) (by rw [List.getElem?_append_left h1]; exact hi) (by rw [List.getElem?_append_right (by omega), show ws.length + j - ws.length = j by omega]; exact hj) e
  omega
theorem sbT_eq (ws : va_W) (b0 r0 : Nat) (cb : ClassId) (T : List Nat) : sbT ws b0 r0 cb T = ws ++ [(b0, sbo r0 T.length), (r0, sba cb (putl (fun _ => 0) 0 T))] := by
  unfold sbT
  rw [List.append_assoc]; rfl
theorem sbT_up {A : Nat → Prop} {ws : va_W} {b0 r0 : Nat} {cb : ClassId} {T T2 : List Nat} {n : Nat} {g : Nat → Int32} (hD : va_D A (sbT ws b0 r0 cb T)) (hn : n = T2.length) (hg : g = putl (fun _ => 0) 0 T2) :
    wup (wup (sbT ws b0 r0 cb T) b0 (sbo r0 n)) r0 (sba cb g) = sbT ws b0 r0 cb T2 ∧ wup (wup (sbT ws b0 r0 cb T) r0 (sba cb g)) b0 (sbo r0 n) = sbT ws b0 r0 cb T2 := by
  subst hn
  subst hg
  have hne : b0 ≠ r0 := w_ne hD sbT_b sbT_r (fun q => by cases q)
  rw [sbT_eq] at hD ⊢
  rw [sbT_eq]
  have e1 : ∀ x : va_E, wup (ws ++ [(b0, sbo r0 T.length), (r0, sba cb (putl (fun _ => 0) 0 T))]) b0 x = ws ++ [(b0, x), (r0, sba cb (putl (fun _ => 0) 0 T))] := by
    intro x
    rw [wup_no hD (y := sbo r0 T.length) (by simp)]
    simp [wup, Ne.symm hne]
  have e2 : ∀ x : va_E, wup (ws ++ [(b0, sbo r0 T.length), (r0, sba cb (putl (fun _ => 0) 0 T))]) r0 x = ws ++ [(b0, sbo r0 T.length), (r0, x)] := by
    intro x
    rw [wup_no hD (y := sba cb (putl (fun _ => 0) 0 T)) (by simp)]
    simp [wup, hne]
  have D2 : ∀ x y : va_E, va_D A (ws ++ [(b0, x), (r0, y)]) := fun x y => my_Dc hD (by simp)
  constructor
  · rw [e1, wup_no (D2 _ _) (y := sba cb (putl (fun _ => 0) 0 T)) (by simp)]
    simp [wup, hne]
  · rw [e2, wup_no (D2 _ _) (y := sbo r0 T.length) (by simp)]
    simp [wup, Ne.symm hne]
theorem sbT_put {T xs : List Nat} : putl (putl (fun _ => 0) 0 T) T.length xs = putl (fun _ => (0 : Int32)) 0 (T ++ xs) := by
  rw [putl_app, Nat.zero_add]
theorem va_P.init {D : va_G} {cl : List vw_C} {ws ws2 : va_W} {H : Heap} (h : va_P D cl (ws ++ ws2) H) : va_P D cl ws H := by
  intro k q hk
  exact h k q (by rw [List.getElem?_append_left (List.getElem?_eq_some_iff.mp hk).1]; exact hk)
theorem va_P.sbT {D : va_G} {ws : va_W} {b0 r0 : Nat} {cb : ClassId} {T : List Nat} {H : Heap} (h : va_P D vwCl (sbT ws b0 r0 cb T) H) : va_P D vwCl ws H := va_P.init (va_P.init h)
def kFlag (F : Nat → Nat → Nat) (L : Nat → List Nat) (h w : Nat) : List Nat := if F 4 w = 1 then [86] else if F 5 w = 1 then [83] else if kFin F L h w then [70] else []
def kLine (F : Nat → Nat → Nat) (L : Nat → List Nat) (h w : Nat) : List Nat := [35] ++ dig (F 0 w) ++ [32] ++ [84] ++ dig (F 0 (F 0 (F 1 w))) ++ [76] ++ dig (F 1 (F 1 w)) ++ [32] ++ [66] ++ dig (F 0 (F 2 w)) ++ kFlag F L h w
theorem gt_lt {P : Nat → Prop} {vs : List Nat} (h : ∀ x ∈ vs, P x) {j : Nat} (hj : j < vs.length) : P (gt vs j) := h _ (gt_mem hj)
theorem dig_lt {x : Nat} (h : x < 100) : ∀ y ∈ dig x, y < 128 := by
  intro y hy
  unfold dig at hy
  split at hy
  · rcases List.mem_cons.mp hy with rfl | hy
    · omega
    · rw [List.mem_singleton.mp hy]; omega
  · rw [List.mem_singleton.mp hy]; omega
theorem kFlag_lt (F : Nat → Nat → Nat) (L : Nat → List Nat) (h w : Nat) : ∀ y ∈ kFlag F L h w, y < 128 := by
  intro y hy
  unfold kFlag at hy
  split at hy
  · rw [List.mem_singleton.mp hy]; decide
  · split at hy
    · rw [List.mem_singleton.mp hy]; decide
    · split at hy
      · rw [List.mem_singleton.mp hy]; decide
      · cases hy
theorem kFlag_len (F : Nat → Nat → Nat) (L : Nat → List Nat) (h w : Nat) : (kFlag F L h w).length ≤ 1 := by
  unfold kFlag
  split
  · exact Nat.le_refl _
  · split
    · exact Nat.le_refl _
    · split
      · exact Nat.le_refl _
      · exact Nat.zero_le _
theorem kLine_lt {kd : Nat → Nat} {F : Nat → Nat → Nat} {L : Nat → List Nat} (hW : WF kd F L) {h w : Nat} (hw : kd w = 2) : ∀ y ∈ kLine F L h w, y < 128 := by
  have h1 : F 0 w < 64 := hW.num hw rfl (by decide)
  have hl : kd (F 1 w) = 7 := hW.ref hw rfl (by decide)
  have ht : kd (F 0 (F 1 w)) = 8 := hW.ref hl rfl (by decide)
  have h2 : F 0 (F 0 (F 1 w)) < 6 := hW.num ht rfl (by decide)
  have h3 : F 1 (F 1 w) < 3 := hW.num hl rfl (by decide)
  have hb : kd (F 2 w) = 3 := hW.ref hw rfl (by decide)
  have h4 : F 0 (F 2 w) < 8 := hW.num hb rfl (by decide)
  intro y hy
  unfold kLine at hy
  simp only [List.mem_append, List.mem_singleton] at hy
  rcases hy with (((((((((hy | hy) | hy) | hy) | hy) | hy) | hy) | hy) | hy) | hy) | hy
  · omega
  · exact dig_lt (by omega) y hy
  · omega
  · omega
  · exact dig_lt (by omega) y hy
  · omega
  · exact dig_lt (by omega) y hy
  · omega
  · omega
  · exact dig_lt (by omega) y hy
  · exact kFlag_lt F L h w y hy
theorem kLine_len (F : Nat → Nat → Nat) (L : Nat → List Nat) (h w : Nat) : (kLine F L h w).length ≤ 16 := by
  have d1 := dig_len_le (F 0 w)
  have d2 := dig_len_le (F 0 (F 0 (F 1 w)))
  have d3 := dig_len_le (F 1 (F 1 w))
  have d4 := dig_len_le (F 0 (F 2 w))
  have d5 := kFlag_len F L h w
  unfold kLine
  simp only [List.length_append, List.length_cons, List.length_nil]
  omega
set_option maxHeartbeats 4000000 in
set_option maxRecDepth 100000 in
theorem cv_lineOf (l : Launch) (D : va_G) (cI cO cb : ClassId) (eA mi : Nat) (st : Nat → Nat) (dO dT : Nat) (vF : Value) {A : Nat → Prop} (ws : va_W) (hD : va_D A ws) {own kd : Nat → Nat} {F : Nat → Nat → Nat} {L : Nat → List Nat} (hC : CW cI cO eA st own kd F L ws) (hW : WF kd F L) (hs : sInj st)  (h : Nat) (hk_h : kd h = 9) (w : Nat) (hk_w : kd w = 2) : Met l yX8_lineOf wsX8_lineOf ({ frames := 5, cells := 2, slots := 20, locals := 109 }) (va_Pc [.ref h, .ref w] (cT D cI cO cb eA mi st dO dT vF A ws)) (va_Qr (fun _ : Nat => True) (fun r0 b0 U9 => va_D A (sbT ws b0 r0 cb (kLine F L h w)) ∧ va_P D vwCl (sbT ws b0 r0 cb (kLine F L h w)) U9.heap) A) 2 20 A := by
  refine Met.ofW (cc := cX8_lineOf) (maxL := 3) (ret := (some (.object "java/lang/StringBuilder"))) (by decide) rfl ?_
  intro p e s m args below meth c s₁ B hml hv
  obtain ⟨rfl, hP, hK, hG, hA⟩ := hv
  obtain ⟨hG, hT⟩ := hG
  have hx := B.exec
  have hb := B.bytes
  have hr := B.returns
  have hts := atoms_spec (ws := wsX8_lineOf) B.pre
  have hown : s.vm.findClass RX8 = some m.cls := findClass_of_methodNamed B.named
  have hlocks := B.notSynchronized
  have hin_J4 : ∀ w ∈ wsJ40, w ∈ wsX8_lineOf := fun w h => List.mem_cons_of_mem _ (List.mem_append_left _ (List.mem_append_left _ (List.mem_append_left _ (List.mem_append_left _ (List.mem_append_left _ (List.mem_append_left _ (List.mem_append_left _ (List.mem_append_right _ h))))))))
  have hin_X0 : ∀ w ∈ wsX00, w ∈ wsX8_lineOf := fun w h => List.mem_cons_of_mem _ (List.mem_append_left _ (List.mem_append_left _ (List.mem_append_left _ (List.mem_append_left _ (List.mem_append_left _ (List.mem_append_left _ (List.mem_append_right _ h)))))))
  have hin_X1 : ∀ w ∈ wsX10, w ∈ wsX8_lineOf := fun w h => List.mem_cons_of_mem _ (List.mem_append_left _ (List.mem_append_left _ (List.mem_append_left _ (List.mem_append_right _ h))))
  have hin_X5 : ∀ w ∈ wsX50, w ∈ wsX8_lineOf := fun w h => List.mem_cons_of_mem _ (List.mem_append_left _ (List.mem_append_left _ (List.mem_append_left _ (List.mem_append_left _ (List.mem_append_left _ (List.mem_append_right _ h))))))
  have hin_X7 : ∀ w ∈ wsX70, w ∈ wsX8_lineOf := fun w h => List.mem_cons_of_mem _ (List.mem_append_left _ (List.mem_append_left _ (List.mem_append_left _ (List.mem_append_left _ (List.mem_append_right _ h)))))
  have l_143 := (hts (.fieldLink RX8 143 "TenderHall$Award" "number" "I") (List.mem_of_getElem? (i := 4) rfl))
  have l_251 := (hts (.fieldLink RX8 251 "TenderHall$Award" "lot" "LTenderHall$Lot;") (List.mem_of_getElem? (i := 5) rfl))
  have l_88 := (hts (.fieldLink RX8 88 "TenderHall$Lot" "tender" "LTenderHall$Tender;") (List.mem_of_getElem? (i := 6) rfl))
  have l_301 := (hts (.fieldLink RX8 301 "TenderHall$Tender" "number" "I") (List.mem_of_getElem? (i := 7) rfl))
  have l_302 := (hts (.fieldLink RX8 302 "TenderHall$Lot" "number" "I") (List.mem_of_getElem? (i := 8) rfl))
  have l_152 := (hts (.fieldLink RX8 152 "TenderHall$Award" "bid" "LTenderHall$Bid;") (List.mem_of_getElem? (i := 9) rfl))
  have l_156 := (hts (.fieldLink RX8 156 "TenderHall$Bid" "bidder" "I") (List.mem_of_getElem? (i := 10) rfl))
  have l_159 := (hts (.fieldLink RX8 159 "TenderHall$Award" "voided" "Z") (List.mem_of_getElem? (i := 11) rfl))
  have l_221 := (hts (.fieldLink RX8 221 "TenderHall$Award" "signed" "Z") (List.mem_of_getElem? (i := 12) rfl))
  have hS : va_S A s.heap s.heap [] := va_S.rf
  have hD0 := hD
  have hl := lv_entry ([.ref h, .ref w]) (n := 3) (Nat.le_of_ble_eq_true rfl)
  rw [lg_entry_eq]
  generalize (lg_sl ([.ref h, .ref w]) ++ List.replicate (3 - (lg_sl ([.ref h, .ref w])).length) Slot.unset).toArray = ls at hl ⊢
  have hl : lv_has ls 3 [(0, .ref h), (1, .ref w)] := hl
  have h1 : F 0 w < 64 := hW.num hk_w rfl (by decide)
  have hl9 : kd (F 1 w) = 7 := hW.ref hk_w rfl (by decide)
  have ht9 : kd (F 0 (F 1 w)) = 8 := hW.ref hl9 rfl (by decide)
  have h2 : F 0 (F 0 (F 1 w)) < 6 := hW.num ht9 rfl (by decide)
  have h3 : F 1 (F 1 w) < 3 := hW.num hl9 rfl (by decide)
  have hb9 : kd (F 2 w) = 3 := hW.ref hk_w rfl (by decide)
  have h4 : F 0 (F 2 w) < 8 := hW.num hb9 rfl (by decide)
  have d1 := dig_len_le (F 0 w)
  have d2 := dig_len_le (F 0 (F 0 (F 1 w)))
  have d3 := dig_len_le (F 1 (F 1 w))
  have d4 := dig_len_le (F 0 (F 2 w))
  have hC0 := hC
  refine va_new (ci := 0) (fs := [.null, .int (nI 0), .int (nI 0), .int (nI 0)]) hx hb hts hin_J4 tyJ4 tyJ4_ok hown (hts (.classLink RX8 176 RJ4) (List.mem_of_getElem? (i := 1) rfl)) (hts (.instantiable RJ4 4) (List.mem_of_getElem? (i := 2) rfl)) (hts (.initialized RJ4) (List.mem_of_getElem? (i := 3) rfl)) hK hP hD hS hA rfl (fun j9 h9 => by rcases j9 with _ | _ | _ | _ | j9 <;> first | rfl | omega) (Nat.le_of_ble_eq_true rfl) (Nat.le_of_ble_eq_true rfl) dX8_lineOf_0 (fun b0 H hP hD hS => ?_)
  have hDq := hD
  refine lv_dup hx hb dX8_lineOf_3 rfl ?_
  refine va_callv (va_runI (As := []) (rest := [.ref b0]) ⟨hx, hb, hml, hown, hts⟩ (cs_init l D cI cO cb eA mi st dO dT vF (ws ++ [(b0, .inr (0, [.null, .int (nI 0), .int (nI 0), .int (nI 0)]))]) hD b0 (List.mem_append_right _ (List.mem_singleton.mpr rfl))) (cwI 0 hts ggX8_lineOf_J4_init_da8c8 rfl rfl rfl (hts (.initialized RJ4) (List.mem_of_getElem? (i := 3) rfl)) (hts (.methodLink RX8 293 yJ4_init_da8c8) (List.mem_of_getElem? (i := 13) rfl)) (hts (.instanceMethod yJ4_init_da8c8) (List.mem_of_getElem? (i := 14) rfl)) rfl kd_J4_init_da8c8 ⟨Nat.le_of_ble_eq_true rfl, Nat.le_of_ble_eq_true rfl⟩) ⟨cT_blind, cT_pre hK hG hT hA hS hP _⟩ rfl rfl hl.1 rfl (lv_room (Nat.le_of_ble_eq_true rfl)) dX8_lineOf_4 ⟨Nat.le_of_ble_eq_true rfl, Nat.le_of_ble_eq_true rfl⟩) hS (fun _ _ h => h) (fun _ h => h) (fun r0 U8 H1 locs1 ht hvm hu hB9 hz1 hk1 hS1 => ?_)
  obtain ⟨hD1, hB9⟩ := hB9
  rw [ht] at hB9
  clear hS
  have hS := hS1
  replace hP := hB9
  replace hD := hD1
  generalize H1 = H at hP hS ⊢
  rw [wup_app2 hDq] at hP hD
  replace hP : va_P D vwCl (sbT ws b0 r0 cb []) H := hP
  replace hD : va_D A (sbT ws b0 r0 cb []) := hD
  refine lv_astore_n (lv' := [(2, .ref b0), (0, .ref h), (1, .ref w)]) hx hb dX8_lineOf_7 rfl hl (by decide) rfl (fun ls hl => ?_)
  refine lv_aload_n hx hb dX8_lineOf_8 rfl (lv_at hl 0 rfl) ?_
  refine lv_bipush (v := nI 35) hx hb dX8_lineOf_9 (by decide) ?_
  refine va_callr (va_runV (As := [.int (nI 35)]) (rest := []) ⟨hx, hb, hml, hown, hts⟩ (cs_appendC l D cI cO cb eA mi st dO dT vF (sbT ws b0 r0 cb ([] : List Nat)) hD b0 r0 (([] : List Nat)).length (putl (fun _ => 0) 0 (([] : List Nat))) sbT_b sbT_r 35 (by omega) (by simp only [List.length_append, List.length_cons, List.length_nil]; omega)) (cwV 1 hts gX8_lineOf_J4_append_cf468 rfl rfl rfl kd_J4_append_cf468 ⟨Nat.le_of_ble_eq_true rfl, Nat.le_of_ble_eq_true rfl⟩) ⟨cT_blind, c_recv hK hP rfl sbT_b, cT_pre hK hG hT hA hS hP _⟩ rfl rfl hl.1 rfl (lv_room (Nat.le_of_ble_eq_true rfl)) dX8_lineOf_11 ⟨Nat.le_of_ble_eq_true rfl, Nat.le_of_ble_eq_true rfl⟩) hS (fun _ _ h => h) (fun _ h => h) (fun u ra U8 H1 locs1 ht hvm hu hB9 hz1 hk1 hS1 => ?_)
  obtain ⟨hra, hD1, hB9⟩ := hB9
  rw [hra]
  have eT9 := (sbT_up hD (T2 := [35]) (n := (([] : List Nat)).length + 1) (g := putl (putl (fun _ => 0) 0 (([] : List Nat))) (([] : List Nat)).length [35]) (by simp only [List.length_append, List.length_cons, List.length_nil]; try omega) (rfl)).1
  rw [eT9] at hD1 hB9
  rw [ht] at hB9
  clear hS
  have hS := hS1
  replace hP := hB9
  replace hD := hD1
  generalize H1 = H at hP hS ⊢
  refine lv_aload_n hx hb dX8_lineOf_14 rfl (lv_at hl 2 rfl) ?_
  have hC : CW cI cO eA st own kd F L (sbT ws b0 r0 cb ([35])) := (hC0.app).app
  have hm_1 : (w, .inr (2, [.int (nI (F 0 w)), .ref (F 1 w), .ref (F 2 w), .int (nI (F 3 w)), .int (nI (F 4 w)), .int (nI (F 5 w)), .int (nI (F 6 w))])) ∈ sbT ws b0 r0 cb ([35]) := hC.at hk_w (by decide) (by decide)
  refine c_get (C := RX0) (T := TX0) (N := 7) hx hb hts hin_X0 hown hK hP hm_1 rfl 0 (by decide) l_143 (fun _ h9 => h9) rfl dX8_lineOf_15 ?_
  have hn_2 : F 0 w < 64 := hW.num (f := 0) hk_w rfl (by decide)
  refine va_callr (va_runV (As := [.int (nI (F 0 w))]) (rest := []) ⟨hx, hb, hml, hown, hts⟩ (cs_appendI l D cI cO cb eA mi st dO dT vF (sbT ws b0 r0 cb ([35])) hD b0 r0 ([35]).length (putl (fun _ => 0) 0 ([35])) sbT_b sbT_r (F 0 w) (by omega) (by simp only [List.length_append, List.length_cons, List.length_nil]; omega)) (cwV 1 hts gX8_lineOf_J4_append_bf812 rfl rfl rfl kd_J4_append_bf812 ⟨Nat.le_of_ble_eq_true rfl, Nat.le_of_ble_eq_true rfl⟩) ⟨cT_blind, c_recv hK hP rfl sbT_b, cT_pre hK hG hT hA hS hP _⟩ rfl rfl hl.1 rfl (lv_room (Nat.le_of_ble_eq_true rfl)) dX8_lineOf_18 ⟨Nat.le_of_ble_eq_true rfl, Nat.le_of_ble_eq_true rfl⟩) hS (fun _ _ h => h) (fun _ h => h) (fun u ra U8 H1 locs1 ht hvm hu hB9 hz1 hk1 hS1 => ?_)
  obtain ⟨hra, hD1, hB9⟩ := hB9
  rw [hra]
  have eT9 := (sbT_up hD (T2 := [35] ++ dig (F 0 w)) (n := ([35]).length + (dig (F 0 w)).length) (g := putl (putl (fun _ => 0) 0 ([35])) ([35]).length (dig (F 0 w))) (by simp only [List.length_append, List.length_cons, List.length_nil]; try omega) (sbT_put)).2
  rw [eT9] at hD1 hB9
  rw [ht] at hB9
  clear hS
  have hS := hS1
  replace hP := hB9
  replace hD := hD1
  generalize H1 = H at hP hS ⊢
  refine lv_pop hx hb dX8_lineOf_21 rfl ?_
  refine lv_aload_n hx hb dX8_lineOf_22 rfl (lv_at hl 0 rfl) ?_
  refine lv_bipush (v := nI 32) hx hb dX8_lineOf_23 (by decide) ?_
  refine va_callr (va_runV (As := [.int (nI 32)]) (rest := []) ⟨hx, hb, hml, hown, hts⟩ (cs_appendC l D cI cO cb eA mi st dO dT vF (sbT ws b0 r0 cb ([35] ++ dig (F 0 w))) hD b0 r0 ([35] ++ dig (F 0 w)).length (putl (fun _ => 0) 0 ([35] ++ dig (F 0 w))) sbT_b sbT_r 32 (by omega) (by simp only [List.length_append, List.length_cons, List.length_nil]; omega)) (cwV 1 hts gX8_lineOf_J4_append_cf468 rfl rfl rfl kd_J4_append_cf468 ⟨Nat.le_of_ble_eq_true rfl, Nat.le_of_ble_eq_true rfl⟩) ⟨cT_blind, c_recv hK hP rfl sbT_b, cT_pre hK hG hT hA hS hP _⟩ rfl rfl hl.1 rfl (lv_room (Nat.le_of_ble_eq_true rfl)) dX8_lineOf_25 ⟨Nat.le_of_ble_eq_true rfl, Nat.le_of_ble_eq_true rfl⟩) hS (fun _ _ h => h) (fun _ h => h) (fun u ra U8 H1 locs1 ht hvm hu hB9 hz1 hk1 hS1 => ?_)
  obtain ⟨hra, hD1, hB9⟩ := hB9
  rw [hra]
  have eT9 := (sbT_up hD (T2 := [35] ++ dig (F 0 w) ++ [32]) (n := ([35] ++ dig (F 0 w)).length + 1) (g := putl (putl (fun _ => 0) 0 ([35] ++ dig (F 0 w))) ([35] ++ dig (F 0 w)).length [32]) (by simp only [List.length_append, List.length_cons, List.length_nil]; try omega) (sbT_put)).1
  rw [eT9] at hD1 hB9
  rw [ht] at hB9
  clear hS
  have hS := hS1
  replace hP := hB9
  replace hD := hD1
  generalize H1 = H at hP hS ⊢
  refine lv_bipush (v := nI 84) hx hb dX8_lineOf_28 (by decide) ?_
  refine va_callr (va_runV (As := [.int (nI 84)]) (rest := []) ⟨hx, hb, hml, hown, hts⟩ (cs_appendC l D cI cO cb eA mi st dO dT vF (sbT ws b0 r0 cb ([35] ++ dig (F 0 w) ++ [32])) hD b0 r0 ([35] ++ dig (F 0 w) ++ [32]).length (putl (fun _ => 0) 0 ([35] ++ dig (F 0 w) ++ [32])) sbT_b sbT_r 84 (by omega) (by simp only [List.length_append, List.length_cons, List.length_nil]; omega)) (cwV 1 hts gX8_lineOf_J4_append_cf468 rfl rfl rfl kd_J4_append_cf468 ⟨Nat.le_of_ble_eq_true rfl, Nat.le_of_ble_eq_true rfl⟩) ⟨cT_blind, c_recv hK hP rfl sbT_b, cT_pre hK hG hT hA hS hP _⟩ rfl rfl hl.1 rfl (lv_room (Nat.le_of_ble_eq_true rfl)) dX8_lineOf_30 ⟨Nat.le_of_ble_eq_true rfl, Nat.le_of_ble_eq_true rfl⟩) hS (fun _ _ h => h) (fun _ h => h) (fun u ra U8 H1 locs1 ht hvm hu hB9 hz1 hk1 hS1 => ?_)
  obtain ⟨hra, hD1, hB9⟩ := hB9
  rw [hra]
  have eT9 := (sbT_up hD (T2 := [35] ++ dig (F 0 w) ++ [32] ++ [84]) (n := ([35] ++ dig (F 0 w) ++ [32]).length + 1) (g := putl (putl (fun _ => 0) 0 ([35] ++ dig (F 0 w) ++ [32])) ([35] ++ dig (F 0 w) ++ [32]).length [84]) (by simp only [List.length_append, List.length_cons, List.length_nil]; try omega) (sbT_put)).1
  rw [eT9] at hD1 hB9
  rw [ht] at hB9
  clear hS
  have hS := hS1
  replace hP := hB9
  replace hD := hD1
  generalize H1 = H at hP hS ⊢
  refine lv_aload_n hx hb dX8_lineOf_33 rfl (lv_at hl 2 rfl) ?_
  have hC : CW cI cO eA st own kd F L (sbT ws b0 r0 cb ([35] ++ dig (F 0 w) ++ [32] ++ [84])) := (hC0.app).app
  have hm_3 : (w, .inr (2, [.int (nI (F 0 w)), .ref (F 1 w), .ref (F 2 w), .int (nI (F 3 w)), .int (nI (F 4 w)), .int (nI (F 5 w)), .int (nI (F 6 w))])) ∈ sbT ws b0 r0 cb ([35] ++ dig (F 0 w) ++ [32] ++ [84]) := hC.at hk_w (by decide) (by decide)
  refine c_get (C := RX0) (T := TX0) (N := 7) hx hb hts hin_X0 hown hK hP hm_3 rfl 1 (by decide) l_251 (fun _ h9 => h9) rfl dX8_lineOf_34 ?_
  have hk_4 : kd (F 1 w) = 7 := hW.ref (f := 1) hk_w rfl (by decide)
  have hm_5 : (F 1 w, .inr (7, [.ref (F 0 (F 1 w)), .int (nI (F 1 (F 1 w))), .int (nI (F 2 (F 1 w))), .ref (F 3 (F 1 w)), .ref (F 4 (F 1 w))])) ∈ sbT ws b0 r0 cb ([35] ++ dig (F 0 w) ++ [32] ++ [84]) := hC.at hk_4 (by decide) (by decide)
  refine c_get (C := RX5) (T := TX5) (N := 5) hx hb hts hin_X5 hown hK hP hm_5 rfl 0 (by decide) l_88 (fun _ h9 => h9) rfl dX8_lineOf_37 ?_
  have hk_6 : kd (F 0 (F 1 w)) = 8 := hW.ref (f := 0) hk_4 rfl (by decide)
  have hm_7 : (F 0 (F 1 w), .inr (8, [.int (nI (F 0 (F 0 (F 1 w)))), .int (nI (F 1 (F 0 (F 1 w)))), .int (nI (F 2 (F 0 (F 1 w)))), .int (nI (F 3 (F 0 (F 1 w)))), .int (nI (F 4 (F 0 (F 1 w)))), .ref (F 5 (F 0 (F 1 w)))])) ∈ sbT ws b0 r0 cb ([35] ++ dig (F 0 w) ++ [32] ++ [84]) := hC.at hk_6 (by decide) (by decide)
  refine c_get (C := RX7) (T := TX7) (N := 6) hx hb hts hin_X7 hown hK hP hm_7 rfl 0 (by decide) l_301 (fun _ h9 => h9) rfl dX8_lineOf_40 ?_
  have hn_8 : F 0 (F 0 (F 1 w)) < 6 := hW.num (f := 0) hk_6 rfl (by decide)
  refine va_callr (va_runV (As := [.int (nI (F 0 (F 0 (F 1 w))))]) (rest := []) ⟨hx, hb, hml, hown, hts⟩ (cs_appendI l D cI cO cb eA mi st dO dT vF (sbT ws b0 r0 cb ([35] ++ dig (F 0 w) ++ [32] ++ [84])) hD b0 r0 ([35] ++ dig (F 0 w) ++ [32] ++ [84]).length (putl (fun _ => 0) 0 ([35] ++ dig (F 0 w) ++ [32] ++ [84])) sbT_b sbT_r (F 0 (F 0 (F 1 w))) (by omega) (by simp only [List.length_append, List.length_cons, List.length_nil]; omega)) (cwV 1 hts gX8_lineOf_J4_append_bf812 rfl rfl rfl kd_J4_append_bf812 ⟨Nat.le_of_ble_eq_true rfl, Nat.le_of_ble_eq_true rfl⟩) ⟨cT_blind, c_recv hK hP rfl sbT_b, cT_pre hK hG hT hA hS hP _⟩ rfl rfl hl.1 rfl (lv_room (Nat.le_of_ble_eq_true rfl)) dX8_lineOf_43 ⟨Nat.le_of_ble_eq_true rfl, Nat.le_of_ble_eq_true rfl⟩) hS (fun _ _ h => h) (fun _ h => h) (fun u ra U8 H1 locs1 ht hvm hu hB9 hz1 hk1 hS1 => ?_)
  obtain ⟨hra, hD1, hB9⟩ := hB9
  rw [hra]
  have eT9 := (sbT_up hD (T2 := [35] ++ dig (F 0 w) ++ [32] ++ [84] ++ dig (F 0 (F 0 (F 1 w)))) (n := ([35] ++ dig (F 0 w) ++ [32] ++ [84]).length + (dig (F 0 (F 0 (F 1 w)))).length) (g := putl (putl (fun _ => 0) 0 ([35] ++ dig (F 0 w) ++ [32] ++ [84])) ([35] ++ dig (F 0 w) ++ [32] ++ [84]).length (dig (F 0 (F 0 (F 1 w))))) (by simp only [List.length_append, List.length_cons, List.length_nil]; try omega) (sbT_put)).2
  rw [eT9] at hD1 hB9
  rw [ht] at hB9
  clear hS
  have hS := hS1
  replace hP := hB9
  replace hD := hD1
  generalize H1 = H at hP hS ⊢
  refine lv_pop hx hb dX8_lineOf_46 rfl ?_
  refine lv_aload_n hx hb dX8_lineOf_47 rfl (lv_at hl 0 rfl) ?_
  refine lv_bipush (v := nI 76) hx hb dX8_lineOf_48 (by decide) ?_
  refine va_callr (va_runV (As := [.int (nI 76)]) (rest := []) ⟨hx, hb, hml, hown, hts⟩ (cs_appendC l D cI cO cb eA mi st dO dT vF (sbT ws b0 r0 cb ([35] ++ dig (F 0 w) ++ [32] ++ [84] ++ dig (F 0 (F 0 (F 1 w))))) hD b0 r0 ([35] ++ dig (F 0 w) ++ [32] ++ [84] ++ dig (F 0 (F 0 (F 1 w)))).length (putl (fun _ => 0) 0 ([35] ++ dig (F 0 w) ++ [32] ++ [84] ++ dig (F 0 (F 0 (F 1 w))))) sbT_b sbT_r 76 (by omega) (by simp only [List.length_append, List.length_cons, List.length_nil]; omega)) (cwV 1 hts gX8_lineOf_J4_append_cf468 rfl rfl rfl kd_J4_append_cf468 ⟨Nat.le_of_ble_eq_true rfl, Nat.le_of_ble_eq_true rfl⟩) ⟨cT_blind, c_recv hK hP rfl sbT_b, cT_pre hK hG hT hA hS hP _⟩ rfl rfl hl.1 rfl (lv_room (Nat.le_of_ble_eq_true rfl)) dX8_lineOf_50 ⟨Nat.le_of_ble_eq_true rfl, Nat.le_of_ble_eq_true rfl⟩) hS (fun _ _ h => h) (fun _ h => h) (fun u ra U8 H1 locs1 ht hvm hu hB9 hz1 hk1 hS1 => ?_)
  obtain ⟨hra, hD1, hB9⟩ := hB9
  rw [hra]
  have eT9 := (sbT_up hD (T2 := [35] ++ dig (F 0 w) ++ [32] ++ [84] ++ dig (F 0 (F 0 (F 1 w))) ++ [76]) (n := ([35] ++ dig (F 0 w) ++ [32] ++ [84] ++ dig (F 0 (F 0 (F 1 w)))).length + 1) (g := putl (putl (fun _ => 0) 0 ([35] ++ dig (F 0 w) ++ [32] ++ [84] ++ dig (F 0 (F 0 (F 1 w))))) ([35] ++ dig (F 0 w) ++ [32] ++ [84] ++ dig (F 0 (F 0 (F 1 w)))).length [76]) (by simp only [List.length_append, List.length_cons, List.length_nil]; try omega) (sbT_put)).1
  rw [eT9] at hD1 hB9
  rw [ht] at hB9
  clear hS
  have hS := hS1
  replace hP := hB9
  replace hD := hD1
  generalize H1 = H at hP hS ⊢
  refine lv_aload_n hx hb dX8_lineOf_53 rfl (lv_at hl 2 rfl) ?_
  have hC : CW cI cO eA st own kd F L (sbT ws b0 r0 cb ([35] ++ dig (F 0 w) ++ [32] ++ [84] ++ dig (F 0 (F 0 (F 1 w))) ++ [76])) := (hC0.app).app
  have hm_9 : (w, .inr (2, [.int (nI (F 0 w)), .ref (F 1 w), .ref (F 2 w), .int (nI (F 3 w)), .int (nI (F 4 w)), .int (nI (F 5 w)), .int (nI (F 6 w))])) ∈ sbT ws b0 r0 cb ([35] ++ dig (F 0 w) ++ [32] ++ [84] ++ dig (F 0 (F 0 (F 1 w))) ++ [76]) := hC.at hk_w (by decide) (by decide)
  refine c_get (C := RX0) (T := TX0) (N := 7) hx hb hts hin_X0 hown hK hP hm_9 rfl 1 (by decide) l_251 (fun _ h9 => h9) rfl dX8_lineOf_54 ?_
  have hm_10 : (F 1 w, .inr (7, [.ref (F 0 (F 1 w)), .int (nI (F 1 (F 1 w))), .int (nI (F 2 (F 1 w))), .ref (F 3 (F 1 w)), .ref (F 4 (F 1 w))])) ∈ sbT ws b0 r0 cb ([35] ++ dig (F 0 w) ++ [32] ++ [84] ++ dig (F 0 (F 0 (F 1 w))) ++ [76]) := hC.at hk_4 (by decide) (by decide)
  refine c_get (C := RX5) (T := TX5) (N := 5) hx hb hts hin_X5 hown hK hP hm_10 rfl 1 (by decide) l_302 (fun _ h9 => h9) rfl dX8_lineOf_57 ?_
  have hn_11 : F 1 (F 1 w) < 3 := hW.num (f := 1) hk_4 rfl (by decide)
  refine va_callr (va_runV (As := [.int (nI (F 1 (F 1 w)))]) (rest := []) ⟨hx, hb, hml, hown, hts⟩ (cs_appendI l D cI cO cb eA mi st dO dT vF (sbT ws b0 r0 cb ([35] ++ dig (F 0 w) ++ [32] ++ [84] ++ dig (F 0 (F 0 (F 1 w))) ++ [76])) hD b0 r0 ([35] ++ dig (F 0 w) ++ [32] ++ [84] ++ dig (F 0 (F 0 (F 1 w))) ++ [76]).length (putl (fun _ => 0) 0 ([35] ++ dig (F 0 w) ++ [32] ++ [84] ++ dig (F 0 (F 0 (F 1 w))) ++ [76])) sbT_b sbT_r (F 1 (F 1 w)) (by omega) (by simp only [List.length_append, List.length_cons, List.length_nil]; omega)) (cwV 1 hts gX8_lineOf_J4_append_bf812 rfl rfl rfl kd_J4_append_bf812 ⟨Nat.le_of_ble_eq_true rfl, Nat.le_of_ble_eq_true rfl⟩) ⟨cT_blind, c_recv hK hP rfl sbT_b, cT_pre hK hG hT hA hS hP _⟩ rfl rfl hl.1 rfl (lv_room (Nat.le_of_ble_eq_true rfl)) dX8_lineOf_60 ⟨Nat.le_of_ble_eq_true rfl, Nat.le_of_ble_eq_true rfl⟩) hS (fun _ _ h => h) (fun _ h => h) (fun u ra U8 H1 locs1 ht hvm hu hB9 hz1 hk1 hS1 => ?_)
  obtain ⟨hra, hD1, hB9⟩ := hB9
  rw [hra]
  have eT9 := (sbT_up hD (T2 := [35] ++ dig (F 0 w) ++ [32] ++ [84] ++ dig (F 0 (F 0 (F 1 w))) ++ [76] ++ dig (F 1 (F 1 w))) (n := ([35] ++ dig (F 0 w) ++ [32] ++ [84] ++ dig (F 0 (F 0 (F 1 w))) ++ [76]).length + (dig (F 1 (F 1 w))).length) (g := putl (putl (fun _ => 0) 0 ([35] ++ dig (F 0 w) ++ [32] ++ [84] ++ dig (F 0 (F 0 (F 1 w))) ++ [76])) ([35] ++ dig (F 0 w) ++ [32] ++ [84] ++ dig (F 0 (F 0 (F 1 w))) ++ [76]).length (dig (F 1 (F 1 w)))) (by simp only [List.length_append, List.length_cons, List.length_nil]; try omega) (sbT_put)).2
  rw [eT9] at hD1 hB9
  rw [ht] at hB9
  clear hS
  have hS := hS1
  replace hP := hB9
  replace hD := hD1
  generalize H1 = H at hP hS ⊢
  refine lv_pop hx hb dX8_lineOf_63 rfl ?_
  refine lv_aload_n hx hb dX8_lineOf_64 rfl (lv_at hl 0 rfl) ?_
  refine lv_bipush (v := nI 32) hx hb dX8_lineOf_65 (by decide) ?_
  refine va_callr (va_runV (As := [.int (nI 32)]) (rest := []) ⟨hx, hb, hml, hown, hts⟩ (cs_appendC l D cI cO cb eA mi st dO dT vF (sbT ws b0 r0 cb ([35] ++ dig (F 0 w) ++ [32] ++ [84] ++ dig (F 0 (F 0 (F 1 w))) ++ [76] ++ dig (F 1 (F 1 w)))) hD b0 r0 ([35] ++ dig (F 0 w) ++ [32] ++ [84] ++ dig (F 0 (F 0 (F 1 w))) ++ [76] ++ dig (F 1 (F 1 w))).length (putl (fun _ => 0) 0 ([35] ++ dig (F 0 w) ++ [32] ++ [84] ++ dig (F 0 (F 0 (F 1 w))) ++ [76] ++ dig (F 1 (F 1 w)))) sbT_b sbT_r 32 (by omega) (by simp only [List.length_append, List.length_cons, List.length_nil]; omega)) (cwV 1 hts gX8_lineOf_J4_append_cf468 rfl rfl rfl kd_J4_append_cf468 ⟨Nat.le_of_ble_eq_true rfl, Nat.le_of_ble_eq_true rfl⟩) ⟨cT_blind, c_recv hK hP rfl sbT_b, cT_pre hK hG hT hA hS hP _⟩ rfl rfl hl.1 rfl (lv_room (Nat.le_of_ble_eq_true rfl)) dX8_lineOf_67 ⟨Nat.le_of_ble_eq_true rfl, Nat.le_of_ble_eq_true rfl⟩) hS (fun _ _ h => h) (fun _ h => h) (fun u ra U8 H1 locs1 ht hvm hu hB9 hz1 hk1 hS1 => ?_)
  obtain ⟨hra, hD1, hB9⟩ := hB9
  rw [hra]
  have eT9 := (sbT_up hD (T2 := [35] ++ dig (F 0 w) ++ [32] ++ [84] ++ dig (F 0 (F 0 (F 1 w))) ++ [76] ++ dig (F 1 (F 1 w)) ++ [32]) (n := ([35] ++ dig (F 0 w) ++ [32] ++ [84] ++ dig (F 0 (F 0 (F 1 w))) ++ [76] ++ dig (F 1 (F 1 w))).length + 1) (g := putl (putl (fun _ => 0) 0 ([35] ++ dig (F 0 w) ++ [32] ++ [84] ++ dig (F 0 (F 0 (F 1 w))) ++ [76] ++ dig (F 1 (F 1 w)))) ([35] ++ dig (F 0 w) ++ [32] ++ [84] ++ dig (F 0 (F 0 (F 1 w))) ++ [76] ++ dig (F 1 (F 1 w))).length [32]) (by simp only [List.length_append, List.length_cons, List.length_nil]; try omega) (sbT_put)).1
  rw [eT9] at hD1 hB9
  rw [ht] at hB9
  clear hS
  have hS := hS1
  replace hP := hB9
  replace hD := hD1
  generalize H1 = H at hP hS ⊢
  refine lv_bipush (v := nI 66) hx hb dX8_lineOf_70 (by decide) ?_
  refine va_callr (va_runV (As := [.int (nI 66)]) (rest := []) ⟨hx, hb, hml, hown, hts⟩ (cs_appendC l D cI cO cb eA mi st dO dT vF (sbT ws b0 r0 cb ([35] ++ dig (F 0 w) ++ [32] ++ [84] ++ dig (F 0 (F 0 (F 1 w))) ++ [76] ++ dig (F 1 (F 1 w)) ++ [32])) hD b0 r0 ([35] ++ dig (F 0 w) ++ [32] ++ [84] ++ dig (F 0 (F 0 (F 1 w))) ++ [76] ++ dig (F 1 (F 1 w)) ++ [32]).length (putl (fun _ => 0) 0 ([35] ++ dig (F 0 w) ++ [32] ++ [84] ++ dig (F 0 (F 0 (F 1 w))) ++ [76] ++ dig (F 1 (F 1 w)) ++ [32])) sbT_b sbT_r 66 (by omega) (by simp only [List.length_append, List.length_cons, List.length_nil]; omega)) (cwV 1 hts gX8_lineOf_J4_append_cf468 rfl rfl rfl kd_J4_append_cf468 ⟨Nat.le_of_ble_eq_true rfl, Nat.le_of_ble_eq_true rfl⟩) ⟨cT_blind, c_recv hK hP rfl sbT_b, cT_pre hK hG hT hA hS hP _⟩ rfl rfl hl.1 rfl (lv_room (Nat.le_of_ble_eq_true rfl)) dX8_lineOf_72 ⟨Nat.le_of_ble_eq_true rfl, Nat.le_of_ble_eq_true rfl⟩) hS (fun _ _ h => h) (fun _ h => h) (fun u ra U8 H1 locs1 ht hvm hu hB9 hz1 hk1 hS1 => ?_)
  obtain ⟨hra, hD1, hB9⟩ := hB9
  rw [hra]
  have eT9 := (sbT_up hD (T2 := [35] ++ dig (F 0 w) ++ [32] ++ [84] ++ dig (F 0 (F 0 (F 1 w))) ++ [76] ++ dig (F 1 (F 1 w)) ++ [32] ++ [66]) (n := ([35] ++ dig (F 0 w) ++ [32] ++ [84] ++ dig (F 0 (F 0 (F 1 w))) ++ [76] ++ dig (F 1 (F 1 w)) ++ [32]).length + 1) (g := putl (putl (fun _ => 0) 0 ([35] ++ dig (F 0 w) ++ [32] ++ [84] ++ dig (F 0 (F 0 (F 1 w))) ++ [76] ++ dig (F 1 (F 1 w)) ++ [32])) ([35] ++ dig (F 0 w) ++ [32] ++ [84] ++ dig (F 0 (F 0 (F 1 w))) ++ [76] ++ dig (F 1 (F 1 w)) ++ [32]).length [66]) (by simp only [List.length_append, List.length_cons, List.length_nil]; try omega) (sbT_put)).1
  rw [eT9] at hD1 hB9
  rw [ht] at hB9
  clear hS
  have hS := hS1
  replace hP := hB9
  replace hD := hD1
  generalize H1 = H at hP hS ⊢
  refine lv_aload_n hx hb dX8_lineOf_75 rfl (lv_at hl 2 rfl) ?_
  have hC : CW cI cO eA st own kd F L (sbT ws b0 r0 cb ([35] ++ dig (F 0 w) ++ [32] ++ [84] ++ dig (F 0 (F 0 (F 1 w))) ++ [76] ++ dig (F 1 (F 1 w)) ++ [32] ++ [66])) := (hC0.app).app
  have hm_12 : (w, .inr (2, [.int (nI (F 0 w)), .ref (F 1 w), .ref (F 2 w), .int (nI (F 3 w)), .int (nI (F 4 w)), .int (nI (F 5 w)), .int (nI (F 6 w))])) ∈ sbT ws b0 r0 cb ([35] ++ dig (F 0 w) ++ [32] ++ [84] ++ dig (F 0 (F 0 (F 1 w))) ++ [76] ++ dig (F 1 (F 1 w)) ++ [32] ++ [66]) := hC.at hk_w (by decide) (by decide)
  refine c_get (C := RX0) (T := TX0) (N := 7) hx hb hts hin_X0 hown hK hP hm_12 rfl 2 (by decide) l_152 (fun _ h9 => h9) rfl dX8_lineOf_76 ?_
  have hk_13 : kd (F 2 w) = 3 := hW.ref (f := 2) hk_w rfl (by decide)
  have hm_14 : (F 2 w, .inr (3, [.int (nI (F 0 (F 2 w))), .int (nI (F 1 (F 2 w))), .int (nI (F 2 (F 2 w))), .int (nI (F 3 (F 2 w))), .ref (st (F 4 (F 2 w))), .ref (st (F 5 (F 2 w)))])) ∈ sbT ws b0 r0 cb ([35] ++ dig (F 0 w) ++ [32] ++ [84] ++ dig (F 0 (F 0 (F 1 w))) ++ [76] ++ dig (F 1 (F 1 w)) ++ [32] ++ [66]) := hC.at hk_13 (by decide) (by decide)
  refine c_get (C := RX1) (T := TX1) (N := 6) hx hb hts hin_X1 hown hK hP hm_14 rfl 0 (by decide) l_156 (fun _ h9 => h9) rfl dX8_lineOf_79 ?_
  have hn_15 : F 0 (F 2 w) < 8 := hW.num (f := 0) hk_13 rfl (by decide)
  refine va_callr (va_runV (As := [.int (nI (F 0 (F 2 w)))]) (rest := []) ⟨hx, hb, hml, hown, hts⟩ (cs_appendI l D cI cO cb eA mi st dO dT vF (sbT ws b0 r0 cb ([35] ++ dig (F 0 w) ++ [32] ++ [84] ++ dig (F 0 (F 0 (F 1 w))) ++ [76] ++ dig (F 1 (F 1 w)) ++ [32] ++ [66])) hD b0 r0 ([35] ++ dig (F 0 w) ++ [32] ++ [84] ++ dig (F 0 (F 0 (F 1 w))) ++ [76] ++ dig (F 1 (F 1 w)) ++ [32] ++ [66]).length (putl (fun _ => 0) 0 ([35] ++ dig (F 0 w) ++ [32] ++ [84] ++ dig (F 0 (F 0 (F 1 w))) ++ [76] ++ dig (F 1 (F 1 w)) ++ [32] ++ [66])) sbT_b sbT_r (F 0 (F 2 w)) (by omega) (by simp only [List.length_append, List.length_cons, List.length_nil]; omega)) (cwV 1 hts gX8_lineOf_J4_append_bf812 rfl rfl rfl kd_J4_append_bf812 ⟨Nat.le_of_ble_eq_true rfl, Nat.le_of_ble_eq_true rfl⟩) ⟨cT_blind, c_recv hK hP rfl sbT_b, cT_pre hK hG hT hA hS hP _⟩ rfl rfl hl.1 rfl (lv_room (Nat.le_of_ble_eq_true rfl)) dX8_lineOf_82 ⟨Nat.le_of_ble_eq_true rfl, Nat.le_of_ble_eq_true rfl⟩) hS (fun _ _ h => h) (fun _ h => h) (fun u ra U8 H1 locs1 ht hvm hu hB9 hz1 hk1 hS1 => ?_)
  obtain ⟨hra, hD1, hB9⟩ := hB9
  rw [hra]
  have eT9 := (sbT_up hD (T2 := [35] ++ dig (F 0 w) ++ [32] ++ [84] ++ dig (F 0 (F 0 (F 1 w))) ++ [76] ++ dig (F 1 (F 1 w)) ++ [32] ++ [66] ++ dig (F 0 (F 2 w))) (n := ([35] ++ dig (F 0 w) ++ [32] ++ [84] ++ dig (F 0 (F 0 (F 1 w))) ++ [76] ++ dig (F 1 (F 1 w)) ++ [32] ++ [66]).length + (dig (F 0 (F 2 w))).length) (g := putl (putl (fun _ => 0) 0 ([35] ++ dig (F 0 w) ++ [32] ++ [84] ++ dig (F 0 (F 0 (F 1 w))) ++ [76] ++ dig (F 1 (F 1 w)) ++ [32] ++ [66])) ([35] ++ dig (F 0 w) ++ [32] ++ [84] ++ dig (F 0 (F 0 (F 1 w))) ++ [76] ++ dig (F 1 (F 1 w)) ++ [32] ++ [66]).length (dig (F 0 (F 2 w)))) (by simp only [List.length_append, List.length_cons, List.length_nil]; try omega) (sbT_put)).2
  rw [eT9] at hD1 hB9
  rw [ht] at hB9
  clear hS
  have hS := hS1
  replace hP := hB9
  replace hD := hD1
  generalize H1 = H at hP hS ⊢
  refine lv_pop hx hb dX8_lineOf_85 rfl ?_
  refine lv_aload_n hx hb dX8_lineOf_86 rfl (lv_at hl 2 rfl) ?_
  have hC : CW cI cO eA st own kd F L (sbT ws b0 r0 cb ([35] ++ dig (F 0 w) ++ [32] ++ [84] ++ dig (F 0 (F 0 (F 1 w))) ++ [76] ++ dig (F 1 (F 1 w)) ++ [32] ++ [66] ++ dig (F 0 (F 2 w)))) := (hC0.app).app
  have hm_16 : (w, .inr (2, [.int (nI (F 0 w)), .ref (F 1 w), .ref (F 2 w), .int (nI (F 3 w)), .int (nI (F 4 w)), .int (nI (F 5 w)), .int (nI (F 6 w))])) ∈ sbT ws b0 r0 cb ([35] ++ dig (F 0 w) ++ [32] ++ [84] ++ dig (F 0 (F 0 (F 1 w))) ++ [76] ++ dig (F 1 (F 1 w)) ++ [32] ++ [66] ++ dig (F 0 (F 2 w))) := hC.at hk_w (by decide) (by decide)
  refine c_get (C := RX0) (T := TX0) (N := 7) hx hb hts hin_X0 hown hK hP hm_16 rfl 4 (by decide) l_159 (fun _ h9 => h9) rfl dX8_lineOf_87 ?_
  have hn_17 : F 4 w < 2 := hW.num (f := 4) hk_w rfl (by decide)
  refine n_if_eq (tgt := 103) hx hb dX8_lineOf_90 (by decide) (by omega) (fun c_18 => ?_) (fun c_18 => ?_)
  · refine lv_aload_n hx hb dX8_lineOf_103 rfl (lv_at hl 2 rfl) ?_
    refine c_get (C := RX0) (T := TX0) (N := 7) hx hb hts hin_X0 hown hK hP hm_16 rfl 5 (by decide) l_221 (fun _ h9 => h9) rfl dX8_lineOf_104 ?_
    have hn_19 : F 5 w < 2 := hW.num (f := 5) hk_w rfl (by decide)
    refine n_if_eq (tgt := 120) hx hb dX8_lineOf_107 (by decide) (by omega) (fun c_20 => ?_) (fun c_20 => ?_)
    · refine lv_aload_n hx hb dX8_lineOf_120 rfl (lv_at hl 1 rfl) ?_
      refine lv_aload_n hx hb dX8_lineOf_121 rfl (lv_at hl 2 rfl) ?_
      have hm_21 : (h, .inr (9, [.ref (F 0 h), .ref (F 1 h), .ref (F 2 h), .ref (F 3 h), .ref (F 4 h), .int (nI (F 5 h))])) ∈ sbT ws b0 r0 cb ([35] ++ dig (F 0 w) ++ [32] ++ [84] ++ dig (F 0 (F 0 (F 1 w))) ++ [76] ++ dig (F 1 (F 1 w)) ++ [32] ++ [66] ++ dig (F 0 (F 2 w))) := hC.at hk_h (by decide) (by decide)
      refine vp_callSi (W.runV (As := [.ref w]) (rest := []) ⟨hx, hb, hml, hown, hts⟩ (ck_hasBecomeFinal l D cI cO cb eA mi st (sbT ws b0 r0 cb ([35] ++ dig (F 0 w) ++ [32] ++ [84] ++ dig (F 0 (F 0 (F 1 w))) ++ [76] ++ dig (F 1 (F 1 w)) ++ [32] ++ [66] ++ dig (F 0 (F 2 w)))) hD hC hW hs h hk_h w hk_w) (cwV 1 hts gX8_lineOf_X8_hasBecomeFinal rfl rfl rfl kd_X8_hasBecomeFinal ⟨Nat.le_of_ble_eq_true rfl, Nat.le_of_ble_eq_true rfl⟩) ⟨cB_blind, c_recv hK hP rfl hm_21, cB_pre hK hG hA hS hP _⟩ rfl rfl hl.1 rfl (lv_room (Nat.le_of_ble_eq_true rfl)) dX8_lineOf_122 ⟨Nat.le_of_ble_eq_true rfl, Nat.le_of_ble_eq_true rfl⟩) (fun r_22 hr_22 => ?_)
      subst hr_22
      refine b_if_eq (tgt := 135) hx hb dX8_lineOf_125 (by decide)  (fun c_23 => ?_) (fun c_23 => ?_)
      · have dd_c_23 := of_decide_eq_false c_23
        refine lv_aload_n hx hb dX8_lineOf_135 rfl (lv_at hl 0 rfl) ?_
        have eL9 : [35] ++ dig (F 0 w) ++ [32] ++ [84] ++ dig (F 0 (F 0 (F 1 w))) ++ [76] ++ dig (F 1 (F 1 w)) ++ [32] ++ [66] ++ dig (F 0 (F 2 w)) = kLine F L h w := by unfold kLine kFlag; first | rfl | (rw [if_pos (by omega)]) | (rw [if_neg (by omega), if_pos (by omega)]) | (rw [if_neg (by omega), if_neg (by omega), if_pos (by assumption)]) | (rw [if_neg (by omega), if_neg (by omega), if_neg (by assumption), List.append_nil])
        rw [eL9] at hP hD
        exact W.aret hx hb hr (Or.inl ⟨_, rfl⟩) (Or.inr ⟨_, rfl⟩) (fun U9 ht hW9 => ⟨⟨r0, b0, rfl, trivial, hD, by show va_P D vwCl _ U9.heap; rw [ht]; exact hP⟩, hS.F ht⟩) hS.2.2 dX8_lineOf_136
      · have dd_c_23 := of_decide_eq_true c_23
        refine lv_aload_n hx hb dX8_lineOf_128 rfl (lv_at hl 0 rfl) ?_
        refine lv_bipush (v := nI 70) hx hb dX8_lineOf_129 (by decide) ?_
        refine va_callr (va_runV (As := [.int (nI 70)]) (rest := []) ⟨hx, hb, hml, hown, hts⟩ (cs_appendC l D cI cO cb eA mi st dO dT vF (sbT ws b0 r0 cb ([35] ++ dig (F 0 w) ++ [32] ++ [84] ++ dig (F 0 (F 0 (F 1 w))) ++ [76] ++ dig (F 1 (F 1 w)) ++ [32] ++ [66] ++ dig (F 0 (F 2 w)))) hD b0 r0 ([35] ++ dig (F 0 w) ++ [32] ++ [84] ++ dig (F 0 (F 0 (F 1 w))) ++ [76] ++ dig (F 1 (F 1 w)) ++ [32] ++ [66] ++ dig (F 0 (F 2 w))).length (putl (fun _ => 0) 0 ([35] ++ dig (F 0 w) ++ [32] ++ [84] ++ dig (F 0 (F 0 (F 1 w))) ++ [76] ++ dig (F 1 (F 1 w)) ++ [32] ++ [66] ++ dig (F 0 (F 2 w)))) sbT_b sbT_r 70 (by omega) (by simp only [List.length_append, List.length_cons, List.length_nil]; omega)) (cwV 1 hts gX8_lineOf_J4_append_cf468 rfl rfl rfl kd_J4_append_cf468 ⟨Nat.le_of_ble_eq_true rfl, Nat.le_of_ble_eq_true rfl⟩) ⟨cT_blind, c_recv hK hP rfl sbT_b, cT_pre hK hG hT hA hS hP _⟩ rfl rfl hl.1 rfl (lv_room (Nat.le_of_ble_eq_true rfl)) dX8_lineOf_131 ⟨Nat.le_of_ble_eq_true rfl, Nat.le_of_ble_eq_true rfl⟩) hS (fun _ _ h => h) (fun _ h => h) (fun u ra U8 H1 locs1 ht hvm hu hB9 hz1 hk1 hS1 => ?_)
        obtain ⟨hra, hD1, hB9⟩ := hB9
        rw [hra]
        have eT9 := (sbT_up hD (T2 := [35] ++ dig (F 0 w) ++ [32] ++ [84] ++ dig (F 0 (F 0 (F 1 w))) ++ [76] ++ dig (F 1 (F 1 w)) ++ [32] ++ [66] ++ dig (F 0 (F 2 w)) ++ [70]) (n := ([35] ++ dig (F 0 w) ++ [32] ++ [84] ++ dig (F 0 (F 0 (F 1 w))) ++ [76] ++ dig (F 1 (F 1 w)) ++ [32] ++ [66] ++ dig (F 0 (F 2 w))).length + 1) (g := putl (putl (fun _ => 0) 0 ([35] ++ dig (F 0 w) ++ [32] ++ [84] ++ dig (F 0 (F 0 (F 1 w))) ++ [76] ++ dig (F 1 (F 1 w)) ++ [32] ++ [66] ++ dig (F 0 (F 2 w)))) ([35] ++ dig (F 0 w) ++ [32] ++ [84] ++ dig (F 0 (F 0 (F 1 w))) ++ [76] ++ dig (F 1 (F 1 w)) ++ [32] ++ [66] ++ dig (F 0 (F 2 w))).length [70]) (by simp only [List.length_append, List.length_cons, List.length_nil]; try omega) (sbT_put)).1
        rw [eT9] at hD1 hB9
        rw [ht] at hB9
        clear hS
        have hS := hS1
        replace hP := hB9
        replace hD := hD1
        generalize H1 = H at hP hS ⊢
        refine lv_pop hx hb dX8_lineOf_134 rfl ?_
        refine lv_aload_n hx hb dX8_lineOf_135 rfl (lv_at hl 0 rfl) ?_
        have eL9 : [35] ++ dig (F 0 w) ++ [32] ++ [84] ++ dig (F 0 (F 0 (F 1 w))) ++ [76] ++ dig (F 1 (F 1 w)) ++ [32] ++ [66] ++ dig (F 0 (F 2 w)) ++ [70] = kLine F L h w := by unfold kLine kFlag; first | rfl | (rw [if_pos (by omega)]) | (rw [if_neg (by omega), if_pos (by omega)]) | (rw [if_neg (by omega), if_neg (by omega), if_pos (by assumption)]) | (rw [if_neg (by omega), if_neg (by omega), if_neg (by assumption), List.append_nil])
        rw [eL9] at hP hD
        exact W.aret hx hb hr (Or.inl ⟨_, rfl⟩) (Or.inr ⟨_, rfl⟩) (fun U9 ht hW9 => ⟨⟨r0, b0, rfl, trivial, hD, by show va_P D vwCl _ U9.heap; rw [ht]; exact hP⟩, hS.F ht⟩) hS.2.2 dX8_lineOf_136
    · refine lv_aload_n hx hb dX8_lineOf_110 rfl (lv_at hl 0 rfl) ?_
      refine lv_bipush (v := nI 83) hx hb dX8_lineOf_111 (by decide) ?_
      refine va_callr (va_runV (As := [.int (nI 83)]) (rest := []) ⟨hx, hb, hml, hown, hts⟩ (cs_appendC l D cI cO cb eA mi st dO dT vF (sbT ws b0 r0 cb ([35] ++ dig (F 0 w) ++ [32] ++ [84] ++ dig (F 0 (F 0 (F 1 w))) ++ [76] ++ dig (F 1 (F 1 w)) ++ [32] ++ [66] ++ dig (F 0 (F 2 w)))) hD b0 r0 ([35] ++ dig (F 0 w) ++ [32] ++ [84] ++ dig (F 0 (F 0 (F 1 w))) ++ [76] ++ dig (F 1 (F 1 w)) ++ [32] ++ [66] ++ dig (F 0 (F 2 w))).length (putl (fun _ => 0) 0 ([35] ++ dig (F 0 w) ++ [32] ++ [84] ++ dig (F 0 (F 0 (F 1 w))) ++ [76] ++ dig (F 1 (F 1 w)) ++ [32] ++ [66] ++ dig (F 0 (F 2 w)))) sbT_b sbT_r 83 (by omega) (by simp only [List.length_append, List.length_cons, List.length_nil]; omega)) (cwV 1 hts gX8_lineOf_J4_append_cf468 rfl rfl rfl kd_J4_append_cf468 ⟨Nat.le_of_ble_eq_true rfl, Nat.le_of_ble_eq_true rfl⟩) ⟨cT_blind, c_recv hK hP rfl sbT_b, cT_pre hK hG hT hA hS hP _⟩ rfl rfl hl.1 rfl (lv_room (Nat.le_of_ble_eq_true rfl)) dX8_lineOf_113 ⟨Nat.le_of_ble_eq_true rfl, Nat.le_of_ble_eq_true rfl⟩) hS (fun _ _ h => h) (fun _ h => h) (fun u ra U8 H1 locs1 ht hvm hu hB9 hz1 hk1 hS1 => ?_)
      obtain ⟨hra, hD1, hB9⟩ := hB9
      rw [hra]
      have eT9 := (sbT_up hD (T2 := [35] ++ dig (F 0 w) ++ [32] ++ [84] ++ dig (F 0 (F 0 (F 1 w))) ++ [76] ++ dig (F 1 (F 1 w)) ++ [32] ++ [66] ++ dig (F 0 (F 2 w)) ++ [83]) (n := ([35] ++ dig (F 0 w) ++ [32] ++ [84] ++ dig (F 0 (F 0 (F 1 w))) ++ [76] ++ dig (F 1 (F 1 w)) ++ [32] ++ [66] ++ dig (F 0 (F 2 w))).length + 1) (g := putl (putl (fun _ => 0) 0 ([35] ++ dig (F 0 w) ++ [32] ++ [84] ++ dig (F 0 (F 0 (F 1 w))) ++ [76] ++ dig (F 1 (F 1 w)) ++ [32] ++ [66] ++ dig (F 0 (F 2 w)))) ([35] ++ dig (F 0 w) ++ [32] ++ [84] ++ dig (F 0 (F 0 (F 1 w))) ++ [76] ++ dig (F 1 (F 1 w)) ++ [32] ++ [66] ++ dig (F 0 (F 2 w))).length [83]) (by simp only [List.length_append, List.length_cons, List.length_nil]; try omega) (sbT_put)).1
      rw [eT9] at hD1 hB9
      rw [ht] at hB9
      clear hS
      have hS := hS1
      replace hP := hB9
      replace hD := hD1
      generalize H1 = H at hP hS ⊢
      refine lv_pop hx hb dX8_lineOf_116 rfl ?_
      refine lv_goto (tgt := 135) hx hb dX8_lineOf_117 (by decide) ?_
      refine lv_aload_n hx hb dX8_lineOf_135 rfl (lv_at hl 0 rfl) ?_
      have eL9 : [35] ++ dig (F 0 w) ++ [32] ++ [84] ++ dig (F 0 (F 0 (F 1 w))) ++ [76] ++ dig (F 1 (F 1 w)) ++ [32] ++ [66] ++ dig (F 0 (F 2 w)) ++ [83] = kLine F L h w := by unfold kLine kFlag; first | rfl | (rw [if_pos (by omega)]) | (rw [if_neg (by omega), if_pos (by omega)]) | (rw [if_neg (by omega), if_neg (by omega), if_pos (by assumption)]) | (rw [if_neg (by omega), if_neg (by omega), if_neg (by assumption), List.append_nil])
      rw [eL9] at hP hD
      exact W.aret hx hb hr (Or.inl ⟨_, rfl⟩) (Or.inr ⟨_, rfl⟩) (fun U9 ht hW9 => ⟨⟨r0, b0, rfl, trivial, hD, by show va_P D vwCl _ U9.heap; rw [ht]; exact hP⟩, hS.F ht⟩) hS.2.2 dX8_lineOf_136
  · refine lv_aload_n hx hb dX8_lineOf_93 rfl (lv_at hl 0 rfl) ?_
    refine lv_bipush (v := nI 86) hx hb dX8_lineOf_94 (by decide) ?_
    refine va_callr (va_runV (As := [.int (nI 86)]) (rest := []) ⟨hx, hb, hml, hown, hts⟩ (cs_appendC l D cI cO cb eA mi st dO dT vF (sbT ws b0 r0 cb ([35] ++ dig (F 0 w) ++ [32] ++ [84] ++ dig (F 0 (F 0 (F 1 w))) ++ [76] ++ dig (F 1 (F 1 w)) ++ [32] ++ [66] ++ dig (F 0 (F 2 w)))) hD b0 r0 ([35] ++ dig (F 0 w) ++ [32] ++ [84] ++ dig (F 0 (F 0 (F 1 w))) ++ [76] ++ dig (F 1 (F 1 w)) ++ [32] ++ [66] ++ dig (F 0 (F 2 w))).length (putl (fun _ => 0) 0 ([35] ++ dig (F 0 w) ++ [32] ++ [84] ++ dig (F 0 (F 0 (F 1 w))) ++ [76] ++ dig (F 1 (F 1 w)) ++ [32] ++ [66] ++ dig (F 0 (F 2 w)))) sbT_b sbT_r 86 (by omega) (by simp only [List.length_append, List.length_cons, List.length_nil]; omega)) (cwV 1 hts gX8_lineOf_J4_append_cf468 rfl rfl rfl kd_J4_append_cf468 ⟨Nat.le_of_ble_eq_true rfl, Nat.le_of_ble_eq_true rfl⟩) ⟨cT_blind, c_recv hK hP rfl sbT_b, cT_pre hK hG hT hA hS hP _⟩ rfl rfl hl.1 rfl (lv_room (Nat.le_of_ble_eq_true rfl)) dX8_lineOf_96 ⟨Nat.le_of_ble_eq_true rfl, Nat.le_of_ble_eq_true rfl⟩) hS (fun _ _ h => h) (fun _ h => h) (fun u ra U8 H1 locs1 ht hvm hu hB9 hz1 hk1 hS1 => ?_)
    obtain ⟨hra, hD1, hB9⟩ := hB9
    rw [hra]
    have eT9 := (sbT_up hD (T2 := [35] ++ dig (F 0 w) ++ [32] ++ [84] ++ dig (F 0 (F 0 (F 1 w))) ++ [76] ++ dig (F 1 (F 1 w)) ++ [32] ++ [66] ++ dig (F 0 (F 2 w)) ++ [86]) (n := ([35] ++ dig (F 0 w) ++ [32] ++ [84] ++ dig (F 0 (F 0 (F 1 w))) ++ [76] ++ dig (F 1 (F 1 w)) ++ [32] ++ [66] ++ dig (F 0 (F 2 w))).length + 1) (g := putl (putl (fun _ => 0) 0 ([35] ++ dig (F 0 w) ++ [32] ++ [84] ++ dig (F 0 (F 0 (F 1 w))) ++ [76] ++ dig (F 1 (F 1 w)) ++ [32] ++ [66] ++ dig (F 0 (F 2 w)))) ([35] ++ dig (F 0 w) ++ [32] ++ [84] ++ dig (F 0 (F 0 (F 1 w))) ++ [76] ++ dig (F 1 (F 1 w)) ++ [32] ++ [66] ++ dig (F 0 (F 2 w))).length [86]) (by simp only [List.length_append, List.length_cons, List.length_nil]; try omega) (sbT_put)).1
    rw [eT9] at hD1 hB9
    rw [ht] at hB9
    clear hS
    have hS := hS1
    replace hP := hB9
    replace hD := hD1
    generalize H1 = H at hP hS ⊢
    refine lv_pop hx hb dX8_lineOf_99 rfl ?_
    refine lv_goto (tgt := 135) hx hb dX8_lineOf_100 (by decide) ?_
    refine lv_aload_n hx hb dX8_lineOf_135 rfl (lv_at hl 0 rfl) ?_
    have eL9 : [35] ++ dig (F 0 w) ++ [32] ++ [84] ++ dig (F 0 (F 0 (F 1 w))) ++ [76] ++ dig (F 1 (F 1 w)) ++ [32] ++ [66] ++ dig (F 0 (F 2 w)) ++ [86] = kLine F L h w := by unfold kLine kFlag; first | rfl | (rw [if_pos (by omega)]) | (rw [if_neg (by omega), if_pos (by omega)]) | (rw [if_neg (by omega), if_neg (by omega), if_pos (by assumption)]) | (rw [if_neg (by omega), if_neg (by omega), if_neg (by assumption), List.append_nil])
    rw [eL9] at hP hD
    exact W.aret hx hb hr (Or.inl ⟨_, rfl⟩) (Or.inr ⟨_, rfl⟩) (fun U9 ht hW9 => ⟨⟨r0, b0, rfl, trivial, hD, by show va_P D vwCl _ U9.heap; rw [ht]; exact hP⟩, hS.F ht⟩) hS.2.2 dX8_lineOf_136
set_option maxHeartbeats 4000000 in
set_option maxRecDepth 100000 in
theorem cx_line (l : Launch) (hst : l.stackTraces = false) (D : va_G) (cI cO cb : ClassId) (eA mi : Nat) (st : Nat → Nat) (dO dT : Nat) (vF : Value) {A : Nat → Prop} (ws : va_W) (hD : va_D A ws) {own kd : Nat → Nat} {F : Nat → Nat → Nat} {L : Nat → List Nat} (hC : CW cI cO eA st own kd F L ws) (hW : WF kd F L) (hs : sInj st)  (h : Nat) (hk_h : kd h = 9) (i : Int32) : vx_Met l yX8_line wsX8_line ({ frames := 7, cells := 3, slots := 26, locals := 131 }) (va_Pc [.ref h, .int i] (cT D cI cO cb eA mi st dO dT vF A ws)) (va_Qi (fun (ri : Int32) (_ : Unit) => kIx i (L (F 2 h)).length = 0 ∧ ri = nI ((kLine F L h (ga (L (F 2 h)) i)).length)) (fun _ U9 => va_P D vwCl ws U9.heap) A) (XK D ws A (kIx i (L (F 2 h)).length)) 3 26 A := by
  refine vx_ofW (cc := cX8_line) (maxL := 2) (ret := (some .int)) (by decide) rfl ?_
  intro p e s m args below meth c s₁ B hml htab hv
  obtain ⟨rfl, hP, hK, hG, hA⟩ := hv
  obtain ⟨hG, hT⟩ := hG
  have hx := B.exec
  have hb := B.bytes
  have hr := B.returns
  have hts := atoms_spec (ws := wsX8_line) B.pre
  have hown : s.vm.findClass RX8 = some m.cls := findClass_of_methodNamed B.named
  have hlocks := B.notSynchronized
  have hS : va_S A s.heap s.heap [] := va_S.rf
  have hD0 := hD
  have hl := lv_entry ([.ref h, .int i]) (n := 2) (Nat.le_of_ble_eq_true rfl)
  rw [lg_entry_eq]
  generalize (lg_sl ([.ref h, .int i]) ++ List.replicate (2 - (lg_sl ([.ref h, .int i])).length) Slot.unset).toArray = ls at hl ⊢
  have hl : lv_has ls 2 [(0, .ref h), (1, .int i)] := hl
  refine lv_aload_n hx hb dX8_line_0 rfl (lv_at hl 0 rfl) ?_
  refine lv_aload_n hx hb dX8_line_1 rfl (lv_at hl 0 rfl) ?_
  refine lv_iload_n hx hb dX8_line_2 rfl (lv_at hl 1 rfl) ?_
  have hm_1 : (h, .inr (9, [.ref (F 0 h), .ref (F 1 h), .ref (F 2 h), .ref (F 3 h), .ref (F 4 h), .int (nI (F 5 h))])) ∈ ws := hC.at hk_h (by decide) (by decide)
  refine vx_callr (vx_runV (As := [.int i]) (rest := [.ref h]) ⟨hx, hb, hml, hown, hts⟩ (cx_awardAt l hst D cI cO cb eA mi st ws hD hC hW hs h hk_h i) (cwV 1 hts gX8_line_X8_awardAt rfl rfl rfl kd_X8_awardAt ⟨Nat.le_of_ble_eq_true rfl, Nat.le_of_ble_eq_true rfl⟩) ⟨cB_blind, c_recv hK hP rfl hm_1, cB_pre hK hG hA hS hP _⟩ rfl rfl hl.1 rfl (lv_room (Nat.le_of_ble_eq_true rfl)) dX8_line_3 ⟨Nat.le_of_ble_eq_true rfl, Nat.le_of_ble_eq_true rfl⟩) hS (fun _ _ h => h) (fun _ h => h) (fun _ _ h => h) (fun E9 ce9 q9 u U8 H1 locs1 ht hvm hu hB hz1 hk1 hS1 hc1 hc2 hc3 => ?_) (fun u ra U8 H1 locs1 ht hvm hu hB hz1 hk1 hS1 => ?_)
  · obtain ⟨hB1, hB2, hB3⟩ := hB
    rw [ht] at hB3
    have hkx : kIx i (L (F 2 h)).length = (kIx i (L (F 2 h)).length) := by rfl
    exact vx_out (fun z9 h9 => (htab z9 h9).elim) hlocks hc1 hc2 hc3 (fun t9 g1 g2 => ⟨(), trivial, ⟨by rw [hkx]; exact hB1, by rw [hkx]; exact hB2, by rw [g1]; exact hB3⟩, hS1.F g1⟩) hS1.2.2 (Nat.le_of_ble_eq_true rfl) (Nat.le_of_ble_eq_true rfl)
  · have hk0_2 : (kIx i (L (F 2 h)).length) = 0 := hu
    obtain ⟨hra, hB2⟩ := hB
    subst hra
    replace hB2 : va_P D vwCl ws U8.heap := hB2
    rw [ht] at hB2
    clear hS
    have hS := hS1
    replace hP := hB2
    generalize H1 = H at hP hS ⊢
    have hk_3 : kd (ga (L (F 2 h)) i) = 2 := hW.ela (hW.ref hk_h rfl (by decide)) hk0_2
    refine va_callr (va_runV (As := [.ref (ga (L (F 2 h)) i)]) (rest := []) ⟨hx, hb, hml, hown, hts⟩ (cv_lineOf l D cI cO cb eA mi st dO dT vF ws hD hC hW hs h hk_h (ga (L (F 2 h)) i) hk_3) (cwV 1 hts gX8_line_X8_lineOf rfl rfl rfl kd_X8_lineOf ⟨Nat.le_of_ble_eq_true rfl, Nat.le_of_ble_eq_true rfl⟩) ⟨cT_blind, c_recv hK hP rfl hm_1, cT_pre hK hG hT hA hS hP _⟩ rfl rfl hl.1 rfl (lv_room (Nat.le_of_ble_eq_true rfl)) dX8_line_6 ⟨Nat.le_of_ble_eq_true rfl, Nat.le_of_ble_eq_true rfl⟩) hS (fun _ _ h => h) (fun _ h => h) (fun r0 b0 U8 H1 locs1 ht hvm hu hB9 hz1 hk1 hS1 => ?_)
    obtain ⟨hD1, hB9⟩ := hB9
    rw [ht] at hB9
    clear hS
    have hS := hS1
    replace hP := hB9
    replace hD := hD1
    generalize H1 = H at hP hS ⊢
    refine va_calli (va_runV (As := []) (rest := []) ⟨hx, hb, hml, hown, hts⟩ (cs_length l D cI cO cb eA mi st dO dT vF (sbT ws b0 r0 cb (kLine F L h (ga (L (F 2 h)) i))) hD b0 r0 (kLine F L h (ga (L (F 2 h)) i)).length (putl (fun _ => 0) 0 (kLine F L h (ga (L (F 2 h)) i))) sbT_b sbT_r) (cwV 0 hts gX8_line_J4_length_8abf5 rfl rfl rfl kd_J4_length_8abf5 ⟨Nat.le_of_ble_eq_true rfl, Nat.le_of_ble_eq_true rfl⟩) ⟨cT_blind, c_recv hK hP rfl sbT_b, cT_pre hK hG hT hA hS hP _⟩ rfl rfl hl.1 rfl (lv_room (Nat.le_of_ble_eq_true rfl)) dX8_line_9 ⟨Nat.le_of_ble_eq_true rfl, Nat.le_of_ble_eq_true rfl⟩) hS (fun _ _ h => h) (fun _ h => h) (fun ri u U8 H1 locs1 ht hvm hu hB9 hz1 hk1 hS1 => ?_)
    subst hu
    rw [ht] at hB9
    clear hS
    have hS := hS1
    replace hP := hB9
    generalize H1 = H at hP hS ⊢
    have hln9 := kLine_len F L h (ga (L (F 2 h)) i)
    refine W.widen (k := 3) (n := 26) (by omega) (by omega) ?_
    refine vx_ret ?_
    have hk9 : kIx i (L (F 2 h)).length = 0 := by exact hk0_2
    exact W.iret (v := nI ((kLine F L h (ga (L (F 2 h)) i)).length)) hx hb hr (fun U9 ht hW9 => ⟨⟨_, (), rfl, ⟨hk9, rfl⟩, by show va_P D vwCl ws U9.heap; rw [ht]; exact hP.sbT⟩, hS.F ht⟩) hS.2.2 dX8_line_12
set_option maxHeartbeats 4000000 in
set_option maxRecDepth 100000 in
theorem cx_lineChar (l : Launch) (hst : l.stackTraces = false) (D : va_G) (cI cO cb : ClassId) (eA mi : Nat) (st : Nat → Nat) (dO dT : Nat) (vF : Value) {A : Nat → Prop} (ws : va_W) (hD : va_D A ws) {own kd : Nat → Nat} {F : Nat → Nat → Nat} {L : Nat → List Nat} (hC : CW cI cO eA st own kd F L ws) (hW : WF kd F L) (hs : sInj st)  (h : Nat) (hk_h : kd h = 9) (i : Int32) (pl : Int32) : vx_Met l yX8_lineChar wsX8_lineChar ({ frames := 7, cells := 4, slots := 32, locals := 131 }) (va_Pc [.ref h, .int i, .int pl] (cT D cI cO cb eA mi st dO dT vF A ws)) (va_Qi (fun (ri : Int32) (_ : Unit) => ks (kIx i (L (F 2 h)).length) (kIx pl (kLine F L h (ga (L (F 2 h)) i)).length) = 0 ∧ ri = nI (gt (kLine F L h (ga (L (F 2 h)) i)) pl.toNatClampNeg)) (fun _ U9 => va_P D vwCl ws U9.heap) A) (XK D ws A (ks (kIx i (L (F 2 h)).length) (kIx pl (kLine F L h (ga (L (F 2 h)) i)).length))) 4 32 A := by
  refine vx_ofW (cc := cX8_lineChar) (maxL := 4) (ret := (some .char)) (by decide) rfl ?_
  intro p e s m args below meth c s₁ B hml htab hv
  obtain ⟨rfl, hP, hK, hG, hA⟩ := hv
  obtain ⟨hG, hT⟩ := hG
  have hx := B.exec
  have hb := B.bytes
  have hr := B.returns
  have hts := atoms_spec (ws := wsX8_lineChar) B.pre
  have hown : s.vm.findClass RX8 = some m.cls := findClass_of_methodNamed B.named
  have hlocks := B.notSynchronized
  have hS : va_S A s.heap s.heap [] := va_S.rf
  have hD0 := hD
  have hl := lv_entry ([.ref h, .int i, .int pl]) (n := 4) (Nat.le_of_ble_eq_true rfl)
  rw [lg_entry_eq]
  generalize (lg_sl ([.ref h, .int i, .int pl]) ++ List.replicate (4 - (lg_sl ([.ref h, .int i, .int pl])).length) Slot.unset).toArray = ls at hl ⊢
  have hl : lv_has ls 4 [(0, .ref h), (1, .int i), (2, .int pl)] := hl
  refine lv_aload_n hx hb dX8_lineChar_0 rfl (lv_at hl 0 rfl) ?_
  refine lv_aload_n hx hb dX8_lineChar_1 rfl (lv_at hl 0 rfl) ?_
  refine lv_iload_n hx hb dX8_lineChar_2 rfl (lv_at hl 1 rfl) ?_
  have hm_1 : (h, .inr (9, [.ref (F 0 h), .ref (F 1 h), .ref (F 2 h), .ref (F 3 h), .ref (F 4 h), .int (nI (F 5 h))])) ∈ ws := hC.at hk_h (by decide) (by decide)
  refine vx_callr (vx_runV (As := [.int i]) (rest := [.ref h]) ⟨hx, hb, hml, hown, hts⟩ (cx_awardAt l hst D cI cO cb eA mi st ws hD hC hW hs h hk_h i) (cwV 1 hts gX8_lineChar_X8_awardAt rfl rfl rfl kd_X8_awardAt ⟨Nat.le_of_ble_eq_true rfl, Nat.le_of_ble_eq_true rfl⟩) ⟨cB_blind, c_recv hK hP rfl hm_1, cB_pre hK hG hA hS hP _⟩ rfl rfl hl.1 rfl (lv_room (Nat.le_of_ble_eq_true rfl)) dX8_lineChar_3 ⟨Nat.le_of_ble_eq_true rfl, Nat.le_of_ble_eq_true rfl⟩) hS (fun _ _ h => h) (fun _ h => h) (fun _ _ h => h) (fun E9 ce9 q9 u U8 H1 locs1 ht hvm hu hB hz1 hk1 hS1 hc1 hc2 hc3 => ?_) (fun u ra U8 H1 locs1 ht hvm hu hB hz1 hk1 hS1 => ?_)
  · obtain ⟨hB1, hB2, hB3⟩ := hB
    rw [ht] at hB3
    have hkx : ks (kIx i (L (F 2 h)).length) (kIx pl (kLine F L h (ga (L (F 2 h)) i)).length) = (kIx i (L (F 2 h)).length) := by exact ks_l hB2
    exact vx_out (fun z9 h9 => (htab z9 h9).elim) hlocks hc1 hc2 hc3 (fun t9 g1 g2 => ⟨(), trivial, ⟨by rw [hkx]; exact hB1, by rw [hkx]; exact hB2, by rw [g1]; exact hB3⟩, hS1.F g1⟩) hS1.2.2 (Nat.le_of_ble_eq_true rfl) (Nat.le_of_ble_eq_true rfl)
  · have hk0_2 : (kIx i (L (F 2 h)).length) = 0 := hu
    obtain ⟨hra, hB2⟩ := hB
    subst hra
    replace hB2 : va_P D vwCl ws U8.heap := hB2
    rw [ht] at hB2
    clear hS
    have hS := hS1
    replace hP := hB2
    generalize H1 = H at hP hS ⊢
    have hk_3 : kd (ga (L (F 2 h)) i) = 2 := hW.ela (hW.ref hk_h rfl (by decide)) hk0_2
    refine va_callr (va_runV (As := [.ref (ga (L (F 2 h)) i)]) (rest := []) ⟨hx, hb, hml, hown, hts⟩ (cv_lineOf l D cI cO cb eA mi st dO dT vF ws hD hC hW hs h hk_h (ga (L (F 2 h)) i) hk_3) (cwV 1 hts gX8_lineChar_X8_lineOf rfl rfl rfl kd_X8_lineOf ⟨Nat.le_of_ble_eq_true rfl, Nat.le_of_ble_eq_true rfl⟩) ⟨cT_blind, c_recv hK hP rfl hm_1, cT_pre hK hG hT hA hS hP _⟩ rfl rfl hl.1 rfl (lv_room (Nat.le_of_ble_eq_true rfl)) dX8_lineChar_6 ⟨Nat.le_of_ble_eq_true rfl, Nat.le_of_ble_eq_true rfl⟩) hS (fun _ _ h => h) (fun _ h => h) (fun r0 b0 U8 H1 locs1 ht hvm hu hB9 hz1 hk1 hS1 => ?_)
    obtain ⟨hD1, hB9⟩ := hB9
    rw [ht] at hB9
    clear hS
    have hS := hS1
    replace hP := hB9
    replace hD := hD1
    generalize H1 = H at hP hS ⊢
    refine lv_astore_n (lv' := [(3, .ref b0), (0, .ref h), (1, .int i), (2, .int pl)]) hx hb dX8_lineChar_9 rfl hl (by decide) rfl (fun ls hl => ?_)
    refine lv_iload_n hx hb dX8_lineChar_10 rfl (lv_at hl 3 rfl) ?_
    refine lv_if_lt (tgt := 22) hx hb dX8_lineChar_11 (by decide)  (fun c_4 => ?_) (fun c_4 => ?_)
    · replace hP := hP.sbT
      have hkx : ks (kIx i (L (F 2 h)).length) (kIx pl (kLine F L h (ga (L (F 2 h)) i)).length) = 1 := by exact (ks_r hk0_2).trans (kIx_no (by first | exact isIx_lo (by assumption) | exact isIx_hi (by omega) (by assumption)))
      exact vx_throw0 (A := A) (own := RX8) (cls := "java/lang/IndexOutOfBoundsException") (names := ["java/lang/RuntimeException", "java/lang/Exception"]) (ik := 76) (ic := 78) hx hb hst hown (by decide +kernel) (by decide +kernel) (hts (.classLink RX8 76 "java/lang/IndexOutOfBoundsException") (List.mem_of_getElem? (i := 1) rfl)) (hts (.initialized "java/lang/IndexOutOfBoundsException") (List.mem_of_getElem? (i := 2) rfl)) (vx_hat (L := vx_at0 RX8 78 "java/lang/IndexOutOfBoundsException" ["java/lang/RuntimeException", "java/lang/Exception"]) (fun w9 h9 => hts w9 (List.mem_cons_of_mem _ (List.mem_append_right _ h9))) gB1 (gB_of (by decide +kernel) hG.2.2.2.2.2.2.1)) (by decide +kernel) hG.1 hG.2.1 hS (hl.1.trans hml.symm) dX8_lineChar_22 dX8_lineChar_25 dX8_lineChar_26 dX8_lineChar_29 (fun z9 h9 => (htab z9 h9).elim) (by decide) (Nat.le_of_ble_eq_true rfl) (Nat.le_of_ble_eq_true rfl) (Nat.le_of_ble_eq_true rfl) hlocks (fun t9 _ g2 g3 => ⟨(), trivial, ⟨by rw [hkx]; rfl, by rw [hkx]; decide, (x_keep hS hP g2 g3).1⟩, (x_keep hS hP g2 g3).2⟩) hS.2.2 (Nat.le_of_ble_eq_true rfl) (Nat.le_of_ble_eq_true rfl)
    · refine lv_iload_n hx hb dX8_lineChar_14 rfl (lv_at hl 3 rfl) ?_
      refine lv_aload_n hx hb dX8_lineChar_15 rfl (lv_at hl 0 rfl) ?_
      refine va_calli (va_runV (As := []) (rest := [.int pl]) ⟨hx, hb, hml, hown, hts⟩ (cs_length l D cI cO cb eA mi st dO dT vF (sbT ws b0 r0 cb (kLine F L h (ga (L (F 2 h)) i))) hD b0 r0 (kLine F L h (ga (L (F 2 h)) i)).length (putl (fun _ => 0) 0 (kLine F L h (ga (L (F 2 h)) i))) sbT_b sbT_r) (cwV 0 hts gX8_lineChar_J4_length_8abf5 rfl rfl rfl kd_J4_length_8abf5 ⟨Nat.le_of_ble_eq_true rfl, Nat.le_of_ble_eq_true rfl⟩) ⟨cT_blind, c_recv hK hP rfl sbT_b, cT_pre hK hG hT hA hS hP _⟩ rfl rfl hl.1 rfl (lv_room (Nat.le_of_ble_eq_true rfl)) dX8_lineChar_16 ⟨Nat.le_of_ble_eq_true rfl, Nat.le_of_ble_eq_true rfl⟩) hS (fun _ _ h => h) (fun _ h => h) (fun ri u U8 H1 locs1 ht hvm hu hB9 hz1 hk1 hS1 => ?_)
      subst hu
      rw [ht] at hB9
      clear hS
      have hS := hS1
      replace hP := hB9
      generalize H1 = H at hP hS ⊢
      have hln9 := kLine_len F L h (ga (L (F 2 h)) i)
      refine lv_icmp_lt (tgt := 30) hx hb dX8_lineChar_19 (by decide)  (fun c_5 => ?_) (fun c_5 => ?_)
      · obtain ⟨j, hj, rfl⟩ := isIx_mk (by omega) c_4 c_5
        have hcj : (nI j).toNatClampNeg = j := nI_clamp (by omega)
        rw [hcj]
        refine lv_aload_n hx hb dX8_lineChar_30 rfl (lv_at hl 0 rfl) ?_
        refine lv_iload_n hx hb dX8_lineChar_31 rfl (lv_at hl 3 rfl) ?_
        refine va_calli (va_runV (As := [.int (nI j)]) (rest := []) ⟨hx, hb, hml, hown, hts⟩ (cs_charAt l D cI cO cb eA mi st dO dT vF (sbT ws b0 r0 cb (kLine F L h (ga (L (F 2 h)) i))) hD b0 r0 (kLine F L h (ga (L (F 2 h)) i)).length (putl (fun _ => 0) 0 (kLine F L h (ga (L (F 2 h)) i))) sbT_b sbT_r j (gt (kLine F L h (ga (L (F 2 h)) i)) j) (by omega) hln9 (by have q9 := putl_at (fun _ => 0) 0 (kLine F L h (ga (L (F 2 h)) i)) (j := j) (by omega); rw [Nat.zero_add] at q9; exact q9) (gt_lt (kLine_lt hW hk_3) (by omega))) (cwV 1 hts gX8_lineChar_J4_charAt_5068e rfl rfl rfl kd_J4_charAt_5068e ⟨Nat.le_of_ble_eq_true rfl, Nat.le_of_ble_eq_true rfl⟩) ⟨cT_blind, c_recv hK hP rfl sbT_b, cT_pre hK hG hT hA hS hP _⟩ rfl rfl hl.1 rfl (lv_room (Nat.le_of_ble_eq_true rfl)) dX8_lineChar_32 ⟨Nat.le_of_ble_eq_true rfl, Nat.le_of_ble_eq_true rfl⟩) hS (fun _ _ h => h) (fun _ h => h) (fun ri u U8 H1 locs1 ht hvm hu hB9 hz1 hk1 hS1 => ?_)
        subst hu
        rw [ht] at hB9
        clear hS
        have hS := hS1
        replace hP := hB9
        generalize H1 = H at hP hS ⊢
        refine W.widen (k := 4) (n := 32) (by omega) (by omega) ?_
        refine vx_ret ?_
        have hk9 : ks (kIx i (L (F 2 h)).length) (kIx (nI j) (kLine F L h (ga (L (F 2 h)) i)).length) = 0 := by exact (ks_r hk0_2).trans (kIx_yes (by omega) (by omega))
        exact W.zret (v := nI (gt (kLine F L h (ga (L (F 2 h)) i)) j)) hx hb hr (n_nar_ch2 (gt_lt (kLine_lt hW hk_3) (by omega))) (fun U9 ht hW9 => ⟨⟨_, (), rfl, ⟨hk9, rfl⟩, by show va_P D vwCl ws U9.heap; rw [ht]; exact hP.sbT⟩, hS.F ht⟩) hS.2.2 dX8_lineChar_35
      · replace hP := hP.sbT
        have hkx : ks (kIx i (L (F 2 h)).length) (kIx pl (kLine F L h (ga (L (F 2 h)) i)).length) = 1 := by exact (ks_r hk0_2).trans (kIx_no (by first | exact isIx_lo (by assumption) | exact isIx_hi (by omega) (by assumption)))
        exact vx_throw0 (A := A) (own := RX8) (cls := "java/lang/IndexOutOfBoundsException") (names := ["java/lang/RuntimeException", "java/lang/Exception"]) (ik := 76) (ic := 78) hx hb hst hown (by decide +kernel) (by decide +kernel) (hts (.classLink RX8 76 "java/lang/IndexOutOfBoundsException") (List.mem_of_getElem? (i := 1) rfl)) (hts (.initialized "java/lang/IndexOutOfBoundsException") (List.mem_of_getElem? (i := 2) rfl)) (vx_hat (L := vx_at0 RX8 78 "java/lang/IndexOutOfBoundsException" ["java/lang/RuntimeException", "java/lang/Exception"]) (fun w9 h9 => hts w9 (List.mem_cons_of_mem _ (List.mem_append_right _ h9))) gB1 (gB_of (by decide +kernel) hG.2.2.2.2.2.2.1)) (by decide +kernel) hG.1 hG.2.1 hS (hl.1.trans hml.symm) dX8_lineChar_22 dX8_lineChar_25 dX8_lineChar_26 dX8_lineChar_29 (fun z9 h9 => (htab z9 h9).elim) (by decide) (Nat.le_of_ble_eq_true rfl) (Nat.le_of_ble_eq_true rfl) (Nat.le_of_ble_eq_true rfl) hlocks (fun t9 _ g2 g3 => ⟨(), trivial, ⟨by rw [hkx]; rfl, by rw [hkx]; decide, (x_keep hS hP g2 g3).1⟩, (x_keep hS hP g2 g3).2⟩) hS.2.2 (Nat.le_of_ble_eq_true rfl) (Nat.le_of_ble_eq_true rfl)
