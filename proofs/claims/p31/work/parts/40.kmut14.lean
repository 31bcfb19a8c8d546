/-! the class: tenders are opened -/
def kOpB (F : Nat → Nat → Nat) (h pp : Nat) (vs : List Nat) : Nat → Nat → Nat → Nat
  | 0 => F
  | j + 1 => kOpn (kOpB F h pp vs j) (gt vs j) (decide (kPap (kOpB F h pp vs j) h (kOpB F h pp vs j 0 (gt vs j)) pp))
def kOpL (F : Nat → Nat → Nat) (L : Nat → List Nat) (h : Nat) (lots : List Nat) (pp : Nat) : Nat → Nat → Nat → Nat
  | 0 => F
  | i + 1 => kOpB (kOpL F L h lots pp i) h pp (L (kOpL F L h lots pp i 3 (gt lots i))) (L (kOpL F L h lots pp i 3 (gt lots i))).length
def kOpT1 (F : Nat → Nat → Nat) (L : Nat → List Nat) (h w : Nat) : Nat → Nat → Nat := kOpL F L h (L (F 5 w)) (F 2 w) (L (F 5 w)).length
def kOpT (F : Nat → Nat → Nat) (L : Nat → List Nat) (h : Nat) (ts : List Nat) : Nat → Nat → Nat → Nat
  | 0 => F
  | i + 1 => if kOpT F L h ts i 1 (gt ts i) = F 5 h then kOpT1 (kOpT F L h ts i) L h (gt ts i) else kOpT F L h ts i
theorem kOpn_nf {F : Nat → Nat → Nat} {o : Nat} {z : Bool} {f b : Nat} (h4 : f ≠ 4) (h5 : f ≠ 5) : kOpn F o z f b = F f b := (up2_nf h5).trans (up2_nf h4)
theorem kOpn_ne {F : Nat → Nat → Nat} {o : Nat} {z : Bool} {f b : Nat} (h : b ≠ o) : kOpn F o z f b = F f b := (up2_ne h).trans (up2_ne h)
theorem kOpB_nf {F : Nat → Nat → Nat} {h pp : Nat} {vs : List Nat} {f b : Nat} (h4 : f ≠ 4) (h5 : f ≠ 5) : ∀ j, kOpB F h pp vs j f b = F f b
  | 0 => rfl
  | j + 1 => (kOpn_nf h4 h5).trans (kOpB_nf h4 h5 j)
theorem kOpB_ne {F : Nat → Nat → Nat} {h pp : Nat} {vs : List Nat} {f b : Nat} (hb : b ∉ vs) : ∀ j, j ≤ vs.length → kOpB F h pp vs j f b = F f b
  | 0, _ => rfl
  | j + 1, hj => (kOpn_ne (fun e => hb (by rw [e]; exact gt_mem (by omega)))).trans (kOpB_ne hb j (by omega))
theorem kOpL_nf {F : Nat → Nat → Nat} {L : Nat → List Nat} {h pp : Nat} {vs : List Nat} {f b : Nat} (h4 : f ≠ 4) (h5 : f ≠ 5) : ∀ j, kOpL F L h vs pp j f b = F f b
  | 0 => rfl
  | j + 1 => (kOpB_nf h4 h5 _).trans (kOpL_nf h4 h5 j)
theorem kOpL_kd {kd : Nat → Nat} {F : Nat → Nat → Nat} {L : Nat → List Nat} (hW : WF kd F L) {h pp : Nat} {vs : List Nat} {f b k : Nat} (hv : ∀ x ∈ vs, kd x = 7) (hk : kd b = k) (hb : k ≠ 3) : ∀ j, j ≤ vs.length → kOpL F L h vs pp j f b = F f b
  | 0, _ => rfl
  | j + 1, hj => (kOpB_ne (notin_kd hW (by rw [kOpL_nf (by decide) (by decide)]; exact hW.ref (hv _ (gt_mem (by omega))) rfl (by decide)) hk hb) _ (Nat.le_refl _)).trans (kOpL_kd hW hv hk hb j (by omega))
theorem el_kd {kd : Nat → Nat} {F : Nat → Nat → Nat} {L : Nat → List Nat} (hW : WF kd F L) {a k : Nat} (hk : kd a = k + 20) : ∀ x ∈ L a, kd x = k := by
  intro x hx
  have := (hW.2.2 a (by omega)).2.2.2 x hx
  omega
theorem kOpT1_nf {F : Nat → Nat → Nat} {L : Nat → List Nat} {h w : Nat} {f b : Nat} (h4 : f ≠ 4) (h5 : f ≠ 5) : kOpT1 F L h w f b = F f b := kOpL_nf h4 h5 _
theorem kOpT1_kd {kd : Nat → Nat} {F : Nat → Nat → Nat} {L : Nat → List Nat} (hW : WF kd F L) {h w f b k : Nat} (hw : kd w = 8) (hk : kd b = k) (hb : k ≠ 3) : kOpT1 F L h w f b = F f b := kOpL_kd hW (el_kd hW (hW.ref hw rfl (by decide))) hk hb _ (Nat.le_refl _)
theorem kOpT_nf {F : Nat → Nat → Nat} {L : Nat → List Nat} {h : Nat} {ts : List Nat} {f b : Nat} (h4 : f ≠ 4) (h5 : f ≠ 5) : ∀ j, kOpT F L h ts j f b = F f b
  | 0 => rfl
  | j + 1 => by
    rw [kOpT]
    split
    · exact (kOpT1_nf h4 h5).trans (kOpT_nf h4 h5 j)
    · exact kOpT_nf h4 h5 j
theorem WF.opn {kd : Nat → Nat} {F : Nat → Nat → Nat} {L : Nat → List Nat} (hW : WF kd F L) {o : Nat} (hk : kd o = 3) (z : Bool) : WF kd (kOpn F o z) L :=
  WF.put (WF.put hW hk (Or.inr (by show (if z = true then 1 else 2) < 4; split <;> omega)) (Or.inl rfl)) hk (Or.inr (by show (if z = true then 1 else 2) < 4; split <;> omega)) (Or.inl rfl)
theorem WF.opB {kd : Nat → Nat} {F : Nat → Nat → Nat} {L : Nat → List Nat} (hW : WF kd F L) {h pp : Nat} {vs : List Nat} (hv : ∀ x ∈ vs, kd x = 3) : ∀ j, j ≤ vs.length → WF kd (kOpB F h pp vs j) L
  | 0, _ => hW
  | j + 1, hj => (WF.opB hW hv j (by omega)).opn (hv _ (gt_mem (by omega))) _
theorem WF.opL {kd : Nat → Nat} {F : Nat → Nat → Nat} {L : Nat → List Nat} (hW : WF kd F L) {h pp : Nat} {vs : List Nat} (hv : ∀ x ∈ vs, kd x = 7) : ∀ j, j ≤ vs.length → WF kd (kOpL F L h vs pp j) L
  | 0, _ => hW
  | j + 1, hj => by
    have ih := WF.opL hW (h := h) (pp := pp) hv j (by omega)
    exact ih.opB (el_kd ih (ih.ref (hv _ (gt_mem (by omega))) rfl (by decide))) _ (Nat.le_refl _)
theorem WF.opT1 {kd : Nat → Nat} {F : Nat → Nat → Nat} {L : Nat → List Nat} (hW : WF kd F L) {h w : Nat} (hw : kd w = 8) : WF kd (kOpT1 F L h w) L := hW.opL (el_kd hW (hW.ref hw rfl (by decide))) _ (Nat.le_refl _)
theorem WF.opT {kd : Nat → Nat} {F : Nat → Nat → Nat} {L : Nat → List Nat} (hW : WF kd F L) {h : Nat} {ts : List Nat} (hv : ∀ x ∈ ts, kd x = 8) : ∀ j, j ≤ ts.length → WF kd (kOpT F L h ts j) L
  | 0, _ => hW
  | j + 1, hj => by
    have ih := WF.opT hW (h := h) hv j (by omega)
    rw [kOpT]
    split
    · exact ih.opT1 (hv _ (gt_mem (by omega)))
    · exact ih
theorem kOpT_kd {kd : Nat → Nat} {F : Nat → Nat → Nat} {L : Nat → List Nat} (hW : WF kd F L) {h : Nat} {ts : List Nat} {f b k : Nat} (hv : ∀ x ∈ ts, kd x = 8) (hk : kd b = k) (hb : k ≠ 3) : ∀ j, j ≤ ts.length → kOpT F L h ts j f b = F f b
  | 0, _ => rfl
  | j + 1, hj => by
    have ih := kOpT_kd hW (h := h) (f := f) hv hk hb j (by omega)
    rw [kOpT]
    split
    · exact (kOpT1_kd (hW.opT hv j (by omega)) (hv _ (gt_mem (by omega))) hk hb).trans ih
    · exact ih
set_option maxHeartbeats 4000000 in
set_option maxRecDepth 100000 in
theorem cv_openLots (l : Launch) (D : va_G) (cI cO cb : ClassId) (eA mi : Nat) (st : Nat → Nat) {A : Nat → Prop} (ws : va_W) (hD : va_D A ws) {own kd : Nat → Nat} {F : Nat → Nat → Nat} {L : Nat → List Nat} (hC : CW cI cO eA st own kd F L ws) (hW : WF kd F L) (hs : sInj st)  (h : Nat) (hk_h : kd h = 9) (w : Nat) (hk_w : kd w = 8) : Met l yX8_openLots wsX8_openLots ({ frames := 3, cells := 0, slots := 0, locals := 68 }) (va_Pc [.ref h, .ref w] (cB D cI cO cb eA mi st A ws)) (va_Qv (fun u : va_W => CW cI cO eA st own kd (kOpT1 F L h w) L u ∧ WF kd (kOpT1 F L h w) L ∧ va_D A u) (fun u U9 => va_P D vwCl u U9.heap) A) 0 0 A := by
  refine Met.ofW (cc := cX8_openLots) (maxL := 6) (ret := none) (by decide) rfl ?_
  intro p e s m args below meth c s₁ B hml hv
  obtain ⟨rfl, hP, hK, hG, hA⟩ := hv
  have hx := B.exec
  have hb := B.bytes
  have hr := B.returns
  have hts := atoms_spec (ws := wsX8_openLots) B.pre
  have hown : s.vm.findClass RX8 = some m.cls := findClass_of_methodNamed B.named
  have hlocks := B.notSynchronized
  have hin_X1 : ∀ w ∈ wsX10, w ∈ wsX8_openLots := fun w h => List.mem_cons_of_mem _ (List.mem_append_left _ (List.mem_append_left _ (List.mem_append_right _ h)))
  have hin_X5 : ∀ w ∈ wsX50, w ∈ wsX8_openLots := fun w h => List.mem_cons_of_mem _ (List.mem_append_left _ (List.mem_append_left _ (List.mem_append_left _ (List.mem_append_right _ h))))
  have hin_X7 : ∀ w ∈ wsX70, w ∈ wsX8_openLots := fun w h => List.mem_cons_of_mem _ (List.mem_append_left _ (List.mem_append_left _ (List.mem_append_left _ (List.mem_append_left _ (List.mem_append_right _ h)))))
  have l_60 := (hts (.fieldLink RX8 60 "TenderHall$Tender" "lots" "Ljava/util/ArrayList;") (List.mem_of_getElem? (i := 1) rfl))
  have l_95 := (hts (.fieldLink RX8 95 "TenderHall$Lot" "bids" "Ljava/util/ArrayList;") (List.mem_of_getElem? (i := 3) rfl))
  have l_156 := (hts (.fieldLink RX8 156 "TenderHall$Bid" "bidder" "I") (List.mem_of_getElem? (i := 5) rfl))
  have l_262 := (hts (.fieldLink RX8 262 "TenderHall$Tender" "papers" "I") (List.mem_of_getElem? (i := 6) rfl))
  have hS : va_S A s.heap s.heap [] := va_S.rf
  have hD0 := hD
  have hl := lv_entry ([.ref h, .ref w]) (n := 6) (Nat.le_of_ble_eq_true rfl)
  rw [lg_entry_eq]
  generalize (lg_sl ([.ref h, .ref w]) ++ List.replicate (6 - (lg_sl ([.ref h, .ref w])).length) Slot.unset).toArray = ls at hl ⊢
  have hl : lv_has ls 6 [(0, .ref h), (1, .ref w)] := hl
  have hkl : kd (F 5 w) = 27 := hW.ref hk_w rfl (by decide)
  have hll : (L (F 5 w)).length ≤ 60 := hW.len hkl (by decide)
  have hv7 : ∀ x ∈ L (F 5 w), kd x = 7 := el_kd hW hkl
  have hpp : F 2 w < 64 := hW.num hk_w rfl (by decide)
  have hW0 := hW
  refine lv_iconst (v := nI 0) hx hb dX8_openLots_0 (by decide) ?_
  refine lv_istore_n (lv' := [(2, .int (nI 0)), (0, .ref h), (1, .ref w)]) hx hb dX8_openLots_1 rfl hl (by decide) rfl (fun ls hl => ?_)
  refine w_loopX (σ := va_W) (n := (L (F 5 w)).length) (nL := 6) (fun i _ => [(0, .ref h), (1, .ref w), (2, .int (nI i))]) (fun i x9 H locs => CW cI cO eA st own kd (kOpL F L h (L (F 5 w)) (F 2 w) i) L x9 ∧ WF kd (kOpL F L h (L (F 5 w)) (F 2 w) i) L ∧ va_D A x9 ∧ va_P D vwCl x9 H ∧ va_S A s.heap H locs) (fun _ => 0) (fun _ => 0) (fun i hb_2 ws_3 H locs hJ9 ih_1 ls hl => ?_) 0 (Nat.zero_le _) ws _ _ ⟨hC, hW, hD, hP, hS⟩ ls (lv_sub hl [1, 2, 0] rfl)
  clear hC hW hD hP hS
  obtain ⟨hC, hW, hD, hP, hS⟩ := hJ9
  refine lv_iload_n hx hb dX8_openLots_2 rfl (lv_at hl 2 rfl) ?_
  refine lv_aload_n hx hb dX8_openLots_3 rfl (lv_at hl 1 rfl) ?_
  have hm_4 : (w, .inr (8, [.int (nI (F 0 w)), .int (nI (F 1 w)), .int (nI (F 2 w)), .int (nI (F 3 w)), .int (nI (F 4 w)), .ref (F 5 w)])) ∈ ws_3 := by have q9 := hC.at hk_w (by decide) (by decide); rw [ent_congr (G := F) (fun f9 => kOpL_kd hW0 hv7 hk_w (by decide) _ (by omega))] at q9; exact q9
  refine c_get (C := RX7) (T := TX7) (N := 6) hx hb hts hin_X7 hown hK hP hm_4 rfl 5 (by decide) l_60 (fun _ h9 => h9) rfl dX8_openLots_4 ?_
  obtain ⟨fs_hm_5, hm_5⟩ := hC.obj hkl (by decide)
  refine vp_callSi (W.runV (As := []) (rest := [.int (nI i)]) ⟨hx, hb, hml, hown, hts⟩ ((cl_size l D cI cO cb eA mi st ws_3 hD (F 5 w) (L (F 5 w)) (hC.lst hkl (by decide)))) (cwV 0 hts gX8_openLots_Jx4a65c_size_8abf5 rfl rfl rfl kd_Jx4a65c_size_8abf5 ⟨Nat.le_of_ble_eq_true rfl, Nat.le_of_ble_eq_true rfl⟩) ⟨cB_blind, c_recv hK hP rfl hm_5, cB_pre hK hG hA hS hP _⟩ rfl rfl hl.1 rfl (lv_room (Nat.le_of_ble_eq_true rfl)) dX8_openLots_7 ⟨Nat.le_of_ble_eq_true rfl, Nat.le_of_ble_eq_true rfl⟩) (fun r_6 hr_6 => ?_)
  subst hr_6
  refine n_icmp_ge (tgt := 81) hx hb dX8_openLots_10 (by decide) (by omega) (by omega) (fun c_7 => ?_) (fun c_7 => ?_)
  · have eF9 : kOpT1 F L h w = kOpL F L h (L (F 5 w)) (F 2 w) i := by unfold kOpT1; rw [show (L (F 5 w)).length = i by omega]
    exact W.vret hx hb hr (fun U9 ht hW9 => ⟨⟨ws_3, rfl, ⟨by rw [eF9]; exact hC, by rw [eF9]; exact hW, hD⟩, by show va_P D vwCl _ U9.heap; rw [ht]; exact hP⟩, hS.F ht⟩) hS.2.2 dX8_openLots_81
  · have hkB : kd ((kOpL F L h (L (F 5 w)) (F 2 w) i) 3 (gt (L (F 5 w)) i)) = 23 := hW.ref (hv7 _ (gt_mem (by omega))) rfl (by decide)
    have hnw : w ∉ L ((kOpL F L h (L (F 5 w)) (F 2 w) i) 3 (gt (L (F 5 w)) i)) := notin_kd hW hkB hk_w (by decide)
    refine lv_aload_n hx hb dX8_openLots_13 rfl (lv_at hl 1 rfl) ?_
    refine c_get (C := RX7) (T := TX7) (N := 6) hx hb hts hin_X7 hown hK hP hm_4 rfl 5 (by decide) l_60 (fun _ h9 => h9) rfl dX8_openLots_14 ?_
    refine lv_iload_n hx hb dX8_openLots_17 rfl (lv_at hl 2 rfl) ?_
    obtain ⟨fs_hm_8, hm_8⟩ := hC.obj hkl (by decide)
    refine va_csr (W.runV (As := [.int (nI i)]) (rest := []) ⟨hx, hb, hml, hown, hts⟩ ((cl_get l D cI cO cb eA mi st ws_3 hD (F 5 w) (L (F 5 w)) (hC.lst hkl (by decide)) i (gt (L (F 5 w)) i) (gt_some (by omega)))) (cwV 1 hts gX8_openLots_Jx4a65c_get_915e3 rfl rfl rfl kd_Jx4a65c_get_915e3 ⟨Nat.le_of_ble_eq_true rfl, Nat.le_of_ble_eq_true rfl⟩) ⟨cB_blind, c_recv hK hP rfl hm_8, cB_pre hK hG hA hS hP _⟩ rfl rfl hl.1 rfl (lv_room (Nat.le_of_ble_eq_true rfl)) dX8_openLots_18 ⟨Nat.le_of_ble_eq_true rfl, Nat.le_of_ble_eq_true rfl⟩) (fun r_9 hr_9 => ?_)
    subst hr_9
    have hk_10 : kd (gt (L (F 5 w)) i) = 7 := hW.el hkl (by omega)
    have hm_11 : (gt (L (F 5 w)) i, .inr (7, [.ref ((kOpL F L h (L (F 5 w)) (F 2 w) i) 0 (gt (L (F 5 w)) i)), .int (nI ((kOpL F L h (L (F 5 w)) (F 2 w) i) 1 (gt (L (F 5 w)) i))), .int (nI ((kOpL F L h (L (F 5 w)) (F 2 w) i) 2 (gt (L (F 5 w)) i))), .ref ((kOpL F L h (L (F 5 w)) (F 2 w) i) 3 (gt (L (F 5 w)) i)), .ref ((kOpL F L h (L (F 5 w)) (F 2 w) i) 4 (gt (L (F 5 w)) i))])) ∈ ws_3 := hC.at hk_10 (by decide) (by decide)
    refine va_castE hx hb hown (hts (.classLink RX8 67 "TenderHall$Lot") (List.mem_of_getElem? (i := 2) rfl)) (c_recv hK hP (ci := 7) rfl hm_11) dX8_openLots_21 ?_
    refine c_get (C := RX5) (T := TX5) (N := 5) hx hb hts hin_X5 hown hK hP hm_11 rfl 3 (by decide) l_95 (fun _ h9 => h9) rfl dX8_openLots_24 ?_
    have hk_12 : kd ((kOpL F L h (L (F 5 w)) (F 2 w) i) 3 (gt (L (F 5 w)) i)) = 23 := hW.ref (f := 3) hk_10 rfl (by decide)
    have hl_13 : (L ((kOpL F L h (L (F 5 w)) (F 2 w) i) 3 (gt (L (F 5 w)) i))).length ≤ 60 := hW.len hk_12 (by decide)
    refine lv_astore_n (lv' := [(3, .ref ((kOpL F L h (L (F 5 w)) (F 2 w) i) 3 (gt (L (F 5 w)) i))), (0, .ref h), (1, .ref w), (2, .int (nI i))]) hx hb dX8_openLots_27 rfl hl (by decide) rfl (fun ls hl => ?_)
    refine lv_iconst (v := nI 0) hx hb dX8_openLots_28 (by decide) ?_
    refine lv_istore (lv' := [(4, .int (nI 0)), (3, .ref ((kOpL F L h (L (F 5 w)) (F 2 w) i) 3 (gt (L (F 5 w)) i))), (0, .ref h), (1, .ref w), (2, .int (nI i))]) hx hb dX8_openLots_29 hl (by decide) rfl (fun ls hl => ?_)
    refine w_loopX (σ := va_W) (n := (L ((kOpL F L h (L (F 5 w)) (F 2 w) i) 3 (gt (L (F 5 w)) i))).length) (nL := 6) (fun j _ => [(0, .ref h), (1, .ref w), (2, .int (nI i)), (3, .ref ((kOpL F L h (L (F 5 w)) (F 2 w) i) 3 (gt (L (F 5 w)) i))), (4, .int (nI j))]) (fun j x9 H locs => CW cI cO eA st own kd (kOpB (kOpL F L h (L (F 5 w)) (F 2 w) i) h (F 2 w) (L ((kOpL F L h (L (F 5 w)) (F 2 w) i) 3 (gt (L (F 5 w)) i))) j) L x9 ∧ WF kd (kOpB (kOpL F L h (L (F 5 w)) (F 2 w) i) h (F 2 w) (L ((kOpL F L h (L (F 5 w)) (F 2 w) i) 3 (gt (L (F 5 w)) i))) j) L ∧ va_D A x9 ∧ va_P D vwCl x9 H ∧ va_S A s.heap H locs) (fun _ => 0) (fun _ => 0) (fun j hb_15 ws_16 H locs hJ9 ih_14 ls hl => ?_) 0 (Nat.zero_le _) ws_3 _ _ ⟨hC, hW, hD, hP, hS⟩ ls (lv_sub hl [2, 3, 4, 1, 0] rfl)
    clear hC hW hD hP hS
    obtain ⟨hC, hW, hD, hP, hS⟩ := hJ9
    refine lv_iload hx hb dX8_openLots_31 (lv_at hl 4 rfl) ?_
    refine lv_aload_n hx hb dX8_openLots_33 rfl (lv_at hl 3 rfl) ?_
    obtain ⟨fs_hm_17, hm_17⟩ := hC.obj hk_12 (by decide)
    refine vp_callSi (W.runV (As := []) (rest := [.int (nI j)]) ⟨hx, hb, hml, hown, hts⟩ ((cl_size l D cI cO cb eA mi st ws_16 hD ((kOpL F L h (L (F 5 w)) (F 2 w) i) 3 (gt (L (F 5 w)) i)) (L ((kOpL F L h (L (F 5 w)) (F 2 w) i) 3 (gt (L (F 5 w)) i))) (hC.lst hk_12 (by decide)))) (cwV 0 hts gX8_openLots_Jx4a65c_size_8abf5 rfl rfl rfl kd_Jx4a65c_size_8abf5 ⟨Nat.le_of_ble_eq_true rfl, Nat.le_of_ble_eq_true rfl⟩) ⟨cB_blind, c_recv hK hP rfl hm_17, cB_pre hK hG hA hS hP _⟩ rfl rfl hl.1 rfl (lv_room (Nat.le_of_ble_eq_true rfl)) dX8_openLots_34 ⟨Nat.le_of_ble_eq_true rfl, Nat.le_of_ble_eq_true rfl⟩) (fun r_18 hr_18 => ?_)
    subst hr_18
    refine n_icmp_ge (tgt := 75) hx hb dX8_openLots_37 (by decide) (by omega) (by omega) (fun c_19 => ?_) (fun c_19 => ?_)
    · refine n_iinc (k := 2) (lv' := [(2, .int (nI (i + 1))), (0, .ref h), (1, .ref w), (3, .ref ((kOpL F L h (L (F 5 w)) (F 2 w) i) 3 (gt (L (F 5 w)) i))), (4, .int (nI j))]) hx hb dX8_openLots_75 hl rfl (by decide) rfl (fun ls hl => ?_)
      refine lv_goto (tgt := 2) hx hb dX8_openLots_78 (by decide) ?_
      have eF_20 : kOpL F L h (L (F 5 w)) (F 2 w) (i + 1) = kOpB (kOpL F L h (L (F 5 w)) (F 2 w) i) h (F 2 w) (L ((kOpL F L h (L (F 5 w)) (F 2 w) i) 3 (gt (L (F 5 w)) i))) j := by rw [kOpL]; rw [show (L ((kOpL F L h (L (F 5 w)) (F 2 w) i) 3 (gt (L (F 5 w)) i))).length = j by omega]
      refine ih_1 (by omega) ws_16 _ _ ⟨by rw [eF_20]; exact hC, by rw [eF_20]; exact hW, hD, hP, hS⟩ ls ?_
      exact lv_sub hl [1, 2, 0] rfl
    · refine lv_aload_n hx hb dX8_openLots_40 rfl (lv_at hl 3 rfl) ?_
      refine lv_iload hx hb dX8_openLots_41 (lv_at hl 4 rfl) ?_
      obtain ⟨fs_hm_21, hm_21⟩ := hC.obj hk_12 (by decide)
      refine va_csr (W.runV (As := [.int (nI j)]) (rest := []) ⟨hx, hb, hml, hown, hts⟩ ((cl_get l D cI cO cb eA mi st ws_16 hD ((kOpL F L h (L (F 5 w)) (F 2 w) i) 3 (gt (L (F 5 w)) i)) (L ((kOpL F L h (L (F 5 w)) (F 2 w) i) 3 (gt (L (F 5 w)) i))) (hC.lst hk_12 (by decide)) j (gt (L ((kOpL F L h (L (F 5 w)) (F 2 w) i) 3 (gt (L (F 5 w)) i))) j) (gt_some (by omega)))) (cwV 1 hts gX8_openLots_Jx4a65c_get_915e3 rfl rfl rfl kd_Jx4a65c_get_915e3 ⟨Nat.le_of_ble_eq_true rfl, Nat.le_of_ble_eq_true rfl⟩) ⟨cB_blind, c_recv hK hP rfl hm_21, cB_pre hK hG hA hS hP _⟩ rfl rfl hl.1 rfl (lv_room (Nat.le_of_ble_eq_true rfl)) dX8_openLots_43 ⟨Nat.le_of_ble_eq_true rfl, Nat.le_of_ble_eq_true rfl⟩) (fun r_22 hr_22 => ?_)
      subst hr_22
      have hk_23 : kd (gt (L ((kOpL F L h (L (F 5 w)) (F 2 w) i) 3 (gt (L (F 5 w)) i))) j) = 3 := hW.el hk_12 (by omega)
      have hm_24 : (gt (L ((kOpL F L h (L (F 5 w)) (F 2 w) i) 3 (gt (L (F 5 w)) i))) j, .inr (3, [.int (nI ((kOpB (kOpL F L h (L (F 5 w)) (F 2 w) i) h (F 2 w) (L ((kOpL F L h (L (F 5 w)) (F 2 w) i) 3 (gt (L (F 5 w)) i))) j) 0 (gt (L ((kOpL F L h (L (F 5 w)) (F 2 w) i) 3 (gt (L (F 5 w)) i))) j))), .int (nI ((kOpB (kOpL F L h (L (F 5 w)) (F 2 w) i) h (F 2 w) (L ((kOpL F L h (L (F 5 w)) (F 2 w) i) 3 (gt (L (F 5 w)) i))) j) 1 (gt (L ((kOpL F L h (L (F 5 w)) (F 2 w) i) 3 (gt (L (F 5 w)) i))) j))), .int (nI ((kOpB (kOpL F L h (L (F 5 w)) (F 2 w) i) h (F 2 w) (L ((kOpL F L h (L (F 5 w)) (F 2 w) i) 3 (gt (L (F 5 w)) i))) j) 2 (gt (L ((kOpL F L h (L (F 5 w)) (F 2 w) i) 3 (gt (L (F 5 w)) i))) j))), .int (nI ((kOpB (kOpL F L h (L (F 5 w)) (F 2 w) i) h (F 2 w) (L ((kOpL F L h (L (F 5 w)) (F 2 w) i) 3 (gt (L (F 5 w)) i))) j) 3 (gt (L ((kOpL F L h (L (F 5 w)) (F 2 w) i) 3 (gt (L (F 5 w)) i))) j))), .ref (st ((kOpB (kOpL F L h (L (F 5 w)) (F 2 w) i) h (F 2 w) (L ((kOpL F L h (L (F 5 w)) (F 2 w) i) 3 (gt (L (F 5 w)) i))) j) 4 (gt (L ((kOpL F L h (L (F 5 w)) (F 2 w) i) 3 (gt (L (F 5 w)) i))) j))), .ref (st ((kOpB (kOpL F L h (L (F 5 w)) (F 2 w) i) h (F 2 w) (L ((kOpL F L h (L (F 5 w)) (F 2 w) i) 3 (gt (L (F 5 w)) i))) j) 5 (gt (L ((kOpL F L h (L (F 5 w)) (F 2 w) i) 3 (gt (L (F 5 w)) i))) j)))])) ∈ ws_16 := hC.at hk_23 (by decide) (by decide)
      refine va_castE hx hb hown (hts (.classLink RX8 98 "TenderHall$Bid") (List.mem_of_getElem? (i := 4) rfl)) (c_recv hK hP (ci := 3) rfl hm_24) dX8_openLots_46 ?_
      refine lv_astore (lv' := [(5, .ref (gt (L ((kOpL F L h (L (F 5 w)) (F 2 w) i) 3 (gt (L (F 5 w)) i))) j)), (0, .ref h), (1, .ref w), (2, .int (nI i)), (3, .ref ((kOpL F L h (L (F 5 w)) (F 2 w) i) 3 (gt (L (F 5 w)) i))), (4, .int (nI j))]) hx hb dX8_openLots_49 hl (by decide) rfl (fun ls hl => ?_)
      refine lv_aload hx hb dX8_openLots_51 (lv_at hl 0 rfl) ?_
      refine lv_aload_n hx hb dX8_openLots_53 rfl (lv_at hl 1 rfl) ?_
      refine lv_aload hx hb dX8_openLots_54 (lv_at hl 0 rfl) ?_
      refine c_get (C := RX1) (T := TX1) (N := 6) hx hb hts hin_X1 hown hK hP hm_24 rfl 0 (by decide) l_156 (fun _ h9 => h9) rfl dX8_openLots_56 ?_
      have hn_25 : (kOpB (kOpL F L h (L (F 5 w)) (F 2 w) i) h (F 2 w) (L ((kOpL F L h (L (F 5 w)) (F 2 w) i) 3 (gt (L (F 5 w)) i))) j) 0 (gt (L ((kOpL F L h (L (F 5 w)) (F 2 w) i) 3 (gt (L (F 5 w)) i))) j) < 8 := hW.num (f := 0) hk_23 rfl (by decide)
      refine lv_aload_n hx hb dX8_openLots_59 rfl (lv_at hl 2 rfl) ?_
      have hm_26 : (w, .inr (8, [.int (nI (F 0 w)), .int (nI (F 1 w)), .int (nI (F 2 w)), .int (nI (F 3 w)), .int (nI (F 4 w)), .ref (F 5 w)])) ∈ ws_16 := by have q9 := hC.at hk_w (by decide) (by decide); rw [ent_congr (G := F) (fun f9 => (kOpB_ne hnw _ (by omega)).trans (kOpL_kd hW0 hv7 hk_w (by decide) _ (by omega)))] at q9; exact q9
      refine c_get (C := RX7) (T := TX7) (N := 6) hx hb hts hin_X7 hown hK hP hm_26 rfl 2 (by decide) l_262 (fun _ h9 => h9) rfl dX8_openLots_60 ?_
      have hn_27 : F 2 w < 64 := by have q9 := hW.num (f := 2) hk_w rfl (by decide); rw [show (kOpB (kOpL F L h (L (F 5 w)) (F 2 w) i) h (F 2 w) (L ((kOpL F L h (L (F 5 w)) (F 2 w) i) 3 (gt (L (F 5 w)) i))) j) 2 w = F 2 w from (fun f9 => (kOpB_ne hnw _ (by omega)).trans (kOpL_kd hW0 hv7 hk_w (by decide) _ (by omega))) 2] at q9; exact q9
      have hm_28 : (h, .inr (9, [.ref ((kOpB (kOpL F L h (L (F 5 w)) (F 2 w) i) h (F 2 w) (L ((kOpL F L h (L (F 5 w)) (F 2 w) i) 3 (gt (L (F 5 w)) i))) j) 0 h), .ref ((kOpB (kOpL F L h (L (F 5 w)) (F 2 w) i) h (F 2 w) (L ((kOpL F L h (L (F 5 w)) (F 2 w) i) 3 (gt (L (F 5 w)) i))) j) 1 h), .ref ((kOpB (kOpL F L h (L (F 5 w)) (F 2 w) i) h (F 2 w) (L ((kOpL F L h (L (F 5 w)) (F 2 w) i) 3 (gt (L (F 5 w)) i))) j) 2 h), .ref ((kOpB (kOpL F L h (L (F 5 w)) (F 2 w) i) h (F 2 w) (L ((kOpL F L h (L (F 5 w)) (F 2 w) i) 3 (gt (L (F 5 w)) i))) j) 3 h), .ref ((kOpB (kOpL F L h (L (F 5 w)) (F 2 w) i) h (F 2 w) (L ((kOpL F L h (L (F 5 w)) (F 2 w) i) 3 (gt (L (F 5 w)) i))) j) 4 h), .int (nI ((kOpB (kOpL F L h (L (F 5 w)) (F 2 w) i) h (F 2 w) (L ((kOpL F L h (L (F 5 w)) (F 2 w) i) 3 (gt (L (F 5 w)) i))) j) 5 h))])) ∈ ws_16 := hC.at hk_h (by decide) (by decide)
      refine vp_callSi (W.runV (As := [.int (nI ((kOpB (kOpL F L h (L (F 5 w)) (F 2 w) i) h (F 2 w) (L ((kOpL F L h (L (F 5 w)) (F 2 w) i) 3 (gt (L (F 5 w)) i))) j) 0 (gt (L ((kOpL F L h (L (F 5 w)) (F 2 w) i) 3 (gt (L (F 5 w)) i))) j))), .int (nI (F 2 w))]) (rest := [.ref (gt (L ((kOpL F L h (L (F 5 w)) (F 2 w) i) 3 (gt (L (F 5 w)) i))) j)]) ⟨hx, hb, hml, hown, hts⟩ (ck_hasPapers l D cI cO cb eA mi st ws_16 hD hC hW hs h hk_h ((kOpB (kOpL F L h (L (F 5 w)) (F 2 w) i) h (F 2 w) (L ((kOpL F L h (L (F 5 w)) (F 2 w) i) 3 (gt (L (F 5 w)) i))) j) 0 (gt (L ((kOpL F L h (L (F 5 w)) (F 2 w) i) 3 (gt (L (F 5 w)) i))) j)) (F 2 w) (by omega) (by omega)) (cwV 2 hts gX8_openLots_X8_hasPapers rfl rfl rfl kd_X8_hasPapers ⟨Nat.le_of_ble_eq_true rfl, Nat.le_of_ble_eq_true rfl⟩) ⟨cB_blind, c_recv hK hP rfl hm_28, cB_pre hK hG hA hS hP _⟩ rfl rfl hl.1 rfl (lv_room (Nat.le_of_ble_eq_true rfl)) dX8_openLots_63 ⟨Nat.le_of_ble_eq_true rfl, Nat.le_of_ble_eq_true rfl⟩) (fun r_29 hr_29 => ?_)
      subst hr_29
      refine va_callv (va_runV (As := [.int (bi (decide (kPap (kOpB (kOpL F L h (L (F 5 w)) (F 2 w) i) h (F 2 w) (L ((kOpL F L h (L (F 5 w)) (F 2 w) i) 3 (gt (L (F 5 w)) i))) j) h ((kOpB (kOpL F L h (L (F 5 w)) (F 2 w) i) h (F 2 w) (L ((kOpL F L h (L (F 5 w)) (F 2 w) i) 3 (gt (L (F 5 w)) i))) j) 0 (gt (L ((kOpL F L h (L (F 5 w)) (F 2 w) i) 3 (gt (L (F 5 w)) i))) j)) (F 2 w))))]) (rest := []) ⟨hx, hb, hml, hown, hts⟩ (cv_open l D cI cO cb eA mi st ws_16 hD hC hW hs (gt (L ((kOpL F L h (L (F 5 w)) (F 2 w) i) 3 (gt (L (F 5 w)) i))) j) hk_23 (decide (kPap (kOpB (kOpL F L h (L (F 5 w)) (F 2 w) i) h (F 2 w) (L ((kOpL F L h (L (F 5 w)) (F 2 w) i) 3 (gt (L (F 5 w)) i))) j) h ((kOpB (kOpL F L h (L (F 5 w)) (F 2 w) i) h (F 2 w) (L ((kOpL F L h (L (F 5 w)) (F 2 w) i) 3 (gt (L (F 5 w)) i))) j) 0 (gt (L ((kOpL F L h (L (F 5 w)) (F 2 w) i) 3 (gt (L (F 5 w)) i))) j)) (F 2 w)))) (cwV 1 hts gX8_openLots_X1_open rfl rfl rfl kd_X1_open ⟨Nat.le_of_ble_eq_true rfl, Nat.le_of_ble_eq_true rfl⟩) ⟨cB_blind, c_recv hK hP rfl hm_24, cB_pre hK hG hA hS hP _⟩ rfl rfl hl.1 rfl (lv_room (Nat.le_of_ble_eq_true rfl)) dX8_openLots_66 ⟨Nat.le_of_ble_eq_true rfl, Nat.le_of_ble_eq_true rfl⟩) hS (fun _ _ h => h) (fun _ h => h) (fun uw_30 U8 H1 locs1 ht hvm hu hB hz1 hk1 hS1 => ?_)
      obtain ⟨hC, hW, hD⟩ := hu
      rw [ht] at hB
      clear hS
      have hS := hS1
      replace hP := hB
      generalize H1 = H at hP hS ⊢
      refine n_iinc (k := 5) (lv' := [(4, .int (nI (j + 1))), (5, .ref (gt (L ((kOpL F L h (L (F 5 w)) (F 2 w) i) 3 (gt (L (F 5 w)) i))) j)), (0, .ref h), (1, .ref w), (2, .int (nI i)), (3, .ref ((kOpL F L h (L (F 5 w)) (F 2 w) i) 3 (gt (L (F 5 w)) i)))]) hx hb dX8_openLots_69 hl rfl (by decide) rfl (fun ls hl => ?_)
      refine lv_goto (tgt := 31) hx hb dX8_openLots_72 (by decide) ?_
      have eF_31 : kOpB (kOpL F L h (L (F 5 w)) (F 2 w) i) h (F 2 w) (L ((kOpL F L h (L (F 5 w)) (F 2 w) i) 3 (gt (L (F 5 w)) i))) (j + 1) = kOpn (kOpB (kOpL F L h (L (F 5 w)) (F 2 w) i) h (F 2 w) (L ((kOpL F L h (L (F 5 w)) (F 2 w) i) 3 (gt (L (F 5 w)) i))) j) (gt (L ((kOpL F L h (L (F 5 w)) (F 2 w) i) 3 (gt (L (F 5 w)) i))) j) (decide (kPap (kOpB (kOpL F L h (L (F 5 w)) (F 2 w) i) h (F 2 w) (L ((kOpL F L h (L (F 5 w)) (F 2 w) i) 3 (gt (L (F 5 w)) i))) j) h ((kOpB (kOpL F L h (L (F 5 w)) (F 2 w) i) h (F 2 w) (L ((kOpL F L h (L (F 5 w)) (F 2 w) i) 3 (gt (L (F 5 w)) i))) j) 0 (gt (L ((kOpL F L h (L (F 5 w)) (F 2 w) i) 3 (gt (L (F 5 w)) i))) j)) (F 2 w))) := by rfl
      refine ih_14 (by omega) uw_30 _ _ ⟨by rw [eF_31]; exact hC, by rw [eF_31]; exact hW, hD, hP, hS⟩ ls ?_
      exact lv_sub hl [2, 3, 4, 5, 0] rfl
set_option maxHeartbeats 4000000 in
set_option maxRecDepth 100000 in
theorem cv_openTenders (l : Launch) (D : va_G) (cI cO cb : ClassId) (eA mi : Nat) (st : Nat → Nat) {A : Nat → Prop} (ws : va_W) (hD : va_D A ws) {own kd : Nat → Nat} {F : Nat → Nat → Nat} {L : Nat → List Nat} (hC : CW cI cO eA st own kd F L ws) (hW : WF kd F L) (hs : sInj st)  (h : Nat) (hk_h : kd h = 9) : Met l yX8_openTenders wsX8_openTenders ({ frames := 4, cells := 0, slots := 0, locals := 93 }) (va_Pc [.ref h] (cB D cI cO cb eA mi st A ws)) (va_Qv (fun u : va_W => CW cI cO eA st own kd (kOpT F L h (L (F 1 h)) (L (F 1 h)).length) L u ∧ WF kd (kOpT F L h (L (F 1 h)) (L (F 1 h)).length) L ∧ va_D A u) (fun u U9 => va_P D vwCl u U9.heap) A) 0 0 A := by
  refine Met.ofW (cc := cX8_openTenders) (maxL := 3) (ret := none) (by decide) rfl ?_
  intro p e s m args below meth c s₁ B hml hv
  obtain ⟨rfl, hP, hK, hG, hA⟩ := hv
  have hx := B.exec
  have hb := B.bytes
  have hr := B.returns
  have hts := atoms_spec (ws := wsX8_openTenders) B.pre
  have hown : s.vm.findClass RX8 = some m.cls := findClass_of_methodNamed B.named
  have hlocks := B.notSynchronized
  have hin_X7 : ∀ w ∈ wsX70, w ∈ wsX8_openTenders := fun w h => List.mem_cons_of_mem _ (List.mem_append_left _ (List.mem_append_left _ (List.mem_append_left _ (List.mem_append_right _ h))))
  have hin_X8 : ∀ w ∈ wsX80, w ∈ wsX8_openTenders := fun w h => List.mem_cons_of_mem _ (List.mem_append_left _ (List.mem_append_left _ (List.mem_append_left _ (List.mem_append_left _ (List.mem_append_right _ h)))))
  have l_16 := (hts (.fieldLink RX8 16 "TenderHall" "tenders" "Ljava/util/ArrayList;") (List.mem_of_getElem? (i := 1) rfl))
  have l_255 := (hts (.fieldLink RX8 255 "TenderHall$Tender" "closing" "I") (List.mem_of_getElem? (i := 3) rfl))
  have l_29 := (hts (.fieldLink RX8 29 "TenderHall" "day" "I") (List.mem_of_getElem? (i := 4) rfl))
  have hS : va_S A s.heap s.heap [] := va_S.rf
  have hD0 := hD
  have hl := lv_entry ([.ref h]) (n := 3) (Nat.le_of_ble_eq_true rfl)
  rw [lg_entry_eq]
  generalize (lg_sl ([.ref h]) ++ List.replicate (3 - (lg_sl ([.ref h])).length) Slot.unset).toArray = ls at hl ⊢
  have hl : lv_has ls 3 [(0, .ref h)] := hl
  have hkl : kd (F 1 h) = 28 := hW.ref hk_h rfl (by decide)
  have hll : (L (F 1 h)).length ≤ 60 := hW.len hkl (by decide)
  have hv8 : ∀ x ∈ L (F 1 h), kd x = 8 := el_kd hW hkl
  have hW0 := hW
  refine lv_iconst (v := nI 0) hx hb dX8_openTenders_0 (by decide) ?_
  refine lv_istore_n (lv' := [(1, .int (nI 0)), (0, .ref h)]) hx hb dX8_openTenders_1 rfl hl (by decide) rfl (fun ls hl => ?_)
  refine w_loopX (σ := va_W) (n := (L (F 1 h)).length) (nL := 3) (fun i _ => [(0, .ref h), (1, .int (nI i))]) (fun i x9 H locs => CW cI cO eA st own kd (kOpT F L h (L (F 1 h)) i) L x9 ∧ WF kd (kOpT F L h (L (F 1 h)) i) L ∧ va_D A x9 ∧ va_P D vwCl x9 H ∧ va_S A s.heap H locs) (fun _ => 0) (fun _ => 0) (fun i hb_2 ws_3 H locs hJ9 ih_1 ls hl => ?_) 0 (Nat.zero_le _) ws _ _ ⟨hC, hW, hD, hP, hS⟩ ls (lv_sub hl [1, 0] rfl)
  clear hC hW hD hP hS
  obtain ⟨hC, hW, hD, hP, hS⟩ := hJ9
  refine lv_iload_n hx hb dX8_openTenders_2 rfl (lv_at hl 1 rfl) ?_
  refine lv_aload_n hx hb dX8_openTenders_3 rfl (lv_at hl 0 rfl) ?_
  have hm_4 : (h, .inr (9, [.ref (F 0 h), .ref (F 1 h), .ref (F 2 h), .ref (F 3 h), .ref (F 4 h), .int (nI (F 5 h))])) ∈ ws_3 := by have q9 := hC.at hk_h (by decide) (by decide); rw [ent_congr (G := F) (fun f9 => kOpT_kd hW0 hv8 hk_h (by decide) _ (by omega))] at q9; exact q9
  refine c_get (C := RX8) (T := TX8) (N := 6) hx hb hts hin_X8 hown hK hP hm_4 rfl 1 (by decide) l_16 (fun _ h9 => h9) rfl dX8_openTenders_4 ?_
  obtain ⟨fs_hm_5, hm_5⟩ := hC.obj hkl (by decide)
  refine vp_callSi (W.runV (As := []) (rest := [.int (nI i)]) ⟨hx, hb, hml, hown, hts⟩ ((cl_size l D cI cO cb eA mi st ws_3 hD (F 1 h) (L (F 1 h)) (hC.lst hkl (by decide)))) (cwV 0 hts gX8_openTenders_Jx4a65c_size_8abf5 rfl rfl rfl kd_Jx4a65c_size_8abf5 ⟨Nat.le_of_ble_eq_true rfl, Nat.le_of_ble_eq_true rfl⟩) ⟨cB_blind, c_recv hK hP rfl hm_5, cB_pre hK hG hA hS hP _⟩ rfl rfl hl.1 rfl (lv_room (Nat.le_of_ble_eq_true rfl)) dX8_openTenders_7 ⟨Nat.le_of_ble_eq_true rfl, Nat.le_of_ble_eq_true rfl⟩) (fun r_6 hr_6 => ?_)
  subst hr_6
  refine n_icmp_ge (tgt := 47) hx hb dX8_openTenders_10 (by decide) (by omega) (by omega) (fun c_7 => ?_) (fun c_7 => ?_)
  · have eF9 : kOpT F L h (L (F 1 h)) (L (F 1 h)).length = kOpT F L h (L (F 1 h)) i := by rw [show (L (F 1 h)).length = i by omega]
    exact W.vret hx hb hr (fun U9 ht hW9 => ⟨⟨ws_3, rfl, ⟨by rw [eF9]; exact hC, by rw [eF9]; exact hW, hD⟩, by show va_P D vwCl _ U9.heap; rw [ht]; exact hP⟩, hS.F ht⟩) hS.2.2 dX8_openTenders_47
  · refine lv_aload_n hx hb dX8_openTenders_13 rfl (lv_at hl 0 rfl) ?_
    refine c_get (C := RX8) (T := TX8) (N := 6) hx hb hts hin_X8 hown hK hP hm_4 rfl 1 (by decide) l_16 (fun _ h9 => h9) rfl dX8_openTenders_14 ?_
    refine lv_iload_n hx hb dX8_openTenders_17 rfl (lv_at hl 1 rfl) ?_
    obtain ⟨fs_hm_8, hm_8⟩ := hC.obj hkl (by decide)
    refine va_csr (W.runV (As := [.int (nI i)]) (rest := []) ⟨hx, hb, hml, hown, hts⟩ ((cl_get l D cI cO cb eA mi st ws_3 hD (F 1 h) (L (F 1 h)) (hC.lst hkl (by decide)) i (gt (L (F 1 h)) i) (gt_some (by omega)))) (cwV 1 hts gX8_openTenders_Jx4a65c_get_915e3 rfl rfl rfl kd_Jx4a65c_get_915e3 ⟨Nat.le_of_ble_eq_true rfl, Nat.le_of_ble_eq_true rfl⟩) ⟨cB_blind, c_recv hK hP rfl hm_8, cB_pre hK hG hA hS hP _⟩ rfl rfl hl.1 rfl (lv_room (Nat.le_of_ble_eq_true rfl)) dX8_openTenders_18 ⟨Nat.le_of_ble_eq_true rfl, Nat.le_of_ble_eq_true rfl⟩) (fun r_9 hr_9 => ?_)
    subst hr_9
    have hk_10 : kd (gt (L (F 1 h)) i) = 8 := hW.el hkl (by omega)
    have hm_11 : (gt (L (F 1 h)) i, .inr (8, [.int (nI ((kOpT F L h (L (F 1 h)) i) 0 (gt (L (F 1 h)) i))), .int (nI ((kOpT F L h (L (F 1 h)) i) 1 (gt (L (F 1 h)) i))), .int (nI ((kOpT F L h (L (F 1 h)) i) 2 (gt (L (F 1 h)) i))), .int (nI ((kOpT F L h (L (F 1 h)) i) 3 (gt (L (F 1 h)) i))), .int (nI ((kOpT F L h (L (F 1 h)) i) 4 (gt (L (F 1 h)) i))), .ref ((kOpT F L h (L (F 1 h)) i) 5 (gt (L (F 1 h)) i))])) ∈ ws_3 := hC.at hk_10 (by decide) (by decide)
    refine va_castE hx hb hown (hts (.classLink RX8 47 "TenderHall$Tender") (List.mem_of_getElem? (i := 2) rfl)) (c_recv hK hP (ci := 8) rfl hm_11) dX8_openTenders_21 ?_
    refine lv_astore_n (lv' := [(2, .ref (gt (L (F 1 h)) i)), (0, .ref h), (1, .int (nI i))]) hx hb dX8_openTenders_24 rfl hl (by decide) rfl (fun ls hl => ?_)
    refine lv_aload_n hx hb dX8_openTenders_25 rfl (lv_at hl 0 rfl) ?_
    refine c_get (C := RX7) (T := TX7) (N := 6) hx hb hts hin_X7 hown hK hP hm_11 rfl 1 (by decide) l_255 (fun _ h9 => h9) rfl dX8_openTenders_26 ?_
    have hn_12 : (kOpT F L h (L (F 1 h)) i) 1 (gt (L (F 1 h)) i) < 1001 := hW.num (f := 1) hk_10 rfl (by decide)
    refine lv_aload_n hx hb dX8_openTenders_29 rfl (lv_at hl 1 rfl) ?_
    refine c_get (C := RX8) (T := TX8) (N := 6) hx hb hts hin_X8 hown hK hP hm_4 rfl 5 (by decide) l_29 (fun _ h9 => h9) rfl dX8_openTenders_30 ?_
    have hn_13 : F 5 h < 2001 := by have q9 := hW.num (f := 5) hk_h rfl (by decide); rw [show (kOpT F L h (L (F 1 h)) i) 5 h = F 5 h from (fun f9 => kOpT_kd hW0 hv8 hk_h (by decide) _ (by omega)) 5] at q9; exact q9
    refine n_icmp_ne (tgt := 41) hx hb dX8_openTenders_33 (by decide) (by omega) (by omega) (fun c_14 => ?_) (fun c_14 => ?_)
    · refine n_iinc (k := 2) (lv' := [(1, .int (nI (i + 1))), (2, .ref (gt (L (F 1 h)) i)), (0, .ref h)]) hx hb dX8_openTenders_41 hl rfl (by decide) rfl (fun ls hl => ?_)
      refine lv_goto (tgt := 2) hx hb dX8_openTenders_44 (by decide) ?_
      have eF_15 : kOpT F L h (L (F 1 h)) (i + 1) = kOpT F L h (L (F 1 h)) i := by rw [kOpT]; first | exact if_pos (by omega) | exact if_neg (by omega)
      refine ih_1 (by omega) ws_3 _ _ ⟨by rw [eF_15]; exact hC, by rw [eF_15]; exact hW, hD, hP, hS⟩ ls ?_
      exact lv_sub hl [2, 0] rfl
    · refine lv_aload_n hx hb dX8_openTenders_36 rfl (lv_at hl 1 rfl) ?_
      refine lv_aload_n hx hb dX8_openTenders_37 rfl (lv_at hl 0 rfl) ?_
      refine va_callv (va_runV (As := [.ref (gt (L (F 1 h)) i)]) (rest := []) ⟨hx, hb, hml, hown, hts⟩ (cv_openLots l D cI cO cb eA mi st ws_3 hD hC hW hs h hk_h (gt (L (F 1 h)) i) hk_10) (cwV 1 hts gX8_openTenders_X8_openLots rfl rfl rfl kd_X8_openLots ⟨Nat.le_of_ble_eq_true rfl, Nat.le_of_ble_eq_true rfl⟩) ⟨cB_blind, c_recv hK hP rfl hm_4, cB_pre hK hG hA hS hP _⟩ rfl rfl hl.1 rfl (lv_room (Nat.le_of_ble_eq_true rfl)) dX8_openTenders_38 ⟨Nat.le_of_ble_eq_true rfl, Nat.le_of_ble_eq_true rfl⟩) hS (fun _ _ h => h) (fun _ h => h) (fun uw_16 U8 H1 locs1 ht hvm hu hB hz1 hk1 hS1 => ?_)
      obtain ⟨hC, hW, hD⟩ := hu
      rw [ht] at hB
      clear hS
      have hS := hS1
      replace hP := hB
      generalize H1 = H at hP hS ⊢
      refine n_iinc (k := 2) (lv' := [(1, .int (nI (i + 1))), (2, .ref (gt (L (F 1 h)) i)), (0, .ref h)]) hx hb dX8_openTenders_41 hl rfl (by decide) rfl (fun ls hl => ?_)
      refine lv_goto (tgt := 2) hx hb dX8_openTenders_44 (by decide) ?_
      have eF_17 : kOpT F L h (L (F 1 h)) (i + 1) = kOpT1 (kOpT F L h (L (F 1 h)) i) L h (gt (L (F 1 h)) i) := by rw [kOpT]; first | exact if_pos (by omega) | exact if_neg (by omega)
      refine ih_1 (by omega) uw_16 _ _ ⟨by rw [eF_17]; exact hC, by rw [eF_17]; exact hW, hD, hP, hS⟩ ls ?_
      exact lv_sub hl [2, 0] rfl
