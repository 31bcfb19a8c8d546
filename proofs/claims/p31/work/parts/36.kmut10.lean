/-! the class: uphold, rule -/
/-- the complaints about w that are open, among the first of vs, become moot -/
def kMoot (F : Nat → Nat → Nat) (vs : List Nat) (w : Nat) : Nat → Nat → Nat → Nat
  | 0 => F
  | i + 1 => if kMoot F vs w i 1 (gt vs i) = w ∧ kMoot F vs w i 3 (gt vs i) = 0 then up2 (kMoot F vs w i) 3 (gt vs i) 3 else kMoot F vs w i
theorem kMoot_nf {F : Nat → Nat → Nat} {vs : List Nat} {w f b : Nat} (h3 : f ≠ 3) : ∀ i, kMoot F vs w i f b = F f b
  | 0 => rfl
  | i + 1 => by
    rw [kMoot]
    split
    · rw [up2_nf h3]; exact kMoot_nf h3 i
    · exact kMoot_nf h3 i
theorem kMoot_ne {F : Nat → Nat → Nat} {vs : List Nat} {w f b : Nat} (hb : b ∉ vs) : ∀ i, i ≤ vs.length → kMoot F vs w i f b = F f b
  | 0, _ => rfl
  | i + 1, hi => by
    rw [kMoot]
    split
    · rw [up2_ne (fun e => hb (by rw [e]; exact gt_mem (by omega)))]; exact kMoot_ne hb i (by omega)
    · exact kMoot_ne hb i (by omega)
theorem notin_kd {kd : Nat → Nat} {F : Nat → Nat → Nat} {L : Nat → List Nat} (hW : WF kd F L) {a b k k2 : Nat} (ha : kd a = k + 20) (hb : kd b = k2) (h : k2 ≠ k) : b ∉ L a := by
  intro q
  have := (hW.2.2 a (by omega)).2.2.2 b q
  omega
theorem ne_q {kd : Nat → Nat} {q a k : Nat} (hq : kd q = 0) (h : kd a = k) (h0 : k ≠ 0) : a ≠ q := fun e9 => h0 (by rw [← h, e9]; exact hq)
def kUpF (F : Nat → Nat → Nat) (L : Nat → List Nat) (h z : Nat) : Nat → Nat → Nat := kMoot (up2 F 3 z 1) (L (F 3 h)) (F 1 z) (L (F 3 h)).length
def kUpB (F : Nat → Nat → Nat) (z w : Nat) : Nat := if F 2 z = 2 then F 0 z else F 0 (F 2 w)
def pUp (cI cO : ClassId) (eA : Nat) (st kd : Nat → Nat) (F : Nat → Nat → Nat) (L : Nat → List Nat) (A : Nat → Prop) (h z x : Nat) (ri : Int32) (u : va_W × (Nat → Nat) × Nat) : Prop := ∃ q, kd q = 0 ∧ pSB cI cO eA st (kdN kd q 4) (FN (kUpF F L h z) q [kUpF F L h z 2 z, kUpB (kUpF F L h z) z (F 1 z), x]) L A h (F 1 z) q ri u
set_option maxHeartbeats 4000000 in
set_option maxRecDepth 100000 in
theorem cv_uphold (l : Launch) (D : va_G) (cI cO cb : ClassId) (eA mi : Nat) (st : Nat → Nat) {A : Nat → Prop} (ws : va_W) (hD : va_D A ws) {own kd : Nat → Nat} {F : Nat → Nat → Nat} {L : Nat → List Nat} (hC : CW cI cO eA st own kd F L ws) (hW : WF kd F L) (hs : sInj st)  (h : Nat) (hk_h : kd h = 9) (z : Nat) (hk_z : kd z = 5) (x : Nat) (hx101 : x < 101) (hlen : (L (F 2 h)).length < 60) (hlen2 : (L (F 4 (F 1 (F 1 z)))).length < 60) : Met l yX8_uphold wsX8_uphold ({ frames := 9, cells := 4, slots := 202, locals := 236 }) (va_Pc [.ref h, .ref z, .int (nI x)] (cB D cI cO cb eA mi st A ws)) (va_Qi (fun (ri : Int32) (u : va_W × (Nat → Nat) × Nat) => pUp cI cO eA st kd F L A h z x ri u) (fun u U9 => va_P D vwCl u.1 U9.heap) A) 4 202 A := by
  refine Met.ofW (cc := cX8_uphold) (maxL := 6) (ret := (some .int)) (by decide) rfl ?_
  intro p e s m args below meth c s₁ B hml hv
  obtain ⟨rfl, hP, hK, hG, hA⟩ := hv
  have hx := B.exec
  have hb := B.bytes
  have hr := B.returns
  have hts := atoms_spec (ws := wsX8_uphold) B.pre
  have hown : s.vm.findClass RX8 = some m.cls := findClass_of_methodNamed B.named
  have hlocks := B.notSynchronized
  have hin_X0 : ∀ w ∈ wsX00, w ∈ wsX8_uphold := fun w h => List.mem_cons_of_mem _ (List.mem_append_left _ (List.mem_append_left _ (List.mem_append_left _ (List.mem_append_left _ (List.mem_append_left _ (List.mem_append_right _ h))))))
  have hin_X1 : ∀ w ∈ wsX10, w ∈ wsX8_uphold := fun w h => List.mem_cons_of_mem _ (List.mem_append_left _ (List.mem_append_left _ (List.mem_append_left _ (List.mem_append_left _ (List.mem_append_right _ h)))))
  have hin_X2 : ∀ w ∈ wsX20, w ∈ wsX8_uphold := fun w h => List.mem_cons_of_mem _ (List.mem_append_left _ (List.mem_append_left _ (List.mem_append_left _ (List.mem_append_right _ h))))
  have hin_X3 : ∀ w ∈ wsX30, w ∈ wsX8_uphold := fun w h => List.mem_cons_of_mem _ (List.mem_append_left _ (List.mem_append_left _ (List.mem_append_left _ (List.mem_append_left _ (List.mem_append_left _ (List.mem_append_left _ (List.mem_append_left _ (List.mem_append_right _ h))))))))
  have hin_X8 : ∀ w ∈ wsX80, w ∈ wsX8_uphold := fun w h => List.mem_cons_of_mem _ (List.mem_append_left _ (List.mem_append_left _ (List.mem_append_left _ (List.mem_append_left _ (List.mem_append_left _ (List.mem_append_left _ (List.mem_append_right _ h)))))))
  have l_213 := (hts (.fieldLink RX8 213 "TenderHall$Complaint" "award" "LTenderHall$Award;") (List.mem_of_getElem? (i := 1) rfl))
  have l_200 := (hts (.fieldLink RX8 200 "TenderHall$Complaint" "state" "I") (List.mem_of_getElem? (i := 2) rfl))
  have l_23 := (hts (.fieldLink RX8 23 "TenderHall" "complaints" "Ljava/util/ArrayList;") (List.mem_of_getElem? (i := 3) rfl))
  have l_311 := (hts (.fieldLink RX8 311 "TenderHall$Complaint" "ground" "I") (List.mem_of_getElem? (i := 5) rfl))
  have l_152 := (hts (.fieldLink RX8 152 "TenderHall$Award" "bid" "LTenderHall$Bid;") (List.mem_of_getElem? (i := 7) rfl))
  have l_156 := (hts (.fieldLink RX8 156 "TenderHall$Bid" "bidder" "I") (List.mem_of_getElem? (i := 8) rfl))
  have l_310 := (hts (.fieldLink RX8 310 "TenderHall$Complaint" "bidder" "I") (List.mem_of_getElem? (i := 6) rfl))
  have hS : va_S A s.heap s.heap [] := va_S.rf
  have hD0 := hD
  have hl := lv_entry ([.ref h, .ref z, .int (nI x)]) (n := 6) (Nat.le_of_ble_eq_true rfl)
  rw [lg_entry_eq]
  generalize (lg_sl ([.ref h, .ref z, .int (nI x)]) ++ List.replicate (6 - (lg_sl ([.ref h, .ref z, .int (nI x)])).length) Slot.unset).toArray = ls at hl ⊢
  have hl : lv_has ls 6 [(0, .ref h), (1, .ref z), (2, .int (nI x))] := hl
  have hk3 : kd (F 3 h) = 25 := hW.ref hk_h rfl (by decide)
  have hl3 : (L (F 3 h)).length ≤ 60 := hW.len hk3 (by decide)
  have hnh : h ∉ L (F 3 h) := notin_kd hW hk3 hk_h (by decide)
  have hhz : h ≠ z := fun e9 => absurd ((hk_h.symm.trans (congrArg kd e9)).trans hk_z) (by decide)
  have hkw : kd (F 1 z) = 2 := hW.ref hk_z rfl (by decide)
  have hkl : kd (F 1 (F 1 z)) = 7 := hW.ref hkw rfl (by decide)
  refine lv_aload_n hx hb dX8_uphold_0 rfl (lv_at hl 1 rfl) ?_
  have hm_1 : (z, .inr (5, [.int (nI (F 0 z)), .ref (F 1 z), .int (nI (F 2 z)), .int (nI (F 3 z)), .int (nI (F 4 z)), .int (nI (F 5 z))])) ∈ ws := hC.at hk_z (by decide) (by decide)
  refine c_get (C := RX3) (T := TX3) (N := 6) hx hb hts hin_X3 hown hK hP hm_1 rfl 1 (by decide) l_213 (fun _ h9 => h9) rfl dX8_uphold_1 ?_
  have hk_2 : kd (F 1 z) = 2 := hW.ref (f := 1) hk_z rfl (by decide)
  refine lv_astore_n (lv' := [(3, .ref (F 1 z)), (0, .ref h), (1, .ref z), (2, .int (nI x))]) hx hb dX8_uphold_4 rfl hl (by decide) rfl (fun ls hl => ?_)
  refine lv_aload_n hx hb dX8_uphold_5 rfl (lv_at hl 2 rfl) ?_
  refine lv_iconst (v := nI 1) hx hb dX8_uphold_6 (by decide) ?_
  have hC9 := hC.put (f := 3) (v := 1) (x := .inr (5, [.int (nI (F 0 z)), .ref (F 1 z), .int (nI (F 2 z)), .int (nI 1), .int (nI (F 4 z)), .int (nI (F 5 z))])) hD hk_z (by decide) (by decide) (by simp [ent, up2])
  have hW9 := hW.put (f := 3) (v := 1) hk_z (Or.inr (by show 1 < 4; omega)) (Or.inl rfl)
  refine c_put (C := RX3) (T := TX3) (N := 6) (v := .int (nI 1)) (ty := .int) (fs2 := [.int (nI (F 0 z)), .ref (F 1 z), .int (nI (F 2 z)), .int (nI 1), .int (nI (F 4 z)), .int (nI (F 5 z))]) hx hb hts hin_X3 tyX3 tyX3_ok nmX3 hown hK hP hD hS hm_1 rfl 3 (by decide) l_200 (fun _ h9 => h9) rfl (by decide +kernel) rfl rfl (Nat.le_of_ble_eq_true rfl) rfl dX8_uphold_7 (fun H locs hP hD hS => ?_)
  replace hC := hC9
  replace hW := hW9
  clear hC9 hW9
  refine lv_iconst (v := nI 0) hx hb dX8_uphold_10 (by decide) ?_
  refine lv_istore (lv' := [(4, .int (nI 0)), (3, .ref (F 1 z)), (0, .ref h), (1, .ref z), (2, .int (nI x))]) hx hb dX8_uphold_11 hl (by decide) rfl (fun ls hl => ?_)
  refine w_loopX (σ := va_W) (n := (L (F 3 h)).length) (nL := 6) (fun i _ => [(0, .ref h), (1, .ref z), (2, .int (nI x)), (3, .ref (F 1 z)), (4, .int (nI i))]) (fun i x9 H locs => CW cI cO eA st own kd (kMoot (up2 F 3 z 1) (L (F 3 h)) (F 1 z) i) L x9 ∧ WF kd (kMoot (up2 F 3 z 1) (L (F 3 h)) (F 1 z) i) L ∧ va_D A x9 ∧ va_P D vwCl x9 H ∧ va_S A s.heap H locs) (fun _ => 0) (fun _ => 0) (fun i hb_4 ws_5 H locs hJ9 ih_3 ls hl => ?_) 0 (Nat.zero_le _) (wup ws z (.inr (5, [.int (nI (F 0 z)), .ref (F 1 z), .int (nI (F 2 z)), .int (nI 1), .int (nI (F 4 z)), .int (nI (F 5 z))]))) _ _ ⟨hC, hW, hD, hP, hS⟩ ls (lv_sub hl [2, 3, 4, 1, 0] rfl)
  clear hC hW hD hP hS
  obtain ⟨hC, hW, hD, hP, hS⟩ := hJ9
  refine lv_iload hx hb dX8_uphold_13 (lv_at hl 4 rfl) ?_
  refine lv_aload_n hx hb dX8_uphold_15 rfl (lv_at hl 0 rfl) ?_
  have hm_6 : (h, .inr (9, [.ref (F 0 h), .ref (F 1 h), .ref (F 2 h), .ref (F 3 h), .ref (F 4 h), .int (nI (F 5 h))])) ∈ ws_5 := by have q9 := hC.at hk_h (by decide) (by decide); rw [ent_congr (G := F) (fun f9 => (kMoot_ne hnh _ (by omega)).trans (up2_ne hhz))] at q9; exact q9
  refine c_get (C := RX8) (T := TX8) (N := 6) hx hb hts hin_X8 hown hK hP hm_6 rfl 3 (by decide) l_23 (fun _ h9 => h9) rfl dX8_uphold_16 ?_
  obtain ⟨fs_hm_7, hm_7⟩ := hC.obj hk3 (by decide)
  refine vp_callSi (W.runV (As := []) (rest := [.int (nI i)]) ⟨hx, hb, hml, hown, hts⟩ ((cl_size l D cI cO cb eA mi st ws_5 hD (F 3 h) (L (F 3 h)) (hC.lst hk3 (by decide)))) (cwV 0 hts gX8_uphold_Jx4a65c_size_8abf5 rfl rfl rfl kd_Jx4a65c_size_8abf5 ⟨Nat.le_of_ble_eq_true rfl, Nat.le_of_ble_eq_true rfl⟩) ⟨cB_blind, c_recv hK hP rfl hm_7, cB_pre hK hG hA hS hP _⟩ rfl rfl hl.1 rfl (lv_room (Nat.le_of_ble_eq_true rfl)) dX8_uphold_19 ⟨Nat.le_of_ble_eq_true rfl, Nat.le_of_ble_eq_true rfl⟩) (fun r_8 hr_8 => ?_)
  subst hr_8
  refine n_icmp_ge (tgt := 68) hx hb dX8_uphold_22 (by decide) (by omega) (by omega) (fun c_9 => ?_) (fun c_9 => ?_)
  · obtain ⟨G, hGe⟩ : ∃ G, G = kUpF F L h z := ⟨_, rfl⟩
    have hGi : kMoot (up2 F 3 z 1) (L (F 3 h)) (F 1 z) i = G := by rw [hGe]; unfold kUpF; rw [show (L (F 3 h)).length = i by omega]
    rw [hGi] at hC hW
    have eGh : ∀ f, G f h = F f h := fun f9 => by rw [← hGi]; exact (kMoot_ne hnh _ (by omega)).trans (up2_ne hhz)
    have eGn : ∀ f b, f ≠ 3 → G f b = F f b := fun f9 b9 h9 => by rw [← hGi]; exact (kMoot_nf h9 _).trans (up2_nf h9)
    refine lv_aload_n hx hb dX8_uphold_68 rfl (lv_at hl 1 rfl) ?_
    have hm_10 : (z, .inr (5, [.int (nI (G 0 z)), .ref (G 1 z), .int (nI (G 2 z)), .int (nI (G 3 z)), .int (nI (G 4 z)), .int (nI (G 5 z))])) ∈ ws_5 := hC.at hk_z (by decide) (by decide)
    refine c_get (C := RX3) (T := TX3) (N := 6) hx hb hts hin_X3 hown hK hP hm_10 rfl 2 (by decide) l_311 (fun _ h9 => h9) rfl dX8_uphold_69 ?_
    have hn_11 : G 2 z < 3 := hW.num (f := 2) hk_z rfl (by decide)
    refine lv_iconst (v := nI 2) hx hb dX8_uphold_72 (by decide) ?_
    refine n_icmp_ne (tgt := 83) hx hb dX8_uphold_73 (by decide) (by omega) (by decide) (fun c_12 => ?_) (fun c_12 => ?_)
    · refine lv_aload_n hx hb dX8_uphold_83 rfl (lv_at hl 3 rfl) ?_
      have hm_13 : (F 1 z, .inr (2, [.int (nI (G 0 (F 1 z))), .ref (G 1 (F 1 z)), .ref (G 2 (F 1 z)), .int (nI (G 3 (F 1 z))), .int (nI (G 4 (F 1 z))), .int (nI (G 5 (F 1 z))), .int (nI (G 6 (F 1 z)))])) ∈ ws_5 := hC.at hk_2 (by decide) (by decide)
      refine c_get (C := RX0) (T := TX0) (N := 7) hx hb hts hin_X0 hown hK hP hm_13 rfl 2 (by decide) l_152 (fun _ h9 => h9) rfl dX8_uphold_84 ?_
      have hk_14 : kd (G 2 (F 1 z)) = 3 := hW.ref (f := 2) hk_2 rfl (by decide)
      have hm_15 : (G 2 (F 1 z), .inr (3, [.int (nI (G 0 (G 2 (F 1 z)))), .int (nI (G 1 (G 2 (F 1 z)))), .int (nI (G 2 (G 2 (F 1 z)))), .int (nI (G 3 (G 2 (F 1 z)))), .ref (st (G 4 (G 2 (F 1 z)))), .ref (st (G 5 (G 2 (F 1 z))))])) ∈ ws_5 := hC.at hk_14 (by decide) (by decide)
      refine c_get (C := RX1) (T := TX1) (N := 6) hx hb hts hin_X1 hown hK hP hm_15 rfl 0 (by decide) l_156 (fun _ h9 => h9) rfl dX8_uphold_87 ?_
      have hn_16 : G 0 (G 2 (F 1 z)) < 8 := hW.num (f := 0) hk_14 rfl (by decide)
      refine lv_istore (lv' := [(4, .int (nI (G 0 (G 2 (F 1 z))))), (0, .ref h), (1, .ref z), (2, .int (nI x)), (3, .ref (F 1 z))]) hx hb dX8_uphold_90 hl (by decide) rfl (fun ls hl => ?_)
      refine lv_aload_n hx hb dX8_uphold_92 rfl (lv_at hl 1 rfl) ?_
      refine lv_aload_n hx hb dX8_uphold_93 rfl (lv_at hl 4 rfl) ?_
      have hC0 := hC
      refine va_new (ci := 4) (fs := [.int (nI 0), .int (nI 0), .int (nI 0)]) hx hb hts hin_X2 tyX2 tyX2_ok hown (hts (.classLink RX8 273 RX2) (List.mem_of_getElem? (i := 9) rfl)) (hts (.instantiable RX2 3) (List.mem_of_getElem? (i := 10) rfl)) (hts (.initialized RX2) (List.mem_of_getElem? (i := 11) rfl)) hK hP hD hS hA rfl (fun j9 h9 => by rcases j9 with _ | _ | _ | j9 <;> first | rfl | omega) (Nat.le_of_ble_eq_true rfl) (Nat.le_of_ble_eq_true rfl) dX8_uphold_94 (fun q H hP hD hS => ?_)
      have hq0 := hC0.fresh hD
      have hC := hC0.app (ws2 := [(q, .inr (4, [.int (nI 0), .int (nI 0), .int (nI 0)]))])
      have hq1 : (q, .inr (4, [.int (nI 0), .int (nI 0), .int (nI 0)])) ∈ (ws_5 ++ [(q, .inr (4, [.int (nI 0), .int (nI 0), .int (nI 0)]))]) := List.mem_append_right _ (List.mem_singleton.mpr rfl)
      refine lv_dup hx hb dX8_uphold_97 rfl ?_
      refine lv_aload_n hx hb dX8_uphold_98 rfl (lv_at hl 2 rfl) ?_
      have hm_17 : (z, .inr (5, [.int (nI (G 0 z)), .ref (G 1 z), .int (nI (G 2 z)), .int (nI (G 3 z)), .int (nI (G 4 z)), .int (nI (G 5 z))])) ∈ (ws_5 ++ [(q, .inr (4, [.int (nI 0), .int (nI 0), .int (nI 0)]))]) := hC.at hk_z (by decide) (by decide)
      refine c_get (C := RX3) (T := TX3) (N := 6) hx hb hts hin_X3 hown hK hP hm_17 rfl 2 (by decide) l_311 (fun _ h9 => h9) rfl dX8_uphold_99 ?_
      refine lv_iload hx hb dX8_uphold_102 (lv_at hl 0 rfl) ?_
      refine lv_iload_n hx hb dX8_uphold_104 rfl (lv_at hl 3 rfl) ?_
      refine va_callv (va_runI (As := [.int (nI (G 2 z)), .int (nI (G 0 (G 2 (F 1 z)))), .int (nI x)]) (rest := [.ref q, .ref (F 1 z), .ref h]) ⟨hx, hb, hml, hown, hts⟩ (ci_X2 l D cI cO cb eA mi st (ws_5 ++ [(q, .inr (4, [.int (nI 0), .int (nI 0), .int (nI 0)]))]) hD q hq1 (G 2 z) (G 0 (G 2 (F 1 z))) x) (cwI 3 hts ggX8_uphold_X2_init rfl rfl rfl (hts (.initialized RX2) (List.mem_of_getElem? (i := 11) rfl)) (hts (.methodLink RX8 275 yX2_init) (List.mem_of_getElem? (i := 35) rfl)) (hts (.instanceMethod yX2_init) (List.mem_of_getElem? (i := 36) rfl)) rfl kd_X2_init ⟨Nat.le_of_ble_eq_true rfl, Nat.le_of_ble_eq_true rfl⟩) ⟨cB_blind, cB_pre hK hG hA hS hP _⟩ rfl rfl hl.1 rfl (lv_room (Nat.le_of_ble_eq_true rfl)) dX8_uphold_105 ⟨Nat.le_of_ble_eq_true rfl, Nat.le_of_ble_eq_true rfl⟩) hS (fun _ _ h => h) (fun _ h => h) (fun u U8 H1 locs1 ht hvm hu hB hz1 hk1 hS1 => ?_)
      obtain ⟨hD1, hB⟩ := hB
      rw [ht] at hB
      clear hS
      have hS := hS1
      replace hP := hB
      replace hD := hD1
      generalize H1 = H at hP hS ⊢
      rw [wup_app hD] at hP hD
      have hC := hC0.new (k := 4) (vals := [G 2 z, G 0 (G 2 (F 1 z)), x]) hD (by decide) (by simp [ent, FN])
      have hr9 : ∀ f9, rg 4 f9 = 0 ∨ ([G 2 z, G 0 (G 2 (F 1 z)), x] : List Nat).getD f9 0 < rg 4 f9 := by
        intro f9
        rcases f9 with _ | _ | _ | f9
        · exact Or.inr (show G 2 z < 3 by omega)
        · exact Or.inr (show G 0 (G 2 (F 1 z)) < 8 by omega)
        · exact Or.inr (show x < 101 by omega)
        · exact Or.inl rfl
      have hr8 : ∀ f9, rk 4 f9 = 0 ∨ kd (([G 2 z, G 0 (G 2 (F 1 z)), x] : List Nat).getD f9 0) = rk 4 f9 := by
        intro f9
        rcases f9 with _ | _ | _ | f9
        · exact Or.inl rfl
        · exact Or.inl rfl
        · exact Or.inl rfl
        · exact Or.inl rfl
      have hW := hW.new (k := 4) hq0 (by decide) hr9 hr8
      have hm_18 : (h, .inr (9, [.ref (F 0 h), .ref (F 1 h), .ref (F 2 h), .ref (F 3 h), .ref (F 4 h), .int (nI (F 5 h))])) ∈ ws_5 ++ [(q, .inr (4, [.int (nI (G 2 z)), .int (nI (G 0 (G 2 (F 1 z)))), .int (nI x)]))] := by have q9 := hC.at (kdN_old hq0 hk_h (by decide)) (by decide) (by decide); rw [ent_congr (G := F) (fun f9 => (FN_ne (ne_q hq0 hk_h (by decide))).trans (eGh f9))] at q9; exact q9
      refine va_calli (va_runV (As := [.ref (F 1 z), .ref q]) (rest := []) ⟨hx, hb, hml, hown, hts⟩ (cv_sendBack l D cI cO cb eA mi st (ws_5 ++ [(q, .inr (4, [.int (nI (G 2 z)), .int (nI (G 0 (G 2 (F 1 z)))), .int (nI x)]))]) hD hC hW hs h (kdN_old hq0 hk_h (by decide)) (F 1 z) (kdN_old hq0 hk_2 (by decide)) q kdN_eq (by rw [FN_ne (ne_q hq0 hk_h (by decide)), eGh]; exact hlen) (by rw [FN_ne (ne_q hq0 hkw (by decide)), eGn 1 _ (by decide), FN_ne (ne_q hq0 hkl (by decide)), eGn 4 _ (by decide)]; exact hlen2)) (cwV 2 hts gX8_uphold_X8_sendBack rfl rfl rfl kd_X8_sendBack ⟨Nat.le_of_ble_eq_true rfl, Nat.le_of_ble_eq_true rfl⟩) ⟨cB_blind, c_recv hK hP rfl hm_18, cB_pre hK hG hA hS hP _⟩ rfl rfl hl.1 rfl (lv_room (Nat.le_of_ble_eq_true rfl)) dX8_uphold_108 ⟨Nat.le_of_ble_eq_true rfl, Nat.le_of_ble_eq_true rfl⟩) hS (fun _ _ h => h) (fun _ h => h) (fun ri u U8 H1 locs1 ht hvm hu hB hz1 hk1 hS1 => ?_)
      rw [ht] at hB
      clear hS
      have hS := hS1
      replace hP := hB
      generalize H1 = H at hP hS ⊢
      refine W.widen (k := 4) (n := 202) (by omega) (by omega) ?_
      exact W.iret (v := ri) hx hb hr (fun U9 ht hW9 => ⟨⟨_, u, rfl, ⟨q, hq0, by rw [← hGe]; first | (rw [show kUpB G z (F 1 z) = _ from if_pos (by assumption)]; exact hu) | (rw [show kUpB G z (F 1 z) = _ from if_neg (by assumption)]; exact hu)⟩, by show va_P D vwCl _ U9.heap; rw [ht]; exact hP⟩, hS.F ht⟩) hS.2.2 dX8_uphold_111
    · refine lv_aload_n hx hb dX8_uphold_76 rfl (lv_at hl 1 rfl) ?_
      refine c_get (C := RX3) (T := TX3) (N := 6) hx hb hts hin_X3 hown hK hP hm_10 rfl 0 (by decide) l_310 (fun _ h9 => h9) rfl dX8_uphold_77 ?_
      have hn_19 : G 0 z < 8 := hW.num (f := 0) hk_z rfl (by decide)
      refine lv_goto (tgt := 90) hx hb dX8_uphold_80 (by decide) ?_
      refine lv_istore (lv' := [(4, .int (nI (G 0 z))), (0, .ref h), (1, .ref z), (2, .int (nI x)), (3, .ref (F 1 z))]) hx hb dX8_uphold_90 hl (by decide) rfl (fun ls hl => ?_)
      refine lv_aload_n hx hb dX8_uphold_92 rfl (lv_at hl 1 rfl) ?_
      refine lv_aload_n hx hb dX8_uphold_93 rfl (lv_at hl 4 rfl) ?_
      have hC0 := hC
      refine va_new (ci := 4) (fs := [.int (nI 0), .int (nI 0), .int (nI 0)]) hx hb hts hin_X2 tyX2 tyX2_ok hown (hts (.classLink RX8 273 RX2) (List.mem_of_getElem? (i := 9) rfl)) (hts (.instantiable RX2 3) (List.mem_of_getElem? (i := 10) rfl)) (hts (.initialized RX2) (List.mem_of_getElem? (i := 11) rfl)) hK hP hD hS hA rfl (fun j9 h9 => by rcases j9 with _ | _ | _ | j9 <;> first | rfl | omega) (Nat.le_of_ble_eq_true rfl) (Nat.le_of_ble_eq_true rfl) dX8_uphold_94 (fun q H hP hD hS => ?_)
      have hq0 := hC0.fresh hD
      have hC := hC0.app (ws2 := [(q, .inr (4, [.int (nI 0), .int (nI 0), .int (nI 0)]))])
      have hq1 : (q, .inr (4, [.int (nI 0), .int (nI 0), .int (nI 0)])) ∈ (ws_5 ++ [(q, .inr (4, [.int (nI 0), .int (nI 0), .int (nI 0)]))]) := List.mem_append_right _ (List.mem_singleton.mpr rfl)
      refine lv_dup hx hb dX8_uphold_97 rfl ?_
      refine lv_aload_n hx hb dX8_uphold_98 rfl (lv_at hl 2 rfl) ?_
      have hm_20 : (z, .inr (5, [.int (nI (G 0 z)), .ref (G 1 z), .int (nI (G 2 z)), .int (nI (G 3 z)), .int (nI (G 4 z)), .int (nI (G 5 z))])) ∈ (ws_5 ++ [(q, .inr (4, [.int (nI 0), .int (nI 0), .int (nI 0)]))]) := hC.at hk_z (by decide) (by decide)
      refine c_get (C := RX3) (T := TX3) (N := 6) hx hb hts hin_X3 hown hK hP hm_20 rfl 2 (by decide) l_311 (fun _ h9 => h9) rfl dX8_uphold_99 ?_
      refine lv_iload hx hb dX8_uphold_102 (lv_at hl 0 rfl) ?_
      refine lv_iload_n hx hb dX8_uphold_104 rfl (lv_at hl 3 rfl) ?_
      refine va_callv (va_runI (As := [.int (nI (G 2 z)), .int (nI (G 0 z)), .int (nI x)]) (rest := [.ref q, .ref (F 1 z), .ref h]) ⟨hx, hb, hml, hown, hts⟩ (ci_X2 l D cI cO cb eA mi st (ws_5 ++ [(q, .inr (4, [.int (nI 0), .int (nI 0), .int (nI 0)]))]) hD q hq1 (G 2 z) (G 0 z) x) (cwI 3 hts ggX8_uphold_X2_init rfl rfl rfl (hts (.initialized RX2) (List.mem_of_getElem? (i := 11) rfl)) (hts (.methodLink RX8 275 yX2_init) (List.mem_of_getElem? (i := 35) rfl)) (hts (.instanceMethod yX2_init) (List.mem_of_getElem? (i := 36) rfl)) rfl kd_X2_init ⟨Nat.le_of_ble_eq_true rfl, Nat.le_of_ble_eq_true rfl⟩) ⟨cB_blind, cB_pre hK hG hA hS hP _⟩ rfl rfl hl.1 rfl (lv_room (Nat.le_of_ble_eq_true rfl)) dX8_uphold_105 ⟨Nat.le_of_ble_eq_true rfl, Nat.le_of_ble_eq_true rfl⟩) hS (fun _ _ h => h) (fun _ h => h) (fun u U8 H1 locs1 ht hvm hu hB hz1 hk1 hS1 => ?_)
      obtain ⟨hD1, hB⟩ := hB
      rw [ht] at hB
      clear hS
      have hS := hS1
      replace hP := hB
      replace hD := hD1
      generalize H1 = H at hP hS ⊢
      rw [wup_app hD] at hP hD
      have hC := hC0.new (k := 4) (vals := [G 2 z, G 0 z, x]) hD (by decide) (by simp [ent, FN])
      have hr9 : ∀ f9, rg 4 f9 = 0 ∨ ([G 2 z, G 0 z, x] : List Nat).getD f9 0 < rg 4 f9 := by
        intro f9
        rcases f9 with _ | _ | _ | f9
        · exact Or.inr (show G 2 z < 3 by omega)
        · exact Or.inr (show G 0 z < 8 by omega)
        · exact Or.inr (show x < 101 by omega)
        · exact Or.inl rfl
      have hr8 : ∀ f9, rk 4 f9 = 0 ∨ kd (([G 2 z, G 0 z, x] : List Nat).getD f9 0) = rk 4 f9 := by
        intro f9
        rcases f9 with _ | _ | _ | f9
        · exact Or.inl rfl
        · exact Or.inl rfl
        · exact Or.inl rfl
        · exact Or.inl rfl
      have hW := hW.new (k := 4) hq0 (by decide) hr9 hr8
      have hm_21 : (h, .inr (9, [.ref (F 0 h), .ref (F 1 h), .ref (F 2 h), .ref (F 3 h), .ref (F 4 h), .int (nI (F 5 h))])) ∈ ws_5 ++ [(q, .inr (4, [.int (nI (G 2 z)), .int (nI (G 0 z)), .int (nI x)]))] := by have q9 := hC.at (kdN_old hq0 hk_h (by decide)) (by decide) (by decide); rw [ent_congr (G := F) (fun f9 => (FN_ne (ne_q hq0 hk_h (by decide))).trans (eGh f9))] at q9; exact q9
      refine va_calli (va_runV (As := [.ref (F 1 z), .ref q]) (rest := []) ⟨hx, hb, hml, hown, hts⟩ (cv_sendBack l D cI cO cb eA mi st (ws_5 ++ [(q, .inr (4, [.int (nI (G 2 z)), .int (nI (G 0 z)), .int (nI x)]))]) hD hC hW hs h (kdN_old hq0 hk_h (by decide)) (F 1 z) (kdN_old hq0 hk_2 (by decide)) q kdN_eq (by rw [FN_ne (ne_q hq0 hk_h (by decide)), eGh]; exact hlen) (by rw [FN_ne (ne_q hq0 hkw (by decide)), eGn 1 _ (by decide), FN_ne (ne_q hq0 hkl (by decide)), eGn 4 _ (by decide)]; exact hlen2)) (cwV 2 hts gX8_uphold_X8_sendBack rfl rfl rfl kd_X8_sendBack ⟨Nat.le_of_ble_eq_true rfl, Nat.le_of_ble_eq_true rfl⟩) ⟨cB_blind, c_recv hK hP rfl hm_21, cB_pre hK hG hA hS hP _⟩ rfl rfl hl.1 rfl (lv_room (Nat.le_of_ble_eq_true rfl)) dX8_uphold_108 ⟨Nat.le_of_ble_eq_true rfl, Nat.le_of_ble_eq_true rfl⟩) hS (fun _ _ h => h) (fun _ h => h) (fun ri u U8 H1 locs1 ht hvm hu hB hz1 hk1 hS1 => ?_)
      rw [ht] at hB
      clear hS
      have hS := hS1
      replace hP := hB
      generalize H1 = H at hP hS ⊢
      refine W.widen (k := 4) (n := 202) (by omega) (by omega) ?_
      exact W.iret (v := ri) hx hb hr (fun U9 ht hW9 => ⟨⟨_, u, rfl, ⟨q, hq0, by rw [← hGe]; first | (rw [show kUpB G z (F 1 z) = _ from if_pos (by assumption)]; exact hu) | (rw [show kUpB G z (F 1 z) = _ from if_neg (by assumption)]; exact hu)⟩, by show va_P D vwCl _ U9.heap; rw [ht]; exact hP⟩, hS.F ht⟩) hS.2.2 dX8_uphold_111
  · refine lv_aload_n hx hb dX8_uphold_25 rfl (lv_at hl 0 rfl) ?_
    refine c_get (C := RX8) (T := TX8) (N := 6) hx hb hts hin_X8 hown hK hP hm_6 rfl 3 (by decide) l_23 (fun _ h9 => h9) rfl dX8_uphold_26 ?_
    refine lv_iload hx hb dX8_uphold_29 (lv_at hl 4 rfl) ?_
    obtain ⟨fs_hm_22, hm_22⟩ := hC.obj hk3 (by decide)
    refine va_csr (W.runV (As := [.int (nI i)]) (rest := []) ⟨hx, hb, hml, hown, hts⟩ ((cl_get l D cI cO cb eA mi st ws_5 hD (F 3 h) (L (F 3 h)) (hC.lst hk3 (by decide)) i (gt (L (F 3 h)) i) (gt_some (by omega)))) (cwV 1 hts gX8_uphold_Jx4a65c_get_915e3 rfl rfl rfl kd_Jx4a65c_get_915e3 ⟨Nat.le_of_ble_eq_true rfl, Nat.le_of_ble_eq_true rfl⟩) ⟨cB_blind, c_recv hK hP rfl hm_22, cB_pre hK hG hA hS hP _⟩ rfl rfl hl.1 rfl (lv_room (Nat.le_of_ble_eq_true rfl)) dX8_uphold_31 ⟨Nat.le_of_ble_eq_true rfl, Nat.le_of_ble_eq_true rfl⟩) (fun r_23 hr_23 => ?_)
    subst hr_23
    have hk_24 : kd (gt (L (F 3 h)) i) = 5 := hW.el hk3 (by omega)
    have hm_25 : (gt (L (F 3 h)) i, .inr (5, [.int (nI ((kMoot (up2 F 3 z 1) (L (F 3 h)) (F 1 z) i) 0 (gt (L (F 3 h)) i))), .ref ((kMoot (up2 F 3 z 1) (L (F 3 h)) (F 1 z) i) 1 (gt (L (F 3 h)) i)), .int (nI ((kMoot (up2 F 3 z 1) (L (F 3 h)) (F 1 z) i) 2 (gt (L (F 3 h)) i))), .int (nI ((kMoot (up2 F 3 z 1) (L (F 3 h)) (F 1 z) i) 3 (gt (L (F 3 h)) i))), .int (nI ((kMoot (up2 F 3 z 1) (L (F 3 h)) (F 1 z) i) 4 (gt (L (F 3 h)) i))), .int (nI ((kMoot (up2 F 3 z 1) (L (F 3 h)) (F 1 z) i) 5 (gt (L (F 3 h)) i)))])) ∈ ws_5 := hC.at hk_24 (by decide) (by decide)
    refine va_castE hx hb hown (hts (.classLink RX8 191 "TenderHall$Complaint") (List.mem_of_getElem? (i := 4) rfl)) (c_recv hK hP (ci := 5) rfl hm_25) dX8_uphold_34 ?_
    refine lv_astore (lv' := [(5, .ref (gt (L (F 3 h)) i)), (0, .ref h), (1, .ref z), (2, .int (nI x)), (3, .ref (F 1 z)), (4, .int (nI i))]) hx hb dX8_uphold_37 hl (by decide) rfl (fun ls hl => ?_)
    refine lv_aload hx hb dX8_uphold_39 (lv_at hl 0 rfl) ?_
    refine c_get (C := RX3) (T := TX3) (N := 6) hx hb hts hin_X3 hown hK hP hm_25 rfl 1 (by decide) l_213 (fun _ h9 => h9) rfl dX8_uphold_41 ?_
    have hk_26 : kd ((kMoot (up2 F 3 z 1) (L (F 3 h)) (F 1 z) i) 1 (gt (L (F 3 h)) i)) = 2 := hW.ref (f := 1) hk_24 rfl (by decide)
    refine lv_aload_n hx hb dX8_uphold_44 rfl (lv_at hl 4 rfl) ?_
    refine r_acmp_ne (tgt := 62) hx hb dX8_uphold_45 (by decide)  (fun c_27 => ?_) (fun c_27 => ?_)
    · refine n_iinc (k := 5) (lv' := [(4, .int (nI (i + 1))), (5, .ref (gt (L (F 3 h)) i)), (0, .ref h), (1, .ref z), (2, .int (nI x)), (3, .ref (F 1 z))]) hx hb dX8_uphold_62 hl rfl (by decide) rfl (fun ls hl => ?_)
      refine lv_goto (tgt := 13) hx hb dX8_uphold_65 (by decide) ?_
      have eF_28 : kMoot (up2 F 3 z 1) (L (F 3 h)) (F 1 z) (i + 1) = kMoot (up2 F 3 z 1) (L (F 3 h)) (F 1 z) i := by rw [kMoot]; first | exact if_pos ⟨by omega, by omega⟩ | exact if_neg (by omega)
      refine ih_3 (by omega) ws_5 _ _ ⟨by rw [eF_28]; exact hC, by rw [eF_28]; exact hW, hD, hP, hS⟩ ls ?_
      exact lv_sub hl [2, 3, 4, 5, 0] rfl
    · refine lv_aload hx hb dX8_uphold_48 (lv_at hl 0 rfl) ?_
      refine c_get (C := RX3) (T := TX3) (N := 6) hx hb hts hin_X3 hown hK hP hm_25 rfl 3 (by decide) l_200 (fun _ h9 => h9) rfl dX8_uphold_50 ?_
      have hn_29 : (kMoot (up2 F 3 z 1) (L (F 3 h)) (F 1 z) i) 3 (gt (L (F 3 h)) i) < 4 := hW.num (f := 3) hk_24 rfl (by decide)
      refine n_if_ne (tgt := 62) hx hb dX8_uphold_53 (by decide) (by omega) (fun c_30 => ?_) (fun c_30 => ?_)
      · refine n_iinc (k := 5) (lv' := [(4, .int (nI (i + 1))), (5, .ref (gt (L (F 3 h)) i)), (0, .ref h), (1, .ref z), (2, .int (nI x)), (3, .ref (F 1 z))]) hx hb dX8_uphold_62 hl rfl (by decide) rfl (fun ls hl => ?_)
        refine lv_goto (tgt := 13) hx hb dX8_uphold_65 (by decide) ?_
        have eF_31 : kMoot (up2 F 3 z 1) (L (F 3 h)) (F 1 z) (i + 1) = kMoot (up2 F 3 z 1) (L (F 3 h)) (F 1 z) i := by rw [kMoot]; first | exact if_pos ⟨by omega, by omega⟩ | exact if_neg (by omega)
        refine ih_3 (by omega) ws_5 _ _ ⟨by rw [eF_31]; exact hC, by rw [eF_31]; exact hW, hD, hP, hS⟩ ls ?_
        exact lv_sub hl [2, 3, 4, 5, 0] rfl
      · refine lv_aload hx hb dX8_uphold_56 (lv_at hl 0 rfl) ?_
        refine lv_iconst (v := nI 3) hx hb dX8_uphold_58 (by decide) ?_
        have hC9 := hC.put (f := 3) (v := 3) (x := .inr (5, [.int (nI ((kMoot (up2 F 3 z 1) (L (F 3 h)) (F 1 z) i) 0 (gt (L (F 3 h)) i))), .ref ((kMoot (up2 F 3 z 1) (L (F 3 h)) (F 1 z) i) 1 (gt (L (F 3 h)) i)), .int (nI ((kMoot (up2 F 3 z 1) (L (F 3 h)) (F 1 z) i) 2 (gt (L (F 3 h)) i))), .int (nI 3), .int (nI ((kMoot (up2 F 3 z 1) (L (F 3 h)) (F 1 z) i) 4 (gt (L (F 3 h)) i))), .int (nI ((kMoot (up2 F 3 z 1) (L (F 3 h)) (F 1 z) i) 5 (gt (L (F 3 h)) i)))])) hD hk_24 (by decide) (by decide) (by simp [ent, up2])
        have hW9 := hW.put (f := 3) (v := 3) hk_24 (Or.inr (by show 3 < 4; omega)) (Or.inl rfl)
        refine c_put (C := RX3) (T := TX3) (N := 6) (v := .int (nI 3)) (ty := .int) (fs2 := [.int (nI ((kMoot (up2 F 3 z 1) (L (F 3 h)) (F 1 z) i) 0 (gt (L (F 3 h)) i))), .ref ((kMoot (up2 F 3 z 1) (L (F 3 h)) (F 1 z) i) 1 (gt (L (F 3 h)) i)), .int (nI ((kMoot (up2 F 3 z 1) (L (F 3 h)) (F 1 z) i) 2 (gt (L (F 3 h)) i))), .int (nI 3), .int (nI ((kMoot (up2 F 3 z 1) (L (F 3 h)) (F 1 z) i) 4 (gt (L (F 3 h)) i))), .int (nI ((kMoot (up2 F 3 z 1) (L (F 3 h)) (F 1 z) i) 5 (gt (L (F 3 h)) i)))]) hx hb hts hin_X3 tyX3 tyX3_ok nmX3 hown hK hP hD hS hm_25 rfl 3 (by decide) l_200 (fun _ h9 => h9) rfl (by decide +kernel) rfl rfl (Nat.le_of_ble_eq_true rfl) rfl dX8_uphold_59 (fun H locs hP hD hS => ?_)
        replace hC := hC9
        replace hW := hW9
        clear hC9 hW9
        refine n_iinc (k := 5) (lv' := [(4, .int (nI (i + 1))), (5, .ref (gt (L (F 3 h)) i)), (0, .ref h), (1, .ref z), (2, .int (nI x)), (3, .ref (F 1 z))]) hx hb dX8_uphold_62 hl rfl (by decide) rfl (fun ls hl => ?_)
        refine lv_goto (tgt := 13) hx hb dX8_uphold_65 (by decide) ?_
        have eF_32 : kMoot (up2 F 3 z 1) (L (F 3 h)) (F 1 z) (i + 1) = up2 (kMoot (up2 F 3 z 1) (L (F 3 h)) (F 1 z) i) 3 (gt (L (F 3 h)) i) 3 := by rw [kMoot]; first | exact if_pos ⟨by omega, by omega⟩ | exact if_neg (by omega)
        refine ih_3 (by omega) (wup ws_5 (gt (L (F 3 h)) i) (.inr (5, [.int (nI ((kMoot (up2 F 3 z 1) (L (F 3 h)) (F 1 z) i) 0 (gt (L (F 3 h)) i))), .ref ((kMoot (up2 F 3 z 1) (L (F 3 h)) (F 1 z) i) 1 (gt (L (F 3 h)) i)), .int (nI ((kMoot (up2 F 3 z 1) (L (F 3 h)) (F 1 z) i) 2 (gt (L (F 3 h)) i))), .int (nI 3), .int (nI ((kMoot (up2 F 3 z 1) (L (F 3 h)) (F 1 z) i) 4 (gt (L (F 3 h)) i))), .int (nI ((kMoot (up2 F 3 z 1) (L (F 3 h)) (F 1 z) i) 5 (gt (L (F 3 h)) i)))]))) _ _ ⟨by rw [eF_32]; exact hC, by rw [eF_32]; exact hW, hD, hP, hS⟩ ls ?_
        exact lv_sub hl [2, 3, 4, 5, 0] rfl
