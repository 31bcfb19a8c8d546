/-! the law: cases -/
set_option maxHeartbeats 4000000 in
set_option maxRecDepth 100000 in
theorem lc_winner {p : Program} {l : Launch} {e : Env} {s : State} {m : MethodId} {args : Array Value} {below : List Frame} {meth : Method} {c : Code} {b L : Nat} {xs : Nat → Int32} {Q : State → Prop} {D : va_G} {cI cO cb cZ cC cJ : ClassId} {eA mi : Nat} {st ad : Nat → Nat} {dO dT : Nat} {vF : Value} {h oa : Nat} (hst : l.stackTraces = false) (C0 : LC p s m args c b L xs D cI cO cb cZ cC cJ eA mi st ad dO dT vF oa) {n : Nat} (hn : 6 * n + 6 ≤ L) (hL : L ≤ 3072) {M : MS} {ws : va_W} {th : Nat} {x : Int64} {H : Heap} {locs : List Loc} (hI : LI D cI cO eA st cZ cC cJ s ad h oa n M ws th x H locs) {cells slots : Nat} (hc1 : cells + 241 ≤ 601024) (hc2 : slots + 12126 ≤ 7293033) (kk : ∀ M ws th x H locs, LI D cI cO eA st cZ cC cJ s ad h oa (n + 1) M ws th x H locs → ∀ ls, lv_has ls 7 [(0, .ref b), (1, .ref h), (2, .ref (ad 0)), (3, .ref oa), (4, .int (nI (6 * n)))] → W p l e room_1 s m args below meth c H locs (cells + 241) (slots + 12126) Q (F0 m 2054 ls [])) : ∀ ls, lv_has ls 7 [(0, .ref b), (1, .ref h), (2, .ref (ad 0)), (3, .ref oa), (4, .int (nI (6 * n)))] → W p l e room_1 s m args below meth c H locs cells slots Q (F0 m 1044 ls []) := by
  obtain ⟨hx, hb, hml, hown, hts, hX, hbl, hK, hKm, hKJ, hG, hGT, hN, hsI, hdis, hmn, hon, hnm⟩ := C0
  obtain ⟨hc, hM, hLB, h15, hP, hPm, ho, hS⟩ := hI
  have hbA : ¬ (fun q : Nat => s.heap.size ≤ q) b := Nat.not_le.mpr hbl
  have hno : ¬ lA s.heap.size ad oa oa := fun q => q.2.2 rfl
  have hI2 := LBN.rf (M := M)
  intro ls hl
  refine lv_aload_n hx hb dL_law_1044 rfl (lv_at hl 1 rfl) ?_
  refine lv_aload_n hx hb dL_law_1045 rfl (lv_at hl 0 rfl) ?_
  refine lv_iload hx hb dL_law_1046 (lv_at hl 4 rfl) ?_
  refine lv_iconst (v := nI 1) hx hb dL_law_1048 (by decide) ?_
  refine n_iadd hx hb dL_law_1049 (z := 6 * n + 1) rfl ?_
  refine va_sld hx hb hX hbl hbA hS (vp_in_nI (by omega) (by omega)) dL_law_1050 ?_
  rw [nI_clamp (show 6 * n + 1 < 2 ^ 31 by omega)]
  refine lv_aload_n hx hb dL_law_1051 rfl (lv_at hl 3 rfl) ?_
  refine va_calli (vx_runSW (As := [.ref h, .int (xs (6 * n + 1)), .ref oa]) (rest := []) ⟨hx, hb, hml, hown, hts⟩ (cL9_winner l hst D cI cO cb eA mi st dO dT vF ws hc hM hsI cJ oa x hno (xs (6 * n + 1))) (vx_cwSW 3 hts gL_law_L_winner rfl rfl rfl kd_L_winner ⟨Nat.le_of_ble_eq_true rfl, Nat.le_of_ble_eq_true rfl⟩) ⟨lB_blind, lB_pre hK hKJ hG hGT hN (fun q h => h.1) hS (fresh_lA hPm ho hS) hP ho _⟩ rfl rfl hl.1 rfl (lv_room (Nat.le_of_ble_eq_true rfl)) dL_law_1052 ⟨by show cells + 1 ≤ 601024; omega, by show slots + 6 ≤ 7293033; omega⟩) hS (fun q _ h => h.elim (fun h => h.1) (fun h => by rw [h]; exact hon)) (fun q h => h.elim (fun h => h.1) (fun h => by rw [h]; exact hon)) (fun r u U8 H1 locs1 ht hvm hu hB hz1 hk1 hS1 => ?_)
  obtain ⟨hri, hk3, hout, hc3⟩ := hu
  subst hri
  rw [ht] at hB
  obtain ⟨hB1, ho1⟩ := hB
  have hPm1 := mP_keep hPm hk1 hnm
  clear hS hP hPm ho
  have hS := hS1
  refine lv_istore (lv' := [(5, .int (nI (k_aw M (xs (6 * n + 1))))), (0, .ref b), (1, .ref h), (2, .ref (ad 0)), (3, .ref oa), (4, .int (nI (6 * n)))]) hx hb dL_law_1055 hl (by decide) rfl (fun ls hl => ?_)
  refine lv_aload_n hx hb dL_law_1057 rfl (lv_at hl 3 rfl) ?_
  refine lv_aload_n hx hb dL_law_1058 rfl (lv_at hl 1 rfl) ?_
  refine lv_iload hx hb dL_law_1059 (lv_at hl 5 rfl) ?_
  refine lv_iconst (v := nI 1) hx hb dL_law_1061 (by decide) ?_
  refine n_iadd hx hb dL_law_1062 (z := 6 * n + 1) rfl ?_
  refine va_sld hx hb hX hbl hbA hS (vp_in_nI (by omega) (by omega)) dL_law_1063 ?_
  rw [nI_clamp (show 6 * n + 1 < 2 ^ 31 by omega)]
  refine va_calli (va_runV (As := [.int (xs (6 * n + 1))]) (rest := []) ⟨hx, hb, hml, hown, hts⟩ (c9_winner l D ad cI cZ cC th M hM hdis (xs (6 * n + 1))) (cwV 1 hts gL_law_X9_winner rfl rfl rfl kd_X9_winner ⟨Nat.le_of_ble_eq_true rfl, Nat.le_of_ble_eq_true rfl⟩) ⟨mB_blind, m_recv hKm hPm1, m_pre hKm hPm1 _⟩ rfl rfl hl.1 rfl (lv_room (Nat.le_of_ble_eq_true rfl)) dL_law_1064 ⟨by show cells + 1 + 0 ≤ 601024; omega, by show slots + 6 + 0 ≤ 7293033; omega⟩) hS (fun q _ h => hmn q h) (fun q h => hmn q h) (fun r2 u2 U9 H2 locs2 ht2 hvm2 hu2 hB2 hz2 hk2 hS2 => ?_)
  subst hu2
  replace hB2 : va_P D vwCl (mws ad cI cZ cC (k_aw M (xs (6 * n + 1))) (M)) U9.heap := hB2
  rw [ht2] at hB2
  have hP2 := cP_keep hB1 hc3.dis hk2
  have ho2 := ho1.kept (hk2 oa ho1.lt hnm)
  refine lv_istore (lv' := [(6, .int (r_winner M (xs (6 * n + 1)))), (5, .int (nI (k_aw M (xs (6 * n + 1))))), (0, .ref b), (1, .ref h), (2, .ref (ad 0)), (3, .ref oa), (4, .int (nI (6 * n)))]) hx hb dL_law_1067 hl (by decide) rfl (fun ls hl => ?_)
  have hM2 := hM
  refine lv_aload_n hx hb dL_law_1069 rfl (lv_at hl 4 rfl) ?_
  refine vp_callSi (W.runV (As := []) (rest := []) ⟨hx, hb, hml, hown, hts⟩ (c9_thrown l D ad cI cZ cC (k_aw M (xs (6 * n + 1))) (M) hM2) (cwV 0 hts gL_law_X9_thrown rfl rfl rfl kd_X9_thrown ⟨Nat.le_of_ble_eq_true rfl, Nat.le_of_ble_eq_true rfl⟩) ⟨mB_blind, m_recv hKm hB2, m_pre hKm hB2 _⟩ rfl rfl hl.1 rfl (lv_room (Nat.le_of_ble_eq_true rfl)) dL_law_1070 ⟨by show cells + 1 + 0 + 0 ≤ 601024; omega, by show slots + 6 + 0 + 0 ≤ 7293033; omega⟩) (fun r3 hr3 => ?_)
  subst hr3
  refine lv_iload hx hb dL_law_1073 (lv_at hl 1 rfl) ?_
  refine lv_icmp_eq (tgt := 1080) hx hb dL_law_1075 (by decide) (fun c9 => ?_) (fun c9 => absurd rfl c9)
  have hfin : ∀ ls, lv_has ls 7 [(6, .int (r_winner M (xs (6 * n + 1)))), (5, .int (nI (k_aw M (xs (6 * n + 1))))), (0, .ref b), (1, .ref h), (2, .ref (ad 0)), (3, .ref oa), (4, .int (nI (6 * n)))] → W p l e room_1 s m args below meth c H2 locs2 (cells + 1 + 0) (slots + 6 + 0) Q (F0 m 2054 ls []) := fun ls hl => by
    refine W.widen (k := cells + 241) (n := slots + 12126) (by omega) (by omega) ?_
    exact kk _ _ _ _ _ _ ⟨hc3, hM2, hI2.1 hLB, by have := hI2.2; omega, hP2, hB2, ho2, hS2⟩ ls (lv_sub hl [2, 3, 4, 5, 6] rfl)
  refine lv_iload hx hb dL_law_1080 (lv_at hl 1 rfl) ?_
  refine n_if_ne (tgt := 1097) hx hb dL_law_1082 (by decide) (by omega) (fun c8 => ?_) (fun c8 => ?_)
  · refine lv_goto (tgt := 2054) hx hb dL_law_1097 (by decide) (hfin ls hl)
  · have ho3 := hout c8
    rw [ho3] at ho2
    refine lv_aload_n hx hb dL_law_1085 rfl (lv_at hl 5 rfl) ?_
    refine lv_iconst (v := nI 0) hx hb dL_law_1086 (by decide) ?_
    refine va_lald hx hb hKJ (va_P_one ho2) 0 0 rfl rfl (vp_in_nI (by decide) (by decide)) dL_law_1087 ?_
    refine lv_iload hx hb dL_law_1088 (lv_at hl 0 rfl) ?_
    refine lv_i2l (v := Int32.toInt64 (r_winner M (xs (6 * n + 1)))) hx hb dL_law_1090 rfl ?_
    refine lw_lcmp hx hb dL_law_1091 ?_
    refine n_if_eq (tgt := 1097) hx hb dL_law_1092 (by decide) (by decide) (fun _ => ?_) (fun c7 => absurd rfl c7)
    exact lv_goto (tgt := 2054) hx hb dL_law_1097 (by decide) (hfin ls hl)
set_option maxHeartbeats 4000000 in
set_option maxRecDepth 100000 in
theorem lc_isVoid {p : Program} {l : Launch} {e : Env} {s : State} {m : MethodId} {args : Array Value} {below : List Frame} {meth : Method} {c : Code} {b L : Nat} {xs : Nat → Int32} {Q : State → Prop} {D : va_G} {cI cO cb cZ cC cJ : ClassId} {eA mi : Nat} {st ad : Nat → Nat} {dO dT : Nat} {vF : Value} {h oa : Nat} (hst : l.stackTraces = false) (C0 : LC p s m args c b L xs D cI cO cb cZ cC cJ eA mi st ad dO dT vF oa) {n : Nat} (hn : 6 * n + 6 ≤ L) (hL : L ≤ 3072) {M : MS} {ws : va_W} {th : Nat} {x : Int64} {H : Heap} {locs : List Loc} (hI : LI D cI cO eA st cZ cC cJ s ad h oa n M ws th x H locs) {cells slots : Nat} (hc1 : cells + 241 ≤ 601024) (hc2 : slots + 12126 ≤ 7293033) (kk : ∀ M ws th x H locs, LI D cI cO eA st cZ cC cJ s ad h oa (n + 1) M ws th x H locs → ∀ ls, lv_has ls 7 [(0, .ref b), (1, .ref h), (2, .ref (ad 0)), (3, .ref oa), (4, .int (nI (6 * n)))] → W p l e room_1 s m args below meth c H locs (cells + 241) (slots + 12126) Q (F0 m 2054 ls [])) : ∀ ls, lv_has ls 7 [(0, .ref b), (1, .ref h), (2, .ref (ad 0)), (3, .ref oa), (4, .int (nI (6 * n)))] → W p l e room_1 s m args below meth c H locs cells slots Q (F0 m 1100 ls []) := by
  obtain ⟨hx, hb, hml, hown, hts, hX, hbl, hK, hKm, hKJ, hG, hGT, hN, hsI, hdis, hmn, hon, hnm⟩ := C0
  obtain ⟨hc, hM, hLB, h15, hP, hPm, ho, hS⟩ := hI
  have hbA : ¬ (fun q : Nat => s.heap.size ≤ q) b := Nat.not_le.mpr hbl
  have hno : ¬ lA s.heap.size ad oa oa := fun q => q.2.2 rfl
  have hI2 := LBN.rf (M := M)
  intro ls hl
  refine lv_aload_n hx hb dL_law_1100 rfl (lv_at hl 1 rfl) ?_
  refine lv_aload_n hx hb dL_law_1101 rfl (lv_at hl 0 rfl) ?_
  refine lv_iload hx hb dL_law_1102 (lv_at hl 4 rfl) ?_
  refine lv_iconst (v := nI 1) hx hb dL_law_1104 (by decide) ?_
  refine n_iadd hx hb dL_law_1105 (z := 6 * n + 1) rfl ?_
  refine va_sld hx hb hX hbl hbA hS (vp_in_nI (by omega) (by omega)) dL_law_1106 ?_
  rw [nI_clamp (show 6 * n + 1 < 2 ^ 31 by omega)]
  refine lv_aload_n hx hb dL_law_1107 rfl (lv_at hl 3 rfl) ?_
  refine va_calli (vx_runSW (As := [.ref h, .int (xs (6 * n + 1)), .ref oa]) (rest := []) ⟨hx, hb, hml, hown, hts⟩ (cL9_isVoid l hst D cI cO cb eA mi st dO dT vF ws hc hM hsI cJ oa x hno (xs (6 * n + 1))) (vx_cwSW 3 hts gL_law_L_isVoid rfl rfl rfl kd_L_isVoid ⟨Nat.le_of_ble_eq_true rfl, Nat.le_of_ble_eq_true rfl⟩) ⟨lB_blind, lB_pre hK hKJ hG hGT hN (fun q h => h.1) hS (fresh_lA hPm ho hS) hP ho _⟩ rfl rfl hl.1 rfl (lv_room (Nat.le_of_ble_eq_true rfl)) dL_law_1108 ⟨by show cells + 1 ≤ 601024; omega, by show slots + 6 ≤ 7293033; omega⟩) hS (fun q _ h => h.elim (fun h => h.1) (fun h => by rw [h]; exact hon)) (fun q h => h.elim (fun h => h.1) (fun h => by rw [h]; exact hon)) (fun r u U8 H1 locs1 ht hvm hu hB hz1 hk1 hS1 => ?_)
  obtain ⟨hri, hk3, hout, hc3⟩ := hu
  subst hri
  rw [ht] at hB
  obtain ⟨hB1, ho1⟩ := hB
  have hPm1 := mP_keep hPm hk1 hnm
  clear hS hP hPm ho
  have hS := hS1
  refine lv_istore (lv' := [(5, .int (nI (k_aw M (xs (6 * n + 1))))), (0, .ref b), (1, .ref h), (2, .ref (ad 0)), (3, .ref oa), (4, .int (nI (6 * n)))]) hx hb dL_law_1111 hl (by decide) rfl (fun ls hl => ?_)
  refine lv_aload_n hx hb dL_law_1113 rfl (lv_at hl 3 rfl) ?_
  refine lv_aload_n hx hb dL_law_1114 rfl (lv_at hl 1 rfl) ?_
  refine lv_iload hx hb dL_law_1115 (lv_at hl 5 rfl) ?_
  refine lv_iconst (v := nI 1) hx hb dL_law_1117 (by decide) ?_
  refine n_iadd hx hb dL_law_1118 (z := 6 * n + 1) rfl ?_
  refine va_sld hx hb hX hbl hbA hS (vp_in_nI (by omega) (by omega)) dL_law_1119 ?_
  rw [nI_clamp (show 6 * n + 1 < 2 ^ 31 by omega)]
  refine va_calli (va_runV (As := [.int (xs (6 * n + 1))]) (rest := []) ⟨hx, hb, hml, hown, hts⟩ (c9_isVoid l D ad cI cZ cC th M hM hdis (xs (6 * n + 1))) (cwV 1 hts gL_law_X9_isVoid rfl rfl rfl kd_X9_isVoid ⟨Nat.le_of_ble_eq_true rfl, Nat.le_of_ble_eq_true rfl⟩) ⟨mB_blind, m_recv hKm hPm1, m_pre hKm hPm1 _⟩ rfl rfl hl.1 rfl (lv_room (Nat.le_of_ble_eq_true rfl)) dL_law_1120 ⟨by show cells + 1 + 0 ≤ 601024; omega, by show slots + 6 + 0 ≤ 7293033; omega⟩) hS (fun q _ h => hmn q h) (fun q h => hmn q h) (fun r2 u2 U9 H2 locs2 ht2 hvm2 hu2 hB2 hz2 hk2 hS2 => ?_)
  subst hu2
  replace hB2 : va_P D vwCl (mws ad cI cZ cC (k_aw M (xs (6 * n + 1))) (M)) U9.heap := hB2
  rw [ht2] at hB2
  have hP2 := cP_keep hB1 hc3.dis hk2
  have ho2 := ho1.kept (hk2 oa ho1.lt hnm)
  refine lv_istore (lv' := [(6, .int (bi (r_isVoid M (xs (6 * n + 1))))), (5, .int (nI (k_aw M (xs (6 * n + 1))))), (0, .ref b), (1, .ref h), (2, .ref (ad 0)), (3, .ref oa), (4, .int (nI (6 * n)))]) hx hb dL_law_1123 hl (by decide) rfl (fun ls hl => ?_)
  have hM2 := hM
  refine lv_aload_n hx hb dL_law_1125 rfl (lv_at hl 4 rfl) ?_
  refine vp_callSi (W.runV (As := []) (rest := []) ⟨hx, hb, hml, hown, hts⟩ (c9_thrown l D ad cI cZ cC (k_aw M (xs (6 * n + 1))) (M) hM2) (cwV 0 hts gL_law_X9_thrown rfl rfl rfl kd_X9_thrown ⟨Nat.le_of_ble_eq_true rfl, Nat.le_of_ble_eq_true rfl⟩) ⟨mB_blind, m_recv hKm hB2, m_pre hKm hB2 _⟩ rfl rfl hl.1 rfl (lv_room (Nat.le_of_ble_eq_true rfl)) dL_law_1126 ⟨by show cells + 1 + 0 + 0 ≤ 601024; omega, by show slots + 6 + 0 + 0 ≤ 7293033; omega⟩) (fun r3 hr3 => ?_)
  subst hr3
  refine lv_iload hx hb dL_law_1129 (lv_at hl 1 rfl) ?_
  refine lv_icmp_eq (tgt := 1136) hx hb dL_law_1131 (by decide) (fun c9 => ?_) (fun c9 => absurd rfl c9)
  have hfin : ∀ ls, lv_has ls 7 [(6, .int (bi (r_isVoid M (xs (6 * n + 1))))), (5, .int (nI (k_aw M (xs (6 * n + 1))))), (0, .ref b), (1, .ref h), (2, .ref (ad 0)), (3, .ref oa), (4, .int (nI (6 * n)))] → W p l e room_1 s m args below meth c H2 locs2 (cells + 1 + 0) (slots + 6 + 0) Q (F0 m 2054 ls []) := fun ls hl => by
    refine W.widen (k := cells + 241) (n := slots + 12126) (by omega) (by omega) ?_
    exact kk _ _ _ _ _ _ ⟨hc3, hM2, hI2.1 hLB, by have := hI2.2; omega, hP2, hB2, ho2, hS2⟩ ls (lv_sub hl [2, 3, 4, 5, 6] rfl)
  refine lv_iload hx hb dL_law_1136 (lv_at hl 1 rfl) ?_
  refine n_if_ne (tgt := 1160) hx hb dL_law_1138 (by decide) (by omega) (fun c8 => ?_) (fun c8 => ?_)
  · refine lv_goto (tgt := 2054) hx hb dL_law_1160 (by decide) (hfin ls hl)
  · have ho3 := hout c8
    rw [ho3] at ho2
    refine lv_aload_n hx hb dL_law_1141 rfl (lv_at hl 5 rfl) ?_
    refine lv_iconst (v := nI 0) hx hb dL_law_1142 (by decide) ?_
    refine va_lald hx hb hKJ (va_P_one ho2) 0 0 rfl rfl (vp_in_nI (by decide) (by decide)) dL_law_1143 ?_
    refine lv_iload hx hb dL_law_1144 (lv_at hl 0 rfl) ?_
    refine b_if_eq (tgt := 1153) hx hb dL_law_1146 (by decide) (fun c7 => ?_) (fun c7 => ?_)
    · refine lv_lconst (v := Int32.toInt64 (bi (r_isVoid M (xs (6 * n + 1))))) hx hb dL_law_1153 (by rw [c7]; first | rfl | decide) ?_
      refine lw_lcmp hx hb dL_law_1154 ?_
      refine n_if_eq (tgt := 1160) hx hb dL_law_1155 (by decide) (by decide) (fun _ => ?_) (fun c7 => absurd rfl c7)
      exact lv_goto (tgt := 2054) hx hb dL_law_1160 (by decide) (hfin ls hl)
    · refine lv_lconst (v := Int32.toInt64 (bi (r_isVoid M (xs (6 * n + 1))))) hx hb dL_law_1149 (by rw [c7]; first | rfl | decide) ?_
      refine lv_goto (tgt := 1154) hx hb dL_law_1150 (by decide) ?_
      refine lw_lcmp hx hb dL_law_1154 ?_
      refine n_if_eq (tgt := 1160) hx hb dL_law_1155 (by decide) (by decide) (fun _ => ?_) (fun c7 => absurd rfl c7)
      exact lv_goto (tgt := 2054) hx hb dL_law_1160 (by decide) (hfin ls hl)
set_option maxHeartbeats 4000000 in
set_option maxRecDepth 100000 in
theorem lc_isFinal {p : Program} {l : Launch} {e : Env} {s : State} {m : MethodId} {args : Array Value} {below : List Frame} {meth : Method} {c : Code} {b L : Nat} {xs : Nat → Int32} {Q : State → Prop} {D : va_G} {cI cO cb cZ cC cJ : ClassId} {eA mi : Nat} {st ad : Nat → Nat} {dO dT : Nat} {vF : Value} {h oa : Nat} (hst : l.stackTraces = false) (C0 : LC p s m args c b L xs D cI cO cb cZ cC cJ eA mi st ad dO dT vF oa) {n : Nat} (hn : 6 * n + 6 ≤ L) (hL : L ≤ 3072) {M : MS} {ws : va_W} {th : Nat} {x : Int64} {H : Heap} {locs : List Loc} (hI : LI D cI cO eA st cZ cC cJ s ad h oa n M ws th x H locs) {cells slots : Nat} (hc1 : cells + 241 ≤ 601024) (hc2 : slots + 12126 ≤ 7293033) (kk : ∀ M ws th x H locs, LI D cI cO eA st cZ cC cJ s ad h oa (n + 1) M ws th x H locs → ∀ ls, lv_has ls 7 [(0, .ref b), (1, .ref h), (2, .ref (ad 0)), (3, .ref oa), (4, .int (nI (6 * n)))] → W p l e room_1 s m args below meth c H locs (cells + 241) (slots + 12126) Q (F0 m 2054 ls [])) : ∀ ls, lv_has ls 7 [(0, .ref b), (1, .ref h), (2, .ref (ad 0)), (3, .ref oa), (4, .int (nI (6 * n)))] → W p l e room_1 s m args below meth c H locs cells slots Q (F0 m 1163 ls []) := by
  obtain ⟨hx, hb, hml, hown, hts, hX, hbl, hK, hKm, hKJ, hG, hGT, hN, hsI, hdis, hmn, hon, hnm⟩ := C0
  obtain ⟨hc, hM, hLB, h15, hP, hPm, ho, hS⟩ := hI
  have hbA : ¬ (fun q : Nat => s.heap.size ≤ q) b := Nat.not_le.mpr hbl
  have hno : ¬ lA s.heap.size ad oa oa := fun q => q.2.2 rfl
  have hI2 := LBN.rf (M := M)
  intro ls hl
  refine lv_aload_n hx hb dL_law_1163 rfl (lv_at hl 1 rfl) ?_
  refine lv_aload_n hx hb dL_law_1164 rfl (lv_at hl 0 rfl) ?_
  refine lv_iload hx hb dL_law_1165 (lv_at hl 4 rfl) ?_
  refine lv_iconst (v := nI 1) hx hb dL_law_1167 (by decide) ?_
  refine n_iadd hx hb dL_law_1168 (z := 6 * n + 1) rfl ?_
  refine va_sld hx hb hX hbl hbA hS (vp_in_nI (by omega) (by omega)) dL_law_1169 ?_
  rw [nI_clamp (show 6 * n + 1 < 2 ^ 31 by omega)]
  refine lv_aload_n hx hb dL_law_1170 rfl (lv_at hl 3 rfl) ?_
  refine va_calli (vx_runSW (As := [.ref h, .int (xs (6 * n + 1)), .ref oa]) (rest := []) ⟨hx, hb, hml, hown, hts⟩ (cL9_isFinal l hst D cI cO cb eA mi st dO dT vF ws hc hM hsI cJ oa x hno (xs (6 * n + 1))) (vx_cwSW 3 hts gL_law_L_isFinal rfl rfl rfl kd_L_isFinal ⟨Nat.le_of_ble_eq_true rfl, Nat.le_of_ble_eq_true rfl⟩) ⟨lB_blind, lB_pre hK hKJ hG hGT hN (fun q h => h.1) hS (fresh_lA hPm ho hS) hP ho _⟩ rfl rfl hl.1 rfl (lv_room (Nat.le_of_ble_eq_true rfl)) dL_law_1171 ⟨by show cells + 1 ≤ 601024; omega, by show slots + 6 ≤ 7293033; omega⟩) hS (fun q _ h => h.elim (fun h => h.1) (fun h => by rw [h]; exact hon)) (fun q h => h.elim (fun h => h.1) (fun h => by rw [h]; exact hon)) (fun r u U8 H1 locs1 ht hvm hu hB hz1 hk1 hS1 => ?_)
  obtain ⟨hri, hk3, hout, hc3⟩ := hu
  subst hri
  rw [ht] at hB
  obtain ⟨hB1, ho1⟩ := hB
  have hPm1 := mP_keep hPm hk1 hnm
  clear hS hP hPm ho
  have hS := hS1
  refine lv_istore (lv' := [(5, .int (nI (k_aw M (xs (6 * n + 1))))), (0, .ref b), (1, .ref h), (2, .ref (ad 0)), (3, .ref oa), (4, .int (nI (6 * n)))]) hx hb dL_law_1174 hl (by decide) rfl (fun ls hl => ?_)
  refine lv_aload_n hx hb dL_law_1176 rfl (lv_at hl 3 rfl) ?_
  refine lv_aload_n hx hb dL_law_1177 rfl (lv_at hl 1 rfl) ?_
  refine lv_iload hx hb dL_law_1178 (lv_at hl 5 rfl) ?_
  refine lv_iconst (v := nI 1) hx hb dL_law_1180 (by decide) ?_
  refine n_iadd hx hb dL_law_1181 (z := 6 * n + 1) rfl ?_
  refine va_sld hx hb hX hbl hbA hS (vp_in_nI (by omega) (by omega)) dL_law_1182 ?_
  rw [nI_clamp (show 6 * n + 1 < 2 ^ 31 by omega)]
  refine va_calli (va_runV (As := [.int (xs (6 * n + 1))]) (rest := []) ⟨hx, hb, hml, hown, hts⟩ (c9_isFinal l D ad cI cZ cC th M hM hdis (xs (6 * n + 1))) (cwV 1 hts gL_law_X9_isFinal rfl rfl rfl kd_X9_isFinal ⟨Nat.le_of_ble_eq_true rfl, Nat.le_of_ble_eq_true rfl⟩) ⟨mB_blind, m_recv hKm hPm1, m_pre hKm hPm1 _⟩ rfl rfl hl.1 rfl (lv_room (Nat.le_of_ble_eq_true rfl)) dL_law_1183 ⟨by show cells + 1 + 0 ≤ 601024; omega, by show slots + 6 + 0 ≤ 7293033; omega⟩) hS (fun q _ h => hmn q h) (fun q h => hmn q h) (fun r2 u2 U9 H2 locs2 ht2 hvm2 hu2 hB2 hz2 hk2 hS2 => ?_)
  subst hu2
  replace hB2 : va_P D vwCl (mws ad cI cZ cC (k_aw M (xs (6 * n + 1))) (M)) U9.heap := hB2
  rw [ht2] at hB2
  have hP2 := cP_keep hB1 hc3.dis hk2
  have ho2 := ho1.kept (hk2 oa ho1.lt hnm)
  refine lv_istore (lv' := [(6, .int (bi (r_isFinal M (xs (6 * n + 1))))), (5, .int (nI (k_aw M (xs (6 * n + 1))))), (0, .ref b), (1, .ref h), (2, .ref (ad 0)), (3, .ref oa), (4, .int (nI (6 * n)))]) hx hb dL_law_1186 hl (by decide) rfl (fun ls hl => ?_)
  have hM2 := hM
  refine lv_aload_n hx hb dL_law_1188 rfl (lv_at hl 4 rfl) ?_
  refine vp_callSi (W.runV (As := []) (rest := []) ⟨hx, hb, hml, hown, hts⟩ (c9_thrown l D ad cI cZ cC (k_aw M (xs (6 * n + 1))) (M) hM2) (cwV 0 hts gL_law_X9_thrown rfl rfl rfl kd_X9_thrown ⟨Nat.le_of_ble_eq_true rfl, Nat.le_of_ble_eq_true rfl⟩) ⟨mB_blind, m_recv hKm hB2, m_pre hKm hB2 _⟩ rfl rfl hl.1 rfl (lv_room (Nat.le_of_ble_eq_true rfl)) dL_law_1189 ⟨by show cells + 1 + 0 + 0 ≤ 601024; omega, by show slots + 6 + 0 + 0 ≤ 7293033; omega⟩) (fun r3 hr3 => ?_)
  subst hr3
  refine lv_iload hx hb dL_law_1192 (lv_at hl 1 rfl) ?_
  refine lv_icmp_eq (tgt := 1199) hx hb dL_law_1194 (by decide) (fun c9 => ?_) (fun c9 => absurd rfl c9)
  have hfin : ∀ ls, lv_has ls 7 [(6, .int (bi (r_isFinal M (xs (6 * n + 1))))), (5, .int (nI (k_aw M (xs (6 * n + 1))))), (0, .ref b), (1, .ref h), (2, .ref (ad 0)), (3, .ref oa), (4, .int (nI (6 * n)))] → W p l e room_1 s m args below meth c H2 locs2 (cells + 1 + 0) (slots + 6 + 0) Q (F0 m 2054 ls []) := fun ls hl => by
    refine W.widen (k := cells + 241) (n := slots + 12126) (by omega) (by omega) ?_
    exact kk _ _ _ _ _ _ ⟨hc3, hM2, hI2.1 hLB, by have := hI2.2; omega, hP2, hB2, ho2, hS2⟩ ls (lv_sub hl [2, 3, 4, 5, 6] rfl)
  refine lv_iload hx hb dL_law_1199 (lv_at hl 1 rfl) ?_
  refine n_if_ne (tgt := 1223) hx hb dL_law_1201 (by decide) (by omega) (fun c8 => ?_) (fun c8 => ?_)
  · refine lv_goto (tgt := 2054) hx hb dL_law_1223 (by decide) (hfin ls hl)
  · have ho3 := hout c8
    rw [ho3] at ho2
    refine lv_aload_n hx hb dL_law_1204 rfl (lv_at hl 5 rfl) ?_
    refine lv_iconst (v := nI 0) hx hb dL_law_1205 (by decide) ?_
    refine va_lald hx hb hKJ (va_P_one ho2) 0 0 rfl rfl (vp_in_nI (by decide) (by decide)) dL_law_1206 ?_
    refine lv_iload hx hb dL_law_1207 (lv_at hl 0 rfl) ?_
    refine b_if_eq (tgt := 1216) hx hb dL_law_1209 (by decide) (fun c7 => ?_) (fun c7 => ?_)
    · refine lv_lconst (v := Int32.toInt64 (bi (r_isFinal M (xs (6 * n + 1))))) hx hb dL_law_1216 (by rw [c7]; first | rfl | decide) ?_
      refine lw_lcmp hx hb dL_law_1217 ?_
      refine n_if_eq (tgt := 1223) hx hb dL_law_1218 (by decide) (by decide) (fun _ => ?_) (fun c7 => absurd rfl c7)
      exact lv_goto (tgt := 2054) hx hb dL_law_1223 (by decide) (hfin ls hl)
    · refine lv_lconst (v := Int32.toInt64 (bi (r_isFinal M (xs (6 * n + 1))))) hx hb dL_law_1212 (by rw [c7]; first | rfl | decide) ?_
      refine lv_goto (tgt := 1217) hx hb dL_law_1213 (by decide) ?_
      refine lw_lcmp hx hb dL_law_1217 ?_
      refine n_if_eq (tgt := 1223) hx hb dL_law_1218 (by decide) (by decide) (fun _ => ?_) (fun c7 => absurd rfl c7)
      exact lv_goto (tgt := 2054) hx hb dL_law_1223 (by decide) (hfin ls hl)
set_option maxHeartbeats 4000000 in
set_option maxRecDepth 100000 in
theorem lc_winnerAnew {p : Program} {l : Launch} {e : Env} {s : State} {m : MethodId} {args : Array Value} {below : List Frame} {meth : Method} {c : Code} {b L : Nat} {xs : Nat → Int32} {Q : State → Prop} {D : va_G} {cI cO cb cZ cC cJ : ClassId} {eA mi : Nat} {st ad : Nat → Nat} {dO dT : Nat} {vF : Value} {h oa : Nat} (hst : l.stackTraces = false) (C0 : LC p s m args c b L xs D cI cO cb cZ cC cJ eA mi st ad dO dT vF oa) {n : Nat} (hn : 6 * n + 6 ≤ L) (hL : L ≤ 3072) {M : MS} {ws : va_W} {th : Nat} {x : Int64} {H : Heap} {locs : List Loc} (hI : LI D cI cO eA st cZ cC cJ s ad h oa n M ws th x H locs) {cells slots : Nat} (hc1 : cells + 241 ≤ 601024) (hc2 : slots + 12126 ≤ 7293033) (kk : ∀ M ws th x H locs, LI D cI cO eA st cZ cC cJ s ad h oa (n + 1) M ws th x H locs → ∀ ls, lv_has ls 7 [(0, .ref b), (1, .ref h), (2, .ref (ad 0)), (3, .ref oa), (4, .int (nI (6 * n)))] → W p l e room_1 s m args below meth c H locs (cells + 241) (slots + 12126) Q (F0 m 2054 ls [])) : ∀ ls, lv_has ls 7 [(0, .ref b), (1, .ref h), (2, .ref (ad 0)), (3, .ref oa), (4, .int (nI (6 * n)))] → W p l e room_1 s m args below meth c H locs cells slots Q (F0 m 1226 ls []) := by
  obtain ⟨hx, hb, hml, hown, hts, hX, hbl, hK, hKm, hKJ, hG, hGT, hN, hsI, hdis, hmn, hon, hnm⟩ := C0
  obtain ⟨hc, hM, hLB, h15, hP, hPm, ho, hS⟩ := hI
  have hbA : ¬ (fun q : Nat => s.heap.size ≤ q) b := Nat.not_le.mpr hbl
  have hno : ¬ lA s.heap.size ad oa oa := fun q => q.2.2 rfl
  have hI2 := LBN.rf (M := M)
  intro ls hl
  refine lv_aload_n hx hb dL_law_1226 rfl (lv_at hl 1 rfl) ?_
  refine lv_aload_n hx hb dL_law_1227 rfl (lv_at hl 0 rfl) ?_
  refine lv_iload hx hb dL_law_1228 (lv_at hl 4 rfl) ?_
  refine lv_iconst (v := nI 1) hx hb dL_law_1230 (by decide) ?_
  refine n_iadd hx hb dL_law_1231 (z := 6 * n + 1) rfl ?_
  refine va_sld hx hb hX hbl hbA hS (vp_in_nI (by omega) (by omega)) dL_law_1232 ?_
  rw [nI_clamp (show 6 * n + 1 < 2 ^ 31 by omega)]
  refine lv_aload_n hx hb dL_law_1233 rfl (lv_at hl 0 rfl) ?_
  refine lv_iload hx hb dL_law_1234 (lv_at hl 4 rfl) ?_
  refine lv_iconst (v := nI 2) hx hb dL_law_1236 (by decide) ?_
  refine n_iadd hx hb dL_law_1237 (z := 6 * n + 2) rfl ?_
  refine va_sld hx hb hX hbl hbA hS (vp_in_nI (by omega) (by omega)) dL_law_1238 ?_
  rw [nI_clamp (show 6 * n + 2 < 2 ^ 31 by omega)]
  refine lv_aload_n hx hb dL_law_1239 rfl (lv_at hl 3 rfl) ?_
  refine va_calli (vx_runSW (As := [.ref h, .int (xs (6 * n + 1)), .int (xs (6 * n + 2)), .ref oa]) (rest := []) ⟨hx, hb, hml, hown, hts⟩ (cL9_winnerAnew l hst D cI cO cb eA mi st dO dT vF ws hc hM hsI cJ oa x hno (xs (6 * n + 1)) (xs (6 * n + 2))) (vx_cwSW 4 hts gL_law_L_winnerAnew rfl rfl rfl kd_L_winnerAnew ⟨Nat.le_of_ble_eq_true rfl, Nat.le_of_ble_eq_true rfl⟩) ⟨lB_blind, lB_pre hK hKJ hG hGT hN (fun q h => h.1) hS (fresh_lA hPm ho hS) hP ho _⟩ rfl rfl hl.1 rfl (lv_room (Nat.le_of_ble_eq_true rfl)) dL_law_1240 ⟨by show cells + 21 ≤ 601024; omega, by show slots + 839 ≤ 7293033; omega⟩) hS (fun q _ h => h.elim (fun h => h.1) (fun h => by rw [h]; exact hon)) (fun q h => h.elim (fun h => h.1) (fun h => by rw [h]; exact hon)) (fun r u U8 H1 locs1 ht hvm hu hB hz1 hk1 hS1 => ?_)
  obtain ⟨hri, hk3, hout, hc3⟩ := hu
  subst hri
  rw [ht] at hB
  obtain ⟨hB1, ho1⟩ := hB
  have hPm1 := mP_keep hPm hk1 hnm
  clear hS hP hPm ho
  have hS := hS1
  refine lv_istore (lv' := [(5, .int (nI (k_lot M (xs (6 * n + 1)) (xs (6 * n + 2))))), (0, .ref b), (1, .ref h), (2, .ref (ad 0)), (3, .ref oa), (4, .int (nI (6 * n)))]) hx hb dL_law_1243 hl (by decide) rfl (fun ls hl => ?_)
  refine lv_aload_n hx hb dL_law_1245 rfl (lv_at hl 3 rfl) ?_
  refine lv_aload_n hx hb dL_law_1246 rfl (lv_at hl 1 rfl) ?_
  refine lv_iload hx hb dL_law_1247 (lv_at hl 5 rfl) ?_
  refine lv_iconst (v := nI 1) hx hb dL_law_1249 (by decide) ?_
  refine n_iadd hx hb dL_law_1250 (z := 6 * n + 1) rfl ?_
  refine va_sld hx hb hX hbl hbA hS (vp_in_nI (by omega) (by omega)) dL_law_1251 ?_
  rw [nI_clamp (show 6 * n + 1 < 2 ^ 31 by omega)]
  refine lv_aload_n hx hb dL_law_1252 rfl (lv_at hl 1 rfl) ?_
  refine lv_iload hx hb dL_law_1253 (lv_at hl 5 rfl) ?_
  refine lv_iconst (v := nI 2) hx hb dL_law_1255 (by decide) ?_
  refine n_iadd hx hb dL_law_1256 (z := 6 * n + 2) rfl ?_
  refine va_sld hx hb hX hbl hbA hS (vp_in_nI (by omega) (by omega)) dL_law_1257 ?_
  rw [nI_clamp (show 6 * n + 2 < 2 ^ 31 by omega)]
  refine va_calli (va_runV (As := [.int (xs (6 * n + 1)), .int (xs (6 * n + 2))]) (rest := []) ⟨hx, hb, hml, hown, hts⟩ (c9_winnerAnew l D ad cI cZ cC th M hM hdis (xs (6 * n + 1)) (xs (6 * n + 2))) (cwV 2 hts gL_law_X9_winnerAnew rfl rfl rfl kd_X9_winnerAnew ⟨Nat.le_of_ble_eq_true rfl, Nat.le_of_ble_eq_true rfl⟩) ⟨mB_blind, m_recv hKm hPm1, m_pre hKm hPm1 _⟩ rfl rfl hl.1 rfl (lv_room (Nat.le_of_ble_eq_true rfl)) dL_law_1258 ⟨by show cells + 21 + 0 ≤ 601024; omega, by show slots + 839 + 0 ≤ 7293033; omega⟩) hS (fun q _ h => hmn q h) (fun q h => hmn q h) (fun r2 u2 U9 H2 locs2 ht2 hvm2 hu2 hB2 hz2 hk2 hS2 => ?_)
  subst hu2
  replace hB2 : va_P D vwCl (mws ad cI cZ cC (k_lot M (xs (6 * n + 1)) (xs (6 * n + 2))) (M)) U9.heap := hB2
  rw [ht2] at hB2
  have hP2 := cP_keep hB1 hc3.dis hk2
  have ho2 := ho1.kept (hk2 oa ho1.lt hnm)
  refine lv_istore (lv' := [(6, .int (r_winnerAnew M (xs (6 * n + 1)) (xs (6 * n + 2)))), (5, .int (nI (k_lot M (xs (6 * n + 1)) (xs (6 * n + 2))))), (0, .ref b), (1, .ref h), (2, .ref (ad 0)), (3, .ref oa), (4, .int (nI (6 * n)))]) hx hb dL_law_1261 hl (by decide) rfl (fun ls hl => ?_)
  have hM2 := hM
  refine lv_aload_n hx hb dL_law_1263 rfl (lv_at hl 4 rfl) ?_
  refine vp_callSi (W.runV (As := []) (rest := []) ⟨hx, hb, hml, hown, hts⟩ (c9_thrown l D ad cI cZ cC (k_lot M (xs (6 * n + 1)) (xs (6 * n + 2))) (M) hM2) (cwV 0 hts gL_law_X9_thrown rfl rfl rfl kd_X9_thrown ⟨Nat.le_of_ble_eq_true rfl, Nat.le_of_ble_eq_true rfl⟩) ⟨mB_blind, m_recv hKm hB2, m_pre hKm hB2 _⟩ rfl rfl hl.1 rfl (lv_room (Nat.le_of_ble_eq_true rfl)) dL_law_1264 ⟨by show cells + 21 + 0 + 0 ≤ 601024; omega, by show slots + 839 + 0 + 0 ≤ 7293033; omega⟩) (fun r3 hr3 => ?_)
  subst hr3
  refine lv_iload hx hb dL_law_1267 (lv_at hl 1 rfl) ?_
  refine lv_icmp_eq (tgt := 1274) hx hb dL_law_1269 (by decide) (fun c9 => ?_) (fun c9 => absurd rfl c9)
  have hfin : ∀ ls, lv_has ls 7 [(6, .int (r_winnerAnew M (xs (6 * n + 1)) (xs (6 * n + 2)))), (5, .int (nI (k_lot M (xs (6 * n + 1)) (xs (6 * n + 2))))), (0, .ref b), (1, .ref h), (2, .ref (ad 0)), (3, .ref oa), (4, .int (nI (6 * n)))] → W p l e room_1 s m args below meth c H2 locs2 (cells + 21 + 0) (slots + 839 + 0) Q (F0 m 2054 ls []) := fun ls hl => by
    refine W.widen (k := cells + 241) (n := slots + 12126) (by omega) (by omega) ?_
    exact kk _ _ _ _ _ _ ⟨hc3, hM2, hI2.1 hLB, by have := hI2.2; omega, hP2, hB2, ho2, hS2⟩ ls (lv_sub hl [2, 3, 4, 5, 6] rfl)
  refine lv_iload hx hb dL_law_1274 (lv_at hl 1 rfl) ?_
  refine n_if_ne (tgt := 1291) hx hb dL_law_1276 (by decide) (by omega) (fun c8 => ?_) (fun c8 => ?_)
  · refine lv_goto (tgt := 2054) hx hb dL_law_1291 (by decide) (hfin ls hl)
  · have ho3 := hout c8
    rw [ho3] at ho2
    refine lv_aload_n hx hb dL_law_1279 rfl (lv_at hl 5 rfl) ?_
    refine lv_iconst (v := nI 0) hx hb dL_law_1280 (by decide) ?_
    refine va_lald hx hb hKJ (va_P_one ho2) 0 0 rfl rfl (vp_in_nI (by decide) (by decide)) dL_law_1281 ?_
    refine lv_iload hx hb dL_law_1282 (lv_at hl 0 rfl) ?_
    refine lv_i2l (v := Int32.toInt64 (r_winnerAnew M (xs (6 * n + 1)) (xs (6 * n + 2)))) hx hb dL_law_1284 rfl ?_
    refine lw_lcmp hx hb dL_law_1285 ?_
    refine n_if_eq (tgt := 1291) hx hb dL_law_1286 (by decide) (by decide) (fun _ => ?_) (fun c7 => absurd rfl c7)
    exact lv_goto (tgt := 2054) hx hb dL_law_1291 (by decide) (hfin ls hl)
set_option maxHeartbeats 4000000 in
set_option maxRecDepth 100000 in
theorem lc_line {p : Program} {l : Launch} {e : Env} {s : State} {m : MethodId} {args : Array Value} {below : List Frame} {meth : Method} {c : Code} {b L : Nat} {xs : Nat → Int32} {Q : State → Prop} {D : va_G} {cI cO cb cZ cC cJ : ClassId} {eA mi : Nat} {st ad : Nat → Nat} {dO dT : Nat} {vF : Value} {h oa : Nat} (hst : l.stackTraces = false) (C0 : LC p s m args c b L xs D cI cO cb cZ cC cJ eA mi st ad dO dT vF oa) {n : Nat} (hn : 6 * n + 6 ≤ L) (hL : L ≤ 3072) {M : MS} {ws : va_W} {th : Nat} {x : Int64} {H : Heap} {locs : List Loc} (hI : LI D cI cO eA st cZ cC cJ s ad h oa n M ws th x H locs) {cells slots : Nat} (hc1 : cells + 241 ≤ 601024) (hc2 : slots + 12126 ≤ 7293033) (kk : ∀ M ws th x H locs, LI D cI cO eA st cZ cC cJ s ad h oa (n + 1) M ws th x H locs → ∀ ls, lv_has ls 7 [(0, .ref b), (1, .ref h), (2, .ref (ad 0)), (3, .ref oa), (4, .int (nI (6 * n)))] → W p l e room_1 s m args below meth c H locs (cells + 241) (slots + 12126) Q (F0 m 2054 ls [])) : ∀ ls, lv_has ls 7 [(0, .ref b), (1, .ref h), (2, .ref (ad 0)), (3, .ref oa), (4, .int (nI (6 * n)))] → W p l e room_1 s m args below meth c H locs cells slots Q (F0 m 1294 ls []) := by
  obtain ⟨hx, hb, hml, hown, hts, hX, hbl, hK, hKm, hKJ, hG, hGT, hN, hsI, hdis, hmn, hon, hnm⟩ := C0
  obtain ⟨hc, hM, hLB, h15, hP, hPm, ho, hS⟩ := hI
  have hbA : ¬ (fun q : Nat => s.heap.size ≤ q) b := Nat.not_le.mpr hbl
  have hno : ¬ lA s.heap.size ad oa oa := fun q => q.2.2 rfl
  have hI2 := LB_line (M := M) ((xs (6 * n + 1)))
  intro ls hl
  refine lv_aload_n hx hb dL_law_1294 rfl (lv_at hl 1 rfl) ?_
  refine lv_aload_n hx hb dL_law_1295 rfl (lv_at hl 0 rfl) ?_
  refine lv_iload hx hb dL_law_1296 (lv_at hl 4 rfl) ?_
  refine lv_iconst (v := nI 1) hx hb dL_law_1298 (by decide) ?_
  refine n_iadd hx hb dL_law_1299 (z := 6 * n + 1) rfl ?_
  refine va_sld hx hb hX hbl hbA hS (vp_in_nI (by omega) (by omega)) dL_law_1300 ?_
  rw [nI_clamp (show 6 * n + 1 < 2 ^ 31 by omega)]
  refine lv_aload_n hx hb dL_law_1301 rfl (lv_at hl 3 rfl) ?_
  refine va_calli (vx_runSW (As := [.ref h, .int (xs (6 * n + 1)), .ref oa]) (rest := []) ⟨hx, hb, hml, hown, hts⟩ (cL9_line l hst D cI cO cb eA mi st dO dT vF ws hc hM hsI cJ oa x hno (xs (6 * n + 1))) (vx_cwSW 3 hts gL_law_L_line rfl rfl rfl kd_L_line ⟨Nat.le_of_ble_eq_true rfl, Nat.le_of_ble_eq_true rfl⟩) ⟨lB_blind, lB_pre hK hKJ hG hGT hN (fun q h => h.1) hS (fresh_lA hPm ho hS) hP ho _⟩ rfl rfl hl.1 rfl (lv_room (Nat.le_of_ble_eq_true rfl)) dL_law_1302 ⟨by show cells + 3 ≤ 601024; omega, by show slots + 26 ≤ 7293033; omega⟩) hS (fun q _ h => h.elim (fun h => h.1) (fun h => by rw [h]; exact hon)) (fun q h => h.elim (fun h => h.1) (fun h => by rw [h]; exact hon)) (fun r u U8 H1 locs1 ht hvm hu hB hz1 hk1 hS1 => ?_)
  obtain ⟨hri, hk3, hout, hc3⟩ := hu
  subst hri
  rw [ht] at hB
  obtain ⟨hB1, ho1⟩ := hB
  have hPm1 := mP_keep hPm hk1 hnm
  clear hS hP hPm ho
  have hS := hS1
  refine lv_istore (lv' := [(5, .int (nI (k_aw M (xs (6 * n + 1))))), (0, .ref b), (1, .ref h), (2, .ref (ad 0)), (3, .ref oa), (4, .int (nI (6 * n)))]) hx hb dL_law_1305 hl (by decide) rfl (fun ls hl => ?_)
  refine lv_aload_n hx hb dL_law_1307 rfl (lv_at hl 3 rfl) ?_
  refine lv_aload_n hx hb dL_law_1308 rfl (lv_at hl 1 rfl) ?_
  refine lv_iload hx hb dL_law_1309 (lv_at hl 5 rfl) ?_
  refine lv_iconst (v := nI 1) hx hb dL_law_1311 (by decide) ?_
  refine n_iadd hx hb dL_law_1312 (z := 6 * n + 1) rfl ?_
  refine va_sld hx hb hX hbl hbA hS (vp_in_nI (by omega) (by omega)) dL_law_1313 ?_
  rw [nI_clamp (show 6 * n + 1 < 2 ^ 31 by omega)]
  refine va_calli (va_runV (As := [.int (xs (6 * n + 1))]) (rest := []) ⟨hx, hb, hml, hown, hts⟩ (c9_line l D ad cI cZ cC th M hM hdis (xs (6 * n + 1))) (cwV 1 hts gL_law_X9_line rfl rfl rfl kd_X9_line ⟨Nat.le_of_ble_eq_true rfl, Nat.le_of_ble_eq_true rfl⟩) ⟨mB_blind, m_recv hKm hPm1, m_pre hKm hPm1 _⟩ rfl rfl hl.1 rfl (lv_room (Nat.le_of_ble_eq_true rfl)) dL_law_1314 ⟨by show cells + 3 + 0 ≤ 601024; omega, by show slots + 26 + 0 ≤ 7293033; omega⟩) hS (fun q _ h => hmn q h) (fun q h => hmn q h) (fun r2 u2 U9 H2 locs2 ht2 hvm2 hu2 hB2 hz2 hk2 hS2 => ?_)
  subst hu2
  replace hB2 : va_P D vwCl (mws ad cI cZ cC (k_aw M (xs (6 * n + 1))) (g_line M (xs (6 * n + 1)))) U9.heap := hB2
  rw [ht2] at hB2
  have hP2 := cP_keep hB1 hc3.dis hk2
  have ho2 := ho1.kept (hk2 oa ho1.lt hnm)
  refine lv_istore (lv' := [(6, .int (r_line M (xs (6 * n + 1)))), (5, .int (nI (k_aw M (xs (6 * n + 1))))), (0, .ref b), (1, .ref h), (2, .ref (ad 0)), (3, .ref oa), (4, .int (nI (6 * n)))]) hx hb dL_law_1317 hl (by decide) rfl (fun ls hl => ?_)
  have hM2 := (MI_line hM ((xs (6 * n + 1))))
  refine lv_aload_n hx hb dL_law_1319 rfl (lv_at hl 4 rfl) ?_
  refine vp_callSi (W.runV (As := []) (rest := []) ⟨hx, hb, hml, hown, hts⟩ (c9_thrown l D ad cI cZ cC (k_aw M (xs (6 * n + 1))) (g_line M (xs (6 * n + 1))) hM2) (cwV 0 hts gL_law_X9_thrown rfl rfl rfl kd_X9_thrown ⟨Nat.le_of_ble_eq_true rfl, Nat.le_of_ble_eq_true rfl⟩) ⟨mB_blind, m_recv hKm hB2, m_pre hKm hB2 _⟩ rfl rfl hl.1 rfl (lv_room (Nat.le_of_ble_eq_true rfl)) dL_law_1320 ⟨by show cells + 3 + 0 + 0 ≤ 601024; omega, by show slots + 26 + 0 + 0 ≤ 7293033; omega⟩) (fun r3 hr3 => ?_)
  subst hr3
  refine lv_iload hx hb dL_law_1323 (lv_at hl 1 rfl) ?_
  refine lv_icmp_eq (tgt := 1330) hx hb dL_law_1325 (by decide) (fun c9 => ?_) (fun c9 => absurd rfl c9)
  have hfin : ∀ ls, lv_has ls 7 [(6, .int (r_line M (xs (6 * n + 1)))), (5, .int (nI (k_aw M (xs (6 * n + 1))))), (0, .ref b), (1, .ref h), (2, .ref (ad 0)), (3, .ref oa), (4, .int (nI (6 * n)))] → W p l e room_1 s m args below meth c H2 locs2 (cells + 3 + 0) (slots + 26 + 0) Q (F0 m 2054 ls []) := fun ls hl => by
    refine W.widen (k := cells + 241) (n := slots + 12126) (by omega) (by omega) ?_
    exact kk _ _ _ _ _ _ ⟨hc3, hM2, hI2.1 hLB, by have := hI2.2; omega, hP2, hB2, ho2, hS2⟩ ls (lv_sub hl [2, 3, 4, 5, 6] rfl)
  refine lv_iload hx hb dL_law_1330 (lv_at hl 1 rfl) ?_
  refine n_if_ne (tgt := 1347) hx hb dL_law_1332 (by decide) (by omega) (fun c8 => ?_) (fun c8 => ?_)
  · refine lv_goto (tgt := 2054) hx hb dL_law_1347 (by decide) (hfin ls hl)
  · have ho3 := hout c8
    rw [ho3] at ho2
    refine lv_aload_n hx hb dL_law_1335 rfl (lv_at hl 5 rfl) ?_
    refine lv_iconst (v := nI 0) hx hb dL_law_1336 (by decide) ?_
    refine va_lald hx hb hKJ (va_P_one ho2) 0 0 rfl rfl (vp_in_nI (by decide) (by decide)) dL_law_1337 ?_
    refine lv_iload hx hb dL_law_1338 (lv_at hl 0 rfl) ?_
    refine lv_i2l (v := Int32.toInt64 (r_line M (xs (6 * n + 1)))) hx hb dL_law_1340 rfl ?_
    refine lw_lcmp hx hb dL_law_1341 ?_
    refine n_if_eq (tgt := 1347) hx hb dL_law_1342 (by decide) (by decide) (fun _ => ?_) (fun c7 => absurd rfl c7)
    exact lv_goto (tgt := 2054) hx hb dL_law_1347 (by decide) (hfin ls hl)
set_option maxHeartbeats 4000000 in
set_option maxRecDepth 100000 in
theorem lc_lineChar {p : Program} {l : Launch} {e : Env} {s : State} {m : MethodId} {args : Array Value} {below : List Frame} {meth : Method} {c : Code} {b L : Nat} {xs : Nat → Int32} {Q : State → Prop} {D : va_G} {cI cO cb cZ cC cJ : ClassId} {eA mi : Nat} {st ad : Nat → Nat} {dO dT : Nat} {vF : Value} {h oa : Nat} (hst : l.stackTraces = false) (C0 : LC p s m args c b L xs D cI cO cb cZ cC cJ eA mi st ad dO dT vF oa) {n : Nat} (hn : 6 * n + 6 ≤ L) (hL : L ≤ 3072) {M : MS} {ws : va_W} {th : Nat} {x : Int64} {H : Heap} {locs : List Loc} (hI : LI D cI cO eA st cZ cC cJ s ad h oa n M ws th x H locs) {cells slots : Nat} (hc1 : cells + 241 ≤ 601024) (hc2 : slots + 12126 ≤ 7293033) (kk : ∀ M ws th x H locs, LI D cI cO eA st cZ cC cJ s ad h oa (n + 1) M ws th x H locs → ∀ ls, lv_has ls 7 [(0, .ref b), (1, .ref h), (2, .ref (ad 0)), (3, .ref oa), (4, .int (nI (6 * n)))] → W p l e room_1 s m args below meth c H locs (cells + 241) (slots + 12126) Q (F0 m 2054 ls [])) : ∀ ls, lv_has ls 7 [(0, .ref b), (1, .ref h), (2, .ref (ad 0)), (3, .ref oa), (4, .int (nI (6 * n)))] → W p l e room_1 s m args below meth c H locs cells slots Q (F0 m 1350 ls []) := by
  obtain ⟨hx, hb, hml, hown, hts, hX, hbl, hK, hKm, hKJ, hG, hGT, hN, hsI, hdis, hmn, hon, hnm⟩ := C0
  obtain ⟨hc, hM, hLB, h15, hP, hPm, ho, hS⟩ := hI
  have hbA : ¬ (fun q : Nat => s.heap.size ≤ q) b := Nat.not_le.mpr hbl
  have hno : ¬ lA s.heap.size ad oa oa := fun q => q.2.2 rfl
  have hI2 := LB_line (M := M) ((xs (6 * n + 1)))
  intro ls hl
  refine lv_aload_n hx hb dL_law_1350 rfl (lv_at hl 1 rfl) ?_
  refine lv_aload_n hx hb dL_law_1351 rfl (lv_at hl 0 rfl) ?_
  refine lv_iload hx hb dL_law_1352 (lv_at hl 4 rfl) ?_
  refine lv_iconst (v := nI 1) hx hb dL_law_1354 (by decide) ?_
  refine n_iadd hx hb dL_law_1355 (z := 6 * n + 1) rfl ?_
  refine va_sld hx hb hX hbl hbA hS (vp_in_nI (by omega) (by omega)) dL_law_1356 ?_
  rw [nI_clamp (show 6 * n + 1 < 2 ^ 31 by omega)]
  refine lv_aload_n hx hb dL_law_1357 rfl (lv_at hl 0 rfl) ?_
  refine lv_iload hx hb dL_law_1358 (lv_at hl 4 rfl) ?_
  refine lv_iconst (v := nI 2) hx hb dL_law_1360 (by decide) ?_
  refine n_iadd hx hb dL_law_1361 (z := 6 * n + 2) rfl ?_
  refine va_sld hx hb hX hbl hbA hS (vp_in_nI (by omega) (by omega)) dL_law_1362 ?_
  rw [nI_clamp (show 6 * n + 2 < 2 ^ 31 by omega)]
  refine lv_aload_n hx hb dL_law_1363 rfl (lv_at hl 3 rfl) ?_
  refine va_calli (vx_runSW (As := [.ref h, .int (xs (6 * n + 1)), .int (xs (6 * n + 2)), .ref oa]) (rest := []) ⟨hx, hb, hml, hown, hts⟩ (cL9_lineChar l hst D cI cO cb eA mi st dO dT vF ws hc hM hsI cJ oa x hno (xs (6 * n + 1)) (xs (6 * n + 2))) (vx_cwSW 4 hts gL_law_L_lineChar rfl rfl rfl kd_L_lineChar ⟨Nat.le_of_ble_eq_true rfl, Nat.le_of_ble_eq_true rfl⟩) ⟨lB_blind, lB_pre hK hKJ hG hGT hN (fun q h => h.1) hS (fresh_lA hPm ho hS) hP ho _⟩ rfl rfl hl.1 rfl (lv_room (Nat.le_of_ble_eq_true rfl)) dL_law_1364 ⟨by show cells + 4 ≤ 601024; omega, by show slots + 32 ≤ 7293033; omega⟩) hS (fun q _ h => h.elim (fun h => h.1) (fun h => by rw [h]; exact hon)) (fun q h => h.elim (fun h => h.1) (fun h => by rw [h]; exact hon)) (fun r u U8 H1 locs1 ht hvm hu hB hz1 hk1 hS1 => ?_)
  obtain ⟨hri, hk3, hout, hc3⟩ := hu
  subst hri
  rw [ht] at hB
  obtain ⟨hB1, ho1⟩ := hB
  have hPm1 := mP_keep hPm hk1 hnm
  clear hS hP hPm ho
  have hS := hS1
  refine lv_istore (lv' := [(5, .int (nI (k_lineChar M (xs (6 * n + 1)) (xs (6 * n + 2))))), (0, .ref b), (1, .ref h), (2, .ref (ad 0)), (3, .ref oa), (4, .int (nI (6 * n)))]) hx hb dL_law_1367 hl (by decide) rfl (fun ls hl => ?_)
  refine lv_aload_n hx hb dL_law_1369 rfl (lv_at hl 3 rfl) ?_
  refine lv_aload_n hx hb dL_law_1370 rfl (lv_at hl 1 rfl) ?_
  refine lv_iload hx hb dL_law_1371 (lv_at hl 5 rfl) ?_
  refine lv_iconst (v := nI 1) hx hb dL_law_1373 (by decide) ?_
  refine n_iadd hx hb dL_law_1374 (z := 6 * n + 1) rfl ?_
  refine va_sld hx hb hX hbl hbA hS (vp_in_nI (by omega) (by omega)) dL_law_1375 ?_
  rw [nI_clamp (show 6 * n + 1 < 2 ^ 31 by omega)]
  refine lv_aload_n hx hb dL_law_1376 rfl (lv_at hl 1 rfl) ?_
  refine lv_iload hx hb dL_law_1377 (lv_at hl 5 rfl) ?_
  refine lv_iconst (v := nI 2) hx hb dL_law_1379 (by decide) ?_
  refine n_iadd hx hb dL_law_1380 (z := 6 * n + 2) rfl ?_
  refine va_sld hx hb hX hbl hbA hS (vp_in_nI (by omega) (by omega)) dL_law_1381 ?_
  rw [nI_clamp (show 6 * n + 2 < 2 ^ 31 by omega)]
  refine va_calli (va_runV (As := [.int (xs (6 * n + 1)), .int (xs (6 * n + 2))]) (rest := []) ⟨hx, hb, hml, hown, hts⟩ (c9_lineChar l D ad cI cZ cC th M hM hdis (xs (6 * n + 1)) (xs (6 * n + 2))) (cwV 2 hts gL_law_X9_lineChar rfl rfl rfl kd_X9_lineChar ⟨Nat.le_of_ble_eq_true rfl, Nat.le_of_ble_eq_true rfl⟩) ⟨mB_blind, m_recv hKm hPm1, m_pre hKm hPm1 _⟩ rfl rfl hl.1 rfl (lv_room (Nat.le_of_ble_eq_true rfl)) dL_law_1382 ⟨by show cells + 4 + 0 ≤ 601024; omega, by show slots + 32 + 0 ≤ 7293033; omega⟩) hS (fun q _ h => hmn q h) (fun q h => hmn q h) (fun r2 u2 U9 H2 locs2 ht2 hvm2 hu2 hB2 hz2 hk2 hS2 => ?_)
  subst hu2
  replace hB2 : va_P D vwCl (mws ad cI cZ cC (k_lineChar M (xs (6 * n + 1)) (xs (6 * n + 2))) (g_line M (xs (6 * n + 1)))) U9.heap := hB2
  rw [ht2] at hB2
  have hP2 := cP_keep hB1 hc3.dis hk2
  have ho2 := ho1.kept (hk2 oa ho1.lt hnm)
  refine lv_istore (lv' := [(6, .int (r_lineChar M (xs (6 * n + 1)) (xs (6 * n + 2)))), (5, .int (nI (k_lineChar M (xs (6 * n + 1)) (xs (6 * n + 2))))), (0, .ref b), (1, .ref h), (2, .ref (ad 0)), (3, .ref oa), (4, .int (nI (6 * n)))]) hx hb dL_law_1385 hl (by decide) rfl (fun ls hl => ?_)
  have hM2 := (MI_line hM ((xs (6 * n + 1))))
  refine lv_aload_n hx hb dL_law_1387 rfl (lv_at hl 4 rfl) ?_
  refine vp_callSi (W.runV (As := []) (rest := []) ⟨hx, hb, hml, hown, hts⟩ (c9_thrown l D ad cI cZ cC (k_lineChar M (xs (6 * n + 1)) (xs (6 * n + 2))) (g_line M (xs (6 * n + 1))) hM2) (cwV 0 hts gL_law_X9_thrown rfl rfl rfl kd_X9_thrown ⟨Nat.le_of_ble_eq_true rfl, Nat.le_of_ble_eq_true rfl⟩) ⟨mB_blind, m_recv hKm hB2, m_pre hKm hB2 _⟩ rfl rfl hl.1 rfl (lv_room (Nat.le_of_ble_eq_true rfl)) dL_law_1388 ⟨by show cells + 4 + 0 + 0 ≤ 601024; omega, by show slots + 32 + 0 + 0 ≤ 7293033; omega⟩) (fun r3 hr3 => ?_)
  subst hr3
  refine lv_iload hx hb dL_law_1391 (lv_at hl 1 rfl) ?_
  refine lv_icmp_eq (tgt := 1398) hx hb dL_law_1393 (by decide) (fun c9 => ?_) (fun c9 => absurd rfl c9)
  have hfin : ∀ ls, lv_has ls 7 [(6, .int (r_lineChar M (xs (6 * n + 1)) (xs (6 * n + 2)))), (5, .int (nI (k_lineChar M (xs (6 * n + 1)) (xs (6 * n + 2))))), (0, .ref b), (1, .ref h), (2, .ref (ad 0)), (3, .ref oa), (4, .int (nI (6 * n)))] → W p l e room_1 s m args below meth c H2 locs2 (cells + 4 + 0) (slots + 32 + 0) Q (F0 m 2054 ls []) := fun ls hl => by
    refine W.widen (k := cells + 241) (n := slots + 12126) (by omega) (by omega) ?_
    exact kk _ _ _ _ _ _ ⟨hc3, hM2, hI2.1 hLB, by have := hI2.2; omega, hP2, hB2, ho2, hS2⟩ ls (lv_sub hl [2, 3, 4, 5, 6] rfl)
  refine lv_iload hx hb dL_law_1398 (lv_at hl 1 rfl) ?_
  refine n_if_ne (tgt := 1415) hx hb dL_law_1400 (by decide) (by omega) (fun c8 => ?_) (fun c8 => ?_)
  · refine lv_goto (tgt := 2054) hx hb dL_law_1415 (by decide) (hfin ls hl)
  · have ho3 := hout c8
    rw [ho3] at ho2
    refine lv_aload_n hx hb dL_law_1403 rfl (lv_at hl 5 rfl) ?_
    refine lv_iconst (v := nI 0) hx hb dL_law_1404 (by decide) ?_
    refine va_lald hx hb hKJ (va_P_one ho2) 0 0 rfl rfl (vp_in_nI (by decide) (by decide)) dL_law_1405 ?_
    refine lv_iload hx hb dL_law_1406 (lv_at hl 0 rfl) ?_
    refine lv_i2l (v := Int32.toInt64 (r_lineChar M (xs (6 * n + 1)) (xs (6 * n + 2)))) hx hb dL_law_1408 rfl ?_
    refine lw_lcmp hx hb dL_law_1409 ?_
    refine n_if_eq (tgt := 1415) hx hb dL_law_1410 (by decide) (by decide) (fun _ => ?_) (fun c7 => absurd rfl c7)
    exact lv_goto (tgt := 2054) hx hb dL_law_1415 (by decide) (hfin ls hl)
set_option maxHeartbeats 4000000 in
set_option maxRecDepth 100000 in
theorem lc_complain {p : Program} {l : Launch} {e : Env} {s : State} {m : MethodId} {args : Array Value} {below : List Frame} {meth : Method} {c : Code} {b L : Nat} {xs : Nat → Int32} {Q : State → Prop} {D : va_G} {cI cO cb cZ cC cJ : ClassId} {eA mi : Nat} {st ad : Nat → Nat} {dO dT : Nat} {vF : Value} {h oa : Nat} (hst : l.stackTraces = false) (C0 : LC p s m args c b L xs D cI cO cb cZ cC cJ eA mi st ad dO dT vF oa) {n : Nat} (hn : 6 * n + 6 ≤ L) (hL : L ≤ 3072) {M : MS} {ws : va_W} {th : Nat} {x : Int64} {H : Heap} {locs : List Loc} (hI : LI D cI cO eA st cZ cC cJ s ad h oa n M ws th x H locs) {cells slots : Nat} (hc1 : cells + 241 ≤ 601024) (hc2 : slots + 12126 ≤ 7293033) (kk : ∀ M ws th x H locs, LI D cI cO eA st cZ cC cJ s ad h oa (n + 1) M ws th x H locs → ∀ ls, lv_has ls 7 [(0, .ref b), (1, .ref h), (2, .ref (ad 0)), (3, .ref oa), (4, .int (nI (6 * n)))] → W p l e room_1 s m args below meth c H locs (cells + 241) (slots + 12126) Q (F0 m 2054 ls [])) : ∀ ls, lv_has ls 7 [(0, .ref b), (1, .ref h), (2, .ref (ad 0)), (3, .ref oa), (4, .int (nI (6 * n)))] → W p l e room_1 s m args below meth c H locs cells slots Q (F0 m 1418 ls []) := by
  obtain ⟨hx, hb, hml, hown, hts, hX, hbl, hK, hKm, hKJ, hG, hGT, hN, hsI, hdis, hmn, hon, hnm⟩ := C0
  obtain ⟨hc, hM, hLB, h15, hP, hPm, ho, hS⟩ := hI
  have hbA : ¬ (fun q : Nat => s.heap.size ≤ q) b := Nat.not_le.mpr hbl
  have hno : ¬ lA s.heap.size ad oa oa := fun q => q.2.2 rfl
  have hI2 := LB_complain (M := M) (xs (6 * n + 1)) (xs (6 * n + 2)) (xs (6 * n + 3))
  intro ls hl
  refine lv_aload_n hx hb dL_law_1418 rfl (lv_at hl 1 rfl) ?_
  refine lv_aload_n hx hb dL_law_1419 rfl (lv_at hl 0 rfl) ?_
  refine lv_iload hx hb dL_law_1420 (lv_at hl 4 rfl) ?_
  refine lv_iconst (v := nI 1) hx hb dL_law_1422 (by decide) ?_
  refine n_iadd hx hb dL_law_1423 (z := 6 * n + 1) rfl ?_
  refine va_sld hx hb hX hbl hbA hS (vp_in_nI (by omega) (by omega)) dL_law_1424 ?_
  rw [nI_clamp (show 6 * n + 1 < 2 ^ 31 by omega)]
  refine lv_aload_n hx hb dL_law_1425 rfl (lv_at hl 0 rfl) ?_
  refine lv_iload hx hb dL_law_1426 (lv_at hl 4 rfl) ?_
  refine lv_iconst (v := nI 2) hx hb dL_law_1428 (by decide) ?_
  refine n_iadd hx hb dL_law_1429 (z := 6 * n + 2) rfl ?_
  refine va_sld hx hb hX hbl hbA hS (vp_in_nI (by omega) (by omega)) dL_law_1430 ?_
  rw [nI_clamp (show 6 * n + 2 < 2 ^ 31 by omega)]
  refine lv_aload_n hx hb dL_law_1431 rfl (lv_at hl 0 rfl) ?_
  refine lv_iload hx hb dL_law_1432 (lv_at hl 4 rfl) ?_
  refine lv_iconst (v := nI 3) hx hb dL_law_1434 (by decide) ?_
  refine n_iadd hx hb dL_law_1435 (z := 6 * n + 3) rfl ?_
  refine va_sld hx hb hX hbl hbA hS (vp_in_nI (by omega) (by omega)) dL_law_1436 ?_
  rw [nI_clamp (show 6 * n + 3 < 2 ^ 31 by omega)]
  refine lv_aload_n hx hb dL_law_1437 rfl (lv_at hl 3 rfl) ?_
  refine va_calli (vx_runSW (As := [.ref h, .int (xs (6 * n + 1)), .int (xs (6 * n + 2)), .int (xs (6 * n + 3)), .ref oa]) (rest := []) ⟨hx, hb, hml, hown, hts⟩ (cL9_complain l hst D cI cO cb eA mi st dO dT vF ws hc hM hsI cJ oa x hno (xs (6 * n + 1)) (xs (6 * n + 2)) (xs (6 * n + 3))) (vx_cwSW 5 hts gL_law_L_complain rfl rfl rfl kd_L_complain ⟨Nat.le_of_ble_eq_true rfl, Nat.le_of_ble_eq_true rfl⟩) ⟨lB_blind, lB_pre hK hKJ hG hGT hN (fun q h => h.1) hS (fresh_lA hPm ho hS) hP ho _⟩ rfl rfl hl.1 rfl (lv_room (Nat.le_of_ble_eq_true rfl)) dL_law_1438 ⟨by show cells + 4 ≤ 601024; omega, by show slots + 114 ≤ 7293033; omega⟩) hS (fun q _ h => h.elim (fun h => h.1) (fun h => by rw [h]; exact hon)) (fun q h => h.elim (fun h => h.1) (fun h => by rw [h]; exact hon)) (fun r u U8 H1 locs1 ht hvm hu hB hz1 hk1 hS1 => ?_)
  obtain ⟨hri, hk3, hout, hc3⟩ := hu
  subst hri
  rw [ht] at hB
  obtain ⟨hB1, ho1⟩ := hB
  have hPm1 := mP_keep hPm hk1 hnm
  clear hS hP hPm ho
  have hS := hS1
  refine lv_istore (lv' := [(5, .int (nI (k_complain M (xs (6 * n + 1)) (xs (6 * n + 2)) (xs (6 * n + 3))))), (0, .ref b), (1, .ref h), (2, .ref (ad 0)), (3, .ref oa), (4, .int (nI (6 * n)))]) hx hb dL_law_1441 hl (by decide) rfl (fun ls hl => ?_)
  refine lv_aload_n hx hb dL_law_1443 rfl (lv_at hl 3 rfl) ?_
  refine lv_aload_n hx hb dL_law_1444 rfl (lv_at hl 1 rfl) ?_
  refine lv_iload hx hb dL_law_1445 (lv_at hl 5 rfl) ?_
  refine lv_iconst (v := nI 1) hx hb dL_law_1447 (by decide) ?_
  refine n_iadd hx hb dL_law_1448 (z := 6 * n + 1) rfl ?_
  refine va_sld hx hb hX hbl hbA hS (vp_in_nI (by omega) (by omega)) dL_law_1449 ?_
  rw [nI_clamp (show 6 * n + 1 < 2 ^ 31 by omega)]
  refine lv_aload_n hx hb dL_law_1450 rfl (lv_at hl 1 rfl) ?_
  refine lv_iload hx hb dL_law_1451 (lv_at hl 5 rfl) ?_
  refine lv_iconst (v := nI 2) hx hb dL_law_1453 (by decide) ?_
  refine n_iadd hx hb dL_law_1454 (z := 6 * n + 2) rfl ?_
  refine va_sld hx hb hX hbl hbA hS (vp_in_nI (by omega) (by omega)) dL_law_1455 ?_
  rw [nI_clamp (show 6 * n + 2 < 2 ^ 31 by omega)]
  refine lv_aload_n hx hb dL_law_1456 rfl (lv_at hl 1 rfl) ?_
  refine lv_iload hx hb dL_law_1457 (lv_at hl 5 rfl) ?_
  refine lv_iconst (v := nI 3) hx hb dL_law_1459 (by decide) ?_
  refine n_iadd hx hb dL_law_1460 (z := 6 * n + 3) rfl ?_
  refine va_sld hx hb hX hbl hbA hS (vp_in_nI (by omega) (by omega)) dL_law_1461 ?_
  rw [nI_clamp (show 6 * n + 3 < 2 ^ 31 by omega)]
  refine va_calli (va_runV (As := [.int (xs (6 * n + 1)), .int (xs (6 * n + 2)), .int (xs (6 * n + 3))]) (rest := []) ⟨hx, hb, hml, hown, hts⟩ (c9_complain l D ad cI cZ cC th M hM hdis (xs (6 * n + 1)) (xs (6 * n + 2)) (xs (6 * n + 3))) (cwV 3 hts gL_law_X9_complain rfl rfl rfl kd_X9_complain ⟨Nat.le_of_ble_eq_true rfl, Nat.le_of_ble_eq_true rfl⟩) ⟨mB_blind, m_recv hKm hPm1, m_pre hKm hPm1 _⟩ rfl rfl hl.1 rfl (lv_room (Nat.le_of_ble_eq_true rfl)) dL_law_1462 ⟨by show cells + 4 + 0 ≤ 601024; omega, by show slots + 114 + 0 ≤ 7293033; omega⟩) hS (fun q _ h => hmn q h) (fun q h => hmn q h) (fun r2 u2 U9 H2 locs2 ht2 hvm2 hu2 hB2 hz2 hk2 hS2 => ?_)
  subst hu2
  replace hB2 : va_P D vwCl (mws ad cI cZ cC (k_complain M (xs (6 * n + 1)) (xs (6 * n + 2)) (xs (6 * n + 3))) (g_complain M (xs (6 * n + 1)) (xs (6 * n + 2)) (xs (6 * n + 3)))) U9.heap := hB2
  rw [ht2] at hB2
  have hP2 := cP_keep hB1 hc3.dis hk2
  have ho2 := ho1.kept (hk2 oa ho1.lt hnm)
  refine lv_istore (lv' := [(6, .int (if k_complain M (xs (6 * n + 1)) (xs (6 * n + 2)) (xs (6 * n + 3)) = 0 then nI (M 22 0) else nI 0)), (5, .int (nI (k_complain M (xs (6 * n + 1)) (xs (6 * n + 2)) (xs (6 * n + 3))))), (0, .ref b), (1, .ref h), (2, .ref (ad 0)), (3, .ref oa), (4, .int (nI (6 * n)))]) hx hb dL_law_1465 hl (by decide) rfl (fun ls hl => ?_)
  have hM2 := (MI_complain hM (xs (6 * n + 1)) (xs (6 * n + 2)) (xs (6 * n + 3)))
  refine lv_aload_n hx hb dL_law_1467 rfl (lv_at hl 4 rfl) ?_
  refine vp_callSi (W.runV (As := []) (rest := []) ⟨hx, hb, hml, hown, hts⟩ (c9_thrown l D ad cI cZ cC (k_complain M (xs (6 * n + 1)) (xs (6 * n + 2)) (xs (6 * n + 3))) (g_complain M (xs (6 * n + 1)) (xs (6 * n + 2)) (xs (6 * n + 3))) hM2) (cwV 0 hts gL_law_X9_thrown rfl rfl rfl kd_X9_thrown ⟨Nat.le_of_ble_eq_true rfl, Nat.le_of_ble_eq_true rfl⟩) ⟨mB_blind, m_recv hKm hB2, m_pre hKm hB2 _⟩ rfl rfl hl.1 rfl (lv_room (Nat.le_of_ble_eq_true rfl)) dL_law_1468 ⟨by show cells + 4 + 0 + 0 ≤ 601024; omega, by show slots + 114 + 0 + 0 ≤ 7293033; omega⟩) (fun r3 hr3 => ?_)
  subst hr3
  refine lv_iload hx hb dL_law_1471 (lv_at hl 1 rfl) ?_
  refine lv_icmp_eq (tgt := 1478) hx hb dL_law_1473 (by decide) (fun c9 => ?_) (fun c9 => absurd rfl c9)
  have hfin : ∀ ls, lv_has ls 7 [(6, .int (if k_complain M (xs (6 * n + 1)) (xs (6 * n + 2)) (xs (6 * n + 3)) = 0 then nI (M 22 0) else nI 0)), (5, .int (nI (k_complain M (xs (6 * n + 1)) (xs (6 * n + 2)) (xs (6 * n + 3))))), (0, .ref b), (1, .ref h), (2, .ref (ad 0)), (3, .ref oa), (4, .int (nI (6 * n)))] → W p l e room_1 s m args below meth c H2 locs2 (cells + 4 + 0) (slots + 114 + 0) Q (F0 m 2054 ls []) := fun ls hl => by
    refine W.widen (k := cells + 241) (n := slots + 12126) (by omega) (by omega) ?_
    exact kk _ _ _ _ _ _ ⟨hc3, hM2, hI2.1 hLB, by have := hI2.2; omega, hP2, hB2, ho2, hS2⟩ ls (lv_sub hl [2, 3, 4, 5, 6] rfl)
  refine lv_iload hx hb dL_law_1478 (lv_at hl 1 rfl) ?_
  refine n_if_ne (tgt := 1495) hx hb dL_law_1480 (by decide) (by omega) (fun c8 => ?_) (fun c8 => ?_)
  · refine lv_goto (tgt := 2054) hx hb dL_law_1495 (by decide) (hfin ls hl)
  · have ho3 := hout c8
    rw [ho3] at ho2
    refine lv_aload_n hx hb dL_law_1483 rfl (lv_at hl 5 rfl) ?_
    refine lv_iconst (v := nI 0) hx hb dL_law_1484 (by decide) ?_
    refine va_lald hx hb hKJ (va_P_one ho2) 0 0 rfl rfl (vp_in_nI (by decide) (by decide)) dL_law_1485 ?_
    refine lv_iload hx hb dL_law_1486 (lv_at hl 0 rfl) ?_
    refine lv_i2l (v := Int32.toInt64 (if k_complain M (xs (6 * n + 1)) (xs (6 * n + 2)) (xs (6 * n + 3)) = 0 then nI (M 22 0) else nI 0)) hx hb dL_law_1488 rfl ?_
    refine lw_lcmp hx hb dL_law_1489 ?_
    refine n_if_eq (tgt := 1495) hx hb dL_law_1490 (by decide) (by decide) (fun _ => ?_) (fun c7 => absurd rfl c7)
    exact lv_goto (tgt := 2054) hx hb dL_law_1495 (by decide) (hfin ls hl)
set_option maxHeartbeats 4000000 in
set_option maxRecDepth 100000 in
theorem lc_rule_t {p : Program} {l : Launch} {e : Env} {s : State} {m : MethodId} {args : Array Value} {below : List Frame} {meth : Method} {c : Code} {b L : Nat} {xs : Nat → Int32} {Q : State → Prop} {D : va_G} {cI cO cb cZ cC cJ : ClassId} {eA mi : Nat} {st ad : Nat → Nat} {dO dT : Nat} {vF : Value} {h oa : Nat} (hst : l.stackTraces = false) (C0 : LC p s m args c b L xs D cI cO cb cZ cC cJ eA mi st ad dO dT vF oa) {n : Nat} (hn : 6 * n + 6 ≤ L) (hL : L ≤ 3072) {M : MS} {ws : va_W} {th : Nat} {x : Int64} {H : Heap} {locs : List Loc} (hI : LI D cI cO eA st cZ cC cJ s ad h oa n M ws th x H locs) (hv9 : xs (6 * n + 2) ≠ 0) {cells slots : Nat} (hc1 : cells + 241 ≤ 601024) (hc2 : slots + 12126 ≤ 7293033) (kk : ∀ M ws th x H locs, LI D cI cO eA st cZ cC cJ s ad h oa (n + 1) M ws th x H locs → ∀ ls, lv_has ls 7 [(0, .ref b), (1, .ref h), (2, .ref (ad 0)), (3, .ref oa), (4, .int (nI (6 * n)))] → W p l e room_1 s m args below meth c H locs (cells + 241) (slots + 12126) Q (F0 m 2054 ls [])) : ∀ ls, lv_has ls 7 [(0, .ref b), (1, .ref h), (2, .ref (ad 0)), (3, .ref oa), (4, .int (nI (6 * n)))] → W p l e room_1 s m args below meth c H locs cells slots Q (F0 m 1498 ls []) := by
  obtain ⟨hx, hb, hml, hown, hts, hX, hbl, hK, hKm, hKJ, hG, hGT, hN, hsI, hdis, hmn, hon, hnm⟩ := C0
  obtain ⟨hc, hM, hLB, h15, hP, hPm, ho, hS⟩ := hI
  have hbA : ¬ (fun q : Nat => s.heap.size ≤ q) b := Nat.not_le.mpr hbl
  have hno : ¬ lA s.heap.size ad oa oa := fun q => q.2.2 rfl
  have hI2 := LB_rule (M := M) (xs (6 * n + 1)) true (xs (6 * n + 3))
  intro ls hl
  refine lv_aload_n hx hb dL_law_1498 rfl (lv_at hl 1 rfl) ?_
  refine lv_aload_n hx hb dL_law_1499 rfl (lv_at hl 0 rfl) ?_
  refine lv_iload hx hb dL_law_1500 (lv_at hl 4 rfl) ?_
  refine lv_iconst (v := nI 1) hx hb dL_law_1502 (by decide) ?_
  refine n_iadd hx hb dL_law_1503 (z := 6 * n + 1) rfl ?_
  refine va_sld hx hb hX hbl hbA hS (vp_in_nI (by omega) (by omega)) dL_law_1504 ?_
  rw [nI_clamp (show 6 * n + 1 < 2 ^ 31 by omega)]
  refine lv_aload_n hx hb dL_law_1505 rfl (lv_at hl 0 rfl) ?_
  refine lv_iload hx hb dL_law_1506 (lv_at hl 4 rfl) ?_
  refine lv_iconst (v := nI 2) hx hb dL_law_1508 (by decide) ?_
  refine n_iadd hx hb dL_law_1509 (z := 6 * n + 2) rfl ?_
  refine va_sld hx hb hX hbl hbA hS (vp_in_nI (by omega) (by omega)) dL_law_1510 ?_
  rw [nI_clamp (show 6 * n + 2 < 2 ^ 31 by omega)]
  refine lv_if_eq (tgt := 1518) hx hb dL_law_1511 (by decide) (fun c9 => absurd c9 hv9) (fun c9 => ?_)
  refine lv_iconst (v := bi true) hx hb dL_law_1514 (by decide) ?_
  refine lv_goto (tgt := 1519) hx hb dL_law_1515 (by decide) ?_
  refine lv_aload_n hx hb dL_law_1519 rfl (lv_at hl 0 rfl) ?_
  refine lv_iload hx hb dL_law_1520 (lv_at hl 4 rfl) ?_
  refine lv_iconst (v := nI 3) hx hb dL_law_1522 (by decide) ?_
  refine n_iadd hx hb dL_law_1523 (z := 6 * n + 3) rfl ?_
  refine va_sld hx hb hX hbl hbA hS (vp_in_nI (by omega) (by omega)) dL_law_1524 ?_
  rw [nI_clamp (show 6 * n + 3 < 2 ^ 31 by omega)]
  refine lv_aload_n hx hb dL_law_1525 rfl (lv_at hl 3 rfl) ?_
  refine va_calli (vx_runSW (As := [.ref h, .int (xs (6 * n + 1)), .int (bi true), .int (xs (6 * n + 3)), .ref oa]) (rest := []) ⟨hx, hb, hml, hown, hts⟩ (cL9_rule l hst D cI cO cb eA mi st dO dT vF ws hc hM hsI cJ oa x hno (xs (6 * n + 1)) true (xs (6 * n + 3))) (vx_cwSW 5 hts gL_law_L_rule rfl rfl rfl kd_L_rule ⟨Nat.le_of_ble_eq_true rfl, Nat.le_of_ble_eq_true rfl⟩) ⟨lB_blind, lB_pre hK hKJ hG hGT hN (fun q h => h.1) hS (fresh_lA hPm ho hS) hP ho _⟩ rfl rfl hl.1 rfl (lv_room (Nat.le_of_ble_eq_true rfl)) dL_law_1526 ⟨by show cells + 6 ≤ 601024; omega, by show slots + 214 ≤ 7293033; omega⟩) hS (fun q _ h => h.elim (fun h => h.1) (fun h => by rw [h]; exact hon)) (fun q h => h.elim (fun h => h.1) (fun h => by rw [h]; exact hon)) (fun r u U8 H1 locs1 ht hvm hu hB hz1 hk1 hS1 => ?_)
  obtain ⟨hri, hk3, hout, hc3⟩ := hu
  subst hri
  rw [ht] at hB
  obtain ⟨hB1, ho1⟩ := hB
  have hPm1 := mP_keep hPm hk1 hnm
  clear hS hP hPm ho
  have hS := hS1
  refine lv_istore (lv' := [(5, .int (nI (k_rule M (xs (6 * n + 1)) true (xs (6 * n + 3))))), (0, .ref b), (1, .ref h), (2, .ref (ad 0)), (3, .ref oa), (4, .int (nI (6 * n)))]) hx hb dL_law_1529 hl (by decide) rfl (fun ls hl => ?_)
  refine lv_aload_n hx hb dL_law_1531 rfl (lv_at hl 3 rfl) ?_
  refine lv_aload_n hx hb dL_law_1532 rfl (lv_at hl 1 rfl) ?_
  refine lv_iload hx hb dL_law_1533 (lv_at hl 5 rfl) ?_
  refine lv_iconst (v := nI 1) hx hb dL_law_1535 (by decide) ?_
  refine n_iadd hx hb dL_law_1536 (z := 6 * n + 1) rfl ?_
  refine va_sld hx hb hX hbl hbA hS (vp_in_nI (by omega) (by omega)) dL_law_1537 ?_
  rw [nI_clamp (show 6 * n + 1 < 2 ^ 31 by omega)]
  refine lv_aload_n hx hb dL_law_1538 rfl (lv_at hl 1 rfl) ?_
  refine lv_iload hx hb dL_law_1539 (lv_at hl 5 rfl) ?_
  refine lv_iconst (v := nI 2) hx hb dL_law_1541 (by decide) ?_
  refine n_iadd hx hb dL_law_1542 (z := 6 * n + 2) rfl ?_
  refine va_sld hx hb hX hbl hbA hS (vp_in_nI (by omega) (by omega)) dL_law_1543 ?_
  rw [nI_clamp (show 6 * n + 2 < 2 ^ 31 by omega)]
  refine lv_if_eq (tgt := 1551) hx hb dL_law_1544 (by decide) (fun c9 => absurd c9 hv9) (fun c9 => ?_)
  refine lv_iconst (v := bi true) hx hb dL_law_1547 (by decide) ?_
  refine lv_goto (tgt := 1552) hx hb dL_law_1548 (by decide) ?_
  refine lv_aload_n hx hb dL_law_1552 rfl (lv_at hl 1 rfl) ?_
  refine lv_iload hx hb dL_law_1553 (lv_at hl 5 rfl) ?_
  refine lv_iconst (v := nI 3) hx hb dL_law_1555 (by decide) ?_
  refine n_iadd hx hb dL_law_1556 (z := 6 * n + 3) rfl ?_
  refine va_sld hx hb hX hbl hbA hS (vp_in_nI (by omega) (by omega)) dL_law_1557 ?_
  rw [nI_clamp (show 6 * n + 3 < 2 ^ 31 by omega)]
  refine va_calli (va_runV (As := [.int (xs (6 * n + 1)), .int (bi true), .int (xs (6 * n + 3))]) (rest := []) ⟨hx, hb, hml, hown, hts⟩ (c9_rule l D ad cI cZ cC th M hM hdis (xs (6 * n + 1)) true (xs (6 * n + 3))) (cwV 3 hts gL_law_X9_rule rfl rfl rfl kd_X9_rule ⟨Nat.le_of_ble_eq_true rfl, Nat.le_of_ble_eq_true rfl⟩) ⟨mB_blind, m_recv hKm hPm1, m_pre hKm hPm1 _⟩ rfl rfl hl.1 rfl (lv_room (Nat.le_of_ble_eq_true rfl)) dL_law_1558 ⟨by show cells + 6 + 0 ≤ 601024; omega, by show slots + 214 + 0 ≤ 7293033; omega⟩) hS (fun q _ h => hmn q h) (fun q h => hmn q h) (fun r2 u2 U9 H2 locs2 ht2 hvm2 hu2 hB2 hz2 hk2 hS2 => ?_)
  subst hu2
  replace hB2 : va_P D vwCl (mws ad cI cZ cC (k_rule M (xs (6 * n + 1)) true (xs (6 * n + 3))) (g_rule M (xs (6 * n + 1)) true (xs (6 * n + 3)))) U9.heap := hB2
  rw [ht2] at hB2
  have hP2 := cP_keep hB1 hc3.dis hk2
  have ho2 := ho1.kept (hk2 oa ho1.lt hnm)
  refine lv_istore (lv' := [(6, .int (r_rule M (xs (6 * n + 1)) true (xs (6 * n + 3)))), (5, .int (nI (k_rule M (xs (6 * n + 1)) true (xs (6 * n + 3))))), (0, .ref b), (1, .ref h), (2, .ref (ad 0)), (3, .ref oa), (4, .int (nI (6 * n)))]) hx hb dL_law_1561 hl (by decide) rfl (fun ls hl => ?_)
  have hM2 := (MI_rule hM (xs (6 * n + 1)) true (xs (6 * n + 3)))
  refine lv_aload_n hx hb dL_law_1563 rfl (lv_at hl 4 rfl) ?_
  refine vp_callSi (W.runV (As := []) (rest := []) ⟨hx, hb, hml, hown, hts⟩ (c9_thrown l D ad cI cZ cC (k_rule M (xs (6 * n + 1)) true (xs (6 * n + 3))) (g_rule M (xs (6 * n + 1)) true (xs (6 * n + 3))) hM2) (cwV 0 hts gL_law_X9_thrown rfl rfl rfl kd_X9_thrown ⟨Nat.le_of_ble_eq_true rfl, Nat.le_of_ble_eq_true rfl⟩) ⟨mB_blind, m_recv hKm hB2, m_pre hKm hB2 _⟩ rfl rfl hl.1 rfl (lv_room (Nat.le_of_ble_eq_true rfl)) dL_law_1564 ⟨by show cells + 6 + 0 + 0 ≤ 601024; omega, by show slots + 214 + 0 + 0 ≤ 7293033; omega⟩) (fun r3 hr3 => ?_)
  subst hr3
  refine lv_iload hx hb dL_law_1567 (lv_at hl 1 rfl) ?_
  refine lv_icmp_eq (tgt := 1574) hx hb dL_law_1569 (by decide) (fun c9 => ?_) (fun c9 => absurd rfl c9)
  have hfin : ∀ ls, lv_has ls 7 [(6, .int (r_rule M (xs (6 * n + 1)) true (xs (6 * n + 3)))), (5, .int (nI (k_rule M (xs (6 * n + 1)) true (xs (6 * n + 3))))), (0, .ref b), (1, .ref h), (2, .ref (ad 0)), (3, .ref oa), (4, .int (nI (6 * n)))] → W p l e room_1 s m args below meth c H2 locs2 (cells + 6 + 0) (slots + 214 + 0) Q (F0 m 2054 ls []) := fun ls hl => by
    refine W.widen (k := cells + 241) (n := slots + 12126) (by omega) (by omega) ?_
    exact kk _ _ _ _ _ _ ⟨hc3, hM2, hI2.1 hLB, by have := hI2.2; omega, hP2, hB2, ho2, hS2⟩ ls (lv_sub hl [2, 3, 4, 5, 6] rfl)
  refine lv_iload hx hb dL_law_1574 (lv_at hl 1 rfl) ?_
  refine n_if_ne (tgt := 1591) hx hb dL_law_1576 (by decide) (by omega) (fun c8 => ?_) (fun c8 => ?_)
  · refine lv_goto (tgt := 2054) hx hb dL_law_1591 (by decide) (hfin ls hl)
  · have ho3 := hout c8
    rw [ho3] at ho2
    refine lv_aload_n hx hb dL_law_1579 rfl (lv_at hl 5 rfl) ?_
    refine lv_iconst (v := nI 0) hx hb dL_law_1580 (by decide) ?_
    refine va_lald hx hb hKJ (va_P_one ho2) 0 0 rfl rfl (vp_in_nI (by decide) (by decide)) dL_law_1581 ?_
    refine lv_iload hx hb dL_law_1582 (lv_at hl 0 rfl) ?_
    refine lv_i2l (v := Int32.toInt64 (r_rule M (xs (6 * n + 1)) true (xs (6 * n + 3)))) hx hb dL_law_1584 rfl ?_
    refine lw_lcmp hx hb dL_law_1585 ?_
    refine n_if_eq (tgt := 1591) hx hb dL_law_1586 (by decide) (by decide) (fun _ => ?_) (fun c7 => absurd rfl c7)
    exact lv_goto (tgt := 2054) hx hb dL_law_1591 (by decide) (hfin ls hl)
set_option maxHeartbeats 4000000 in
set_option maxRecDepth 100000 in
theorem lc_rule_f {p : Program} {l : Launch} {e : Env} {s : State} {m : MethodId} {args : Array Value} {below : List Frame} {meth : Method} {c : Code} {b L : Nat} {xs : Nat → Int32} {Q : State → Prop} {D : va_G} {cI cO cb cZ cC cJ : ClassId} {eA mi : Nat} {st ad : Nat → Nat} {dO dT : Nat} {vF : Value} {h oa : Nat} (hst : l.stackTraces = false) (C0 : LC p s m args c b L xs D cI cO cb cZ cC cJ eA mi st ad dO dT vF oa) {n : Nat} (hn : 6 * n + 6 ≤ L) (hL : L ≤ 3072) {M : MS} {ws : va_W} {th : Nat} {x : Int64} {H : Heap} {locs : List Loc} (hI : LI D cI cO eA st cZ cC cJ s ad h oa n M ws th x H locs) (hv9 : xs (6 * n + 2) = 0) {cells slots : Nat} (hc1 : cells + 241 ≤ 601024) (hc2 : slots + 12126 ≤ 7293033) (kk : ∀ M ws th x H locs, LI D cI cO eA st cZ cC cJ s ad h oa (n + 1) M ws th x H locs → ∀ ls, lv_has ls 7 [(0, .ref b), (1, .ref h), (2, .ref (ad 0)), (3, .ref oa), (4, .int (nI (6 * n)))] → W p l e room_1 s m args below meth c H locs (cells + 241) (slots + 12126) Q (F0 m 2054 ls [])) : ∀ ls, lv_has ls 7 [(0, .ref b), (1, .ref h), (2, .ref (ad 0)), (3, .ref oa), (4, .int (nI (6 * n)))] → W p l e room_1 s m args below meth c H locs cells slots Q (F0 m 1498 ls []) := by
  obtain ⟨hx, hb, hml, hown, hts, hX, hbl, hK, hKm, hKJ, hG, hGT, hN, hsI, hdis, hmn, hon, hnm⟩ := C0
  obtain ⟨hc, hM, hLB, h15, hP, hPm, ho, hS⟩ := hI
  have hbA : ¬ (fun q : Nat => s.heap.size ≤ q) b := Nat.not_le.mpr hbl
  have hno : ¬ lA s.heap.size ad oa oa := fun q => q.2.2 rfl
  have hI2 := LB_rule (M := M) (xs (6 * n + 1)) false (xs (6 * n + 3))
  intro ls hl
  refine lv_aload_n hx hb dL_law_1498 rfl (lv_at hl 1 rfl) ?_
  refine lv_aload_n hx hb dL_law_1499 rfl (lv_at hl 0 rfl) ?_
  refine lv_iload hx hb dL_law_1500 (lv_at hl 4 rfl) ?_
  refine lv_iconst (v := nI 1) hx hb dL_law_1502 (by decide) ?_
  refine n_iadd hx hb dL_law_1503 (z := 6 * n + 1) rfl ?_
  refine va_sld hx hb hX hbl hbA hS (vp_in_nI (by omega) (by omega)) dL_law_1504 ?_
  rw [nI_clamp (show 6 * n + 1 < 2 ^ 31 by omega)]
  refine lv_aload_n hx hb dL_law_1505 rfl (lv_at hl 0 rfl) ?_
  refine lv_iload hx hb dL_law_1506 (lv_at hl 4 rfl) ?_
  refine lv_iconst (v := nI 2) hx hb dL_law_1508 (by decide) ?_
  refine n_iadd hx hb dL_law_1509 (z := 6 * n + 2) rfl ?_
  refine va_sld hx hb hX hbl hbA hS (vp_in_nI (by omega) (by omega)) dL_law_1510 ?_
  rw [nI_clamp (show 6 * n + 2 < 2 ^ 31 by omega)]
  refine lv_if_eq (tgt := 1518) hx hb dL_law_1511 (by decide) (fun c9 => ?_) (fun c9 => absurd hv9 c9)
  refine lv_iconst (v := bi false) hx hb dL_law_1518 (by decide) ?_
  refine lv_aload_n hx hb dL_law_1519 rfl (lv_at hl 0 rfl) ?_
  refine lv_iload hx hb dL_law_1520 (lv_at hl 4 rfl) ?_
  refine lv_iconst (v := nI 3) hx hb dL_law_1522 (by decide) ?_
  refine n_iadd hx hb dL_law_1523 (z := 6 * n + 3) rfl ?_
  refine va_sld hx hb hX hbl hbA hS (vp_in_nI (by omega) (by omega)) dL_law_1524 ?_
  rw [nI_clamp (show 6 * n + 3 < 2 ^ 31 by omega)]
  refine lv_aload_n hx hb dL_law_1525 rfl (lv_at hl 3 rfl) ?_
  refine va_calli (vx_runSW (As := [.ref h, .int (xs (6 * n + 1)), .int (bi false), .int (xs (6 * n + 3)), .ref oa]) (rest := []) ⟨hx, hb, hml, hown, hts⟩ (cL9_rule l hst D cI cO cb eA mi st dO dT vF ws hc hM hsI cJ oa x hno (xs (6 * n + 1)) false (xs (6 * n + 3))) (vx_cwSW 5 hts gL_law_L_rule rfl rfl rfl kd_L_rule ⟨Nat.le_of_ble_eq_true rfl, Nat.le_of_ble_eq_true rfl⟩) ⟨lB_blind, lB_pre hK hKJ hG hGT hN (fun q h => h.1) hS (fresh_lA hPm ho hS) hP ho _⟩ rfl rfl hl.1 rfl (lv_room (Nat.le_of_ble_eq_true rfl)) dL_law_1526 ⟨by show cells + 6 ≤ 601024; omega, by show slots + 214 ≤ 7293033; omega⟩) hS (fun q _ h => h.elim (fun h => h.1) (fun h => by rw [h]; exact hon)) (fun q h => h.elim (fun h => h.1) (fun h => by rw [h]; exact hon)) (fun r u U8 H1 locs1 ht hvm hu hB hz1 hk1 hS1 => ?_)
  obtain ⟨hri, hk3, hout, hc3⟩ := hu
  subst hri
  rw [ht] at hB
  obtain ⟨hB1, ho1⟩ := hB
  have hPm1 := mP_keep hPm hk1 hnm
  clear hS hP hPm ho
  have hS := hS1
  refine lv_istore (lv' := [(5, .int (nI (k_rule M (xs (6 * n + 1)) false (xs (6 * n + 3))))), (0, .ref b), (1, .ref h), (2, .ref (ad 0)), (3, .ref oa), (4, .int (nI (6 * n)))]) hx hb dL_law_1529 hl (by decide) rfl (fun ls hl => ?_)
  refine lv_aload_n hx hb dL_law_1531 rfl (lv_at hl 3 rfl) ?_
  refine lv_aload_n hx hb dL_law_1532 rfl (lv_at hl 1 rfl) ?_
  refine lv_iload hx hb dL_law_1533 (lv_at hl 5 rfl) ?_
  refine lv_iconst (v := nI 1) hx hb dL_law_1535 (by decide) ?_
  refine n_iadd hx hb dL_law_1536 (z := 6 * n + 1) rfl ?_
  refine va_sld hx hb hX hbl hbA hS (vp_in_nI (by omega) (by omega)) dL_law_1537 ?_
  rw [nI_clamp (show 6 * n + 1 < 2 ^ 31 by omega)]
  refine lv_aload_n hx hb dL_law_1538 rfl (lv_at hl 1 rfl) ?_
  refine lv_iload hx hb dL_law_1539 (lv_at hl 5 rfl) ?_
  refine lv_iconst (v := nI 2) hx hb dL_law_1541 (by decide) ?_
  refine n_iadd hx hb dL_law_1542 (z := 6 * n + 2) rfl ?_
  refine va_sld hx hb hX hbl hbA hS (vp_in_nI (by omega) (by omega)) dL_law_1543 ?_
  rw [nI_clamp (show 6 * n + 2 < 2 ^ 31 by omega)]
  refine lv_if_eq (tgt := 1551) hx hb dL_law_1544 (by decide) (fun c9 => ?_) (fun c9 => absurd hv9 c9)
  refine lv_iconst (v := bi false) hx hb dL_law_1551 (by decide) ?_
  refine lv_aload_n hx hb dL_law_1552 rfl (lv_at hl 1 rfl) ?_
  refine lv_iload hx hb dL_law_1553 (lv_at hl 5 rfl) ?_
  refine lv_iconst (v := nI 3) hx hb dL_law_1555 (by decide) ?_
  refine n_iadd hx hb dL_law_1556 (z := 6 * n + 3) rfl ?_
  refine va_sld hx hb hX hbl hbA hS (vp_in_nI (by omega) (by omega)) dL_law_1557 ?_
  rw [nI_clamp (show 6 * n + 3 < 2 ^ 31 by omega)]
  refine va_calli (va_runV (As := [.int (xs (6 * n + 1)), .int (bi false), .int (xs (6 * n + 3))]) (rest := []) ⟨hx, hb, hml, hown, hts⟩ (c9_rule l D ad cI cZ cC th M hM hdis (xs (6 * n + 1)) false (xs (6 * n + 3))) (cwV 3 hts gL_law_X9_rule rfl rfl rfl kd_X9_rule ⟨Nat.le_of_ble_eq_true rfl, Nat.le_of_ble_eq_true rfl⟩) ⟨mB_blind, m_recv hKm hPm1, m_pre hKm hPm1 _⟩ rfl rfl hl.1 rfl (lv_room (Nat.le_of_ble_eq_true rfl)) dL_law_1558 ⟨by show cells + 6 + 0 ≤ 601024; omega, by show slots + 214 + 0 ≤ 7293033; omega⟩) hS (fun q _ h => hmn q h) (fun q h => hmn q h) (fun r2 u2 U9 H2 locs2 ht2 hvm2 hu2 hB2 hz2 hk2 hS2 => ?_)
  subst hu2
  replace hB2 : va_P D vwCl (mws ad cI cZ cC (k_rule M (xs (6 * n + 1)) false (xs (6 * n + 3))) (g_rule M (xs (6 * n + 1)) false (xs (6 * n + 3)))) U9.heap := hB2
  rw [ht2] at hB2
  have hP2 := cP_keep hB1 hc3.dis hk2
  have ho2 := ho1.kept (hk2 oa ho1.lt hnm)
  refine lv_istore (lv' := [(6, .int (r_rule M (xs (6 * n + 1)) false (xs (6 * n + 3)))), (5, .int (nI (k_rule M (xs (6 * n + 1)) false (xs (6 * n + 3))))), (0, .ref b), (1, .ref h), (2, .ref (ad 0)), (3, .ref oa), (4, .int (nI (6 * n)))]) hx hb dL_law_1561 hl (by decide) rfl (fun ls hl => ?_)
  have hM2 := (MI_rule hM (xs (6 * n + 1)) false (xs (6 * n + 3)))
  refine lv_aload_n hx hb dL_law_1563 rfl (lv_at hl 4 rfl) ?_
  refine vp_callSi (W.runV (As := []) (rest := []) ⟨hx, hb, hml, hown, hts⟩ (c9_thrown l D ad cI cZ cC (k_rule M (xs (6 * n + 1)) false (xs (6 * n + 3))) (g_rule M (xs (6 * n + 1)) false (xs (6 * n + 3))) hM2) (cwV 0 hts gL_law_X9_thrown rfl rfl rfl kd_X9_thrown ⟨Nat.le_of_ble_eq_true rfl, Nat.le_of_ble_eq_true rfl⟩) ⟨mB_blind, m_recv hKm hB2, m_pre hKm hB2 _⟩ rfl rfl hl.1 rfl (lv_room (Nat.le_of_ble_eq_true rfl)) dL_law_1564 ⟨by show cells + 6 + 0 + 0 ≤ 601024; omega, by show slots + 214 + 0 + 0 ≤ 7293033; omega⟩) (fun r3 hr3 => ?_)
  subst hr3
  refine lv_iload hx hb dL_law_1567 (lv_at hl 1 rfl) ?_
  refine lv_icmp_eq (tgt := 1574) hx hb dL_law_1569 (by decide) (fun c9 => ?_) (fun c9 => absurd rfl c9)
  have hfin : ∀ ls, lv_has ls 7 [(6, .int (r_rule M (xs (6 * n + 1)) false (xs (6 * n + 3)))), (5, .int (nI (k_rule M (xs (6 * n + 1)) false (xs (6 * n + 3))))), (0, .ref b), (1, .ref h), (2, .ref (ad 0)), (3, .ref oa), (4, .int (nI (6 * n)))] → W p l e room_1 s m args below meth c H2 locs2 (cells + 6 + 0) (slots + 214 + 0) Q (F0 m 2054 ls []) := fun ls hl => by
    refine W.widen (k := cells + 241) (n := slots + 12126) (by omega) (by omega) ?_
    exact kk _ _ _ _ _ _ ⟨hc3, hM2, hI2.1 hLB, by have := hI2.2; omega, hP2, hB2, ho2, hS2⟩ ls (lv_sub hl [2, 3, 4, 5, 6] rfl)
  refine lv_iload hx hb dL_law_1574 (lv_at hl 1 rfl) ?_
  refine n_if_ne (tgt := 1591) hx hb dL_law_1576 (by decide) (by omega) (fun c8 => ?_) (fun c8 => ?_)
  · refine lv_goto (tgt := 2054) hx hb dL_law_1591 (by decide) (hfin ls hl)
  · have ho3 := hout c8
    rw [ho3] at ho2
    refine lv_aload_n hx hb dL_law_1579 rfl (lv_at hl 5 rfl) ?_
    refine lv_iconst (v := nI 0) hx hb dL_law_1580 (by decide) ?_
    refine va_lald hx hb hKJ (va_P_one ho2) 0 0 rfl rfl (vp_in_nI (by decide) (by decide)) dL_law_1581 ?_
    refine lv_iload hx hb dL_law_1582 (lv_at hl 0 rfl) ?_
    refine lv_i2l (v := Int32.toInt64 (r_rule M (xs (6 * n + 1)) false (xs (6 * n + 3)))) hx hb dL_law_1584 rfl ?_
    refine lw_lcmp hx hb dL_law_1585 ?_
    refine n_if_eq (tgt := 1591) hx hb dL_law_1586 (by decide) (by decide) (fun _ => ?_) (fun c7 => absurd rfl c7)
    exact lv_goto (tgt := 2054) hx hb dL_law_1591 (by decide) (hfin ls hl)
set_option maxHeartbeats 4000000 in
set_option maxRecDepth 100000 in
theorem lc_appeal {p : Program} {l : Launch} {e : Env} {s : State} {m : MethodId} {args : Array Value} {below : List Frame} {meth : Method} {c : Code} {b L : Nat} {xs : Nat → Int32} {Q : State → Prop} {D : va_G} {cI cO cb cZ cC cJ : ClassId} {eA mi : Nat} {st ad : Nat → Nat} {dO dT : Nat} {vF : Value} {h oa : Nat} (hst : l.stackTraces = false) (C0 : LC p s m args c b L xs D cI cO cb cZ cC cJ eA mi st ad dO dT vF oa) {n : Nat} (hn : 6 * n + 6 ≤ L) (hL : L ≤ 3072) {M : MS} {ws : va_W} {th : Nat} {x : Int64} {H : Heap} {locs : List Loc} (hI : LI D cI cO eA st cZ cC cJ s ad h oa n M ws th x H locs) {cells slots : Nat} (hc1 : cells + 241 ≤ 601024) (hc2 : slots + 12126 ≤ 7293033) (kk : ∀ M ws th x H locs, LI D cI cO eA st cZ cC cJ s ad h oa (n + 1) M ws th x H locs → ∀ ls, lv_has ls 7 [(0, .ref b), (1, .ref h), (2, .ref (ad 0)), (3, .ref oa), (4, .int (nI (6 * n)))] → W p l e room_1 s m args below meth c H locs (cells + 241) (slots + 12126) Q (F0 m 2054 ls [])) : ∀ ls, lv_has ls 7 [(0, .ref b), (1, .ref h), (2, .ref (ad 0)), (3, .ref oa), (4, .int (nI (6 * n)))] → W p l e room_1 s m args below meth c H locs cells slots Q (F0 m 1594 ls []) := by
  obtain ⟨hx, hb, hml, hown, hts, hX, hbl, hK, hKm, hKJ, hG, hGT, hN, hsI, hdis, hmn, hon, hnm⟩ := C0
  obtain ⟨hc, hM, hLB, h15, hP, hPm, ho, hS⟩ := hI
  have hbA : ¬ (fun q : Nat => s.heap.size ≤ q) b := Nat.not_le.mpr hbl
  have hno : ¬ lA s.heap.size ad oa oa := fun q => q.2.2 rfl
  have hI2 := LB_appeal (M := M) (xs (6 * n + 1))
  intro ls hl
  refine lv_aload_n hx hb dL_law_1594 rfl (lv_at hl 1 rfl) ?_
  refine lv_aload_n hx hb dL_law_1595 rfl (lv_at hl 0 rfl) ?_
  refine lv_iload hx hb dL_law_1596 (lv_at hl 4 rfl) ?_
  refine lv_iconst (v := nI 1) hx hb dL_law_1598 (by decide) ?_
  refine n_iadd hx hb dL_law_1599 (z := 6 * n + 1) rfl ?_
  refine va_sld hx hb hX hbl hbA hS (vp_in_nI (by omega) (by omega)) dL_law_1600 ?_
  rw [nI_clamp (show 6 * n + 1 < 2 ^ 31 by omega)]
  refine lv_aload_n hx hb dL_law_1601 rfl (lv_at hl 3 rfl) ?_
  refine va_calli (vx_runSW (As := [.ref h, .int (xs (6 * n + 1)), .ref oa]) (rest := []) ⟨hx, hb, hml, hown, hts⟩ (cL9_appeal l hst D cI cO cb eA mi st dO dT vF ws hc hM hsI cJ oa x hno (xs (6 * n + 1))) (vx_cwSW 3 hts gL_law_L_appeal rfl rfl rfl kd_L_appeal ⟨Nat.le_of_ble_eq_true rfl, Nat.le_of_ble_eq_true rfl⟩) ⟨lB_blind, lB_pre hK hKJ hG hGT hN (fun q h => h.1) hS (fresh_lA hPm ho hS) hP ho _⟩ rfl rfl hl.1 rfl (lv_room (Nat.le_of_ble_eq_true rfl)) dL_law_1602 ⟨by show cells + 2 ≤ 601024; omega, by show slots + 12 ≤ 7293033; omega⟩) hS (fun q _ h => h.elim (fun h => h.1) (fun h => by rw [h]; exact hon)) (fun q h => h.elim (fun h => h.1) (fun h => by rw [h]; exact hon)) (fun r u U8 H1 locs1 ht hvm hu hB hz1 hk1 hS1 => ?_)
  obtain ⟨hri, hk3, hout, hc3⟩ := hu
  subst hri
  rw [ht] at hB
  obtain ⟨hB1, ho1⟩ := hB
  have hPm1 := mP_keep hPm hk1 hnm
  clear hS hP hPm ho
  have hS := hS1
  refine lv_istore (lv' := [(5, .int (nI (k_appeal M (xs (6 * n + 1))))), (0, .ref b), (1, .ref h), (2, .ref (ad 0)), (3, .ref oa), (4, .int (nI (6 * n)))]) hx hb dL_law_1605 hl (by decide) rfl (fun ls hl => ?_)
  refine lv_aload_n hx hb dL_law_1607 rfl (lv_at hl 3 rfl) ?_
  refine lv_aload_n hx hb dL_law_1608 rfl (lv_at hl 1 rfl) ?_
  refine lv_iload hx hb dL_law_1609 (lv_at hl 5 rfl) ?_
  refine lv_iconst (v := nI 1) hx hb dL_law_1611 (by decide) ?_
  refine n_iadd hx hb dL_law_1612 (z := 6 * n + 1) rfl ?_
  refine va_sld hx hb hX hbl hbA hS (vp_in_nI (by omega) (by omega)) dL_law_1613 ?_
  rw [nI_clamp (show 6 * n + 1 < 2 ^ 31 by omega)]
  refine va_calli (va_runV (As := [.int (xs (6 * n + 1))]) (rest := []) ⟨hx, hb, hml, hown, hts⟩ (c9_appeal l D ad cI cZ cC th M hM hdis (xs (6 * n + 1))) (cwV 1 hts gL_law_X9_appeal rfl rfl rfl kd_X9_appeal ⟨Nat.le_of_ble_eq_true rfl, Nat.le_of_ble_eq_true rfl⟩) ⟨mB_blind, m_recv hKm hPm1, m_pre hKm hPm1 _⟩ rfl rfl hl.1 rfl (lv_room (Nat.le_of_ble_eq_true rfl)) dL_law_1614 ⟨by show cells + 2 + 0 ≤ 601024; omega, by show slots + 12 + 0 ≤ 7293033; omega⟩) hS (fun q _ h => hmn q h) (fun q h => hmn q h) (fun r2 u2 U9 H2 locs2 ht2 hvm2 hu2 hB2 hz2 hk2 hS2 => ?_)
  subst hu2
  replace hB2 : va_P D vwCl (mws ad cI cZ cC (k_appeal M (xs (6 * n + 1))) (g_appeal M (xs (6 * n + 1)))) U9.heap := hB2
  rw [ht2] at hB2
  have hP2 := cP_keep hB1 hc3.dis hk2
  have ho2 := ho1.kept (hk2 oa ho1.lt hnm)
  refine lv_istore (lv' := [(6, .int (r_appeal M (xs (6 * n + 1)))), (5, .int (nI (k_appeal M (xs (6 * n + 1))))), (0, .ref b), (1, .ref h), (2, .ref (ad 0)), (3, .ref oa), (4, .int (nI (6 * n)))]) hx hb dL_law_1617 hl (by decide) rfl (fun ls hl => ?_)
  have hM2 := (MI_appeal hM (xs (6 * n + 1)))
  refine lv_aload_n hx hb dL_law_1619 rfl (lv_at hl 4 rfl) ?_
  refine vp_callSi (W.runV (As := []) (rest := []) ⟨hx, hb, hml, hown, hts⟩ (c9_thrown l D ad cI cZ cC (k_appeal M (xs (6 * n + 1))) (g_appeal M (xs (6 * n + 1))) hM2) (cwV 0 hts gL_law_X9_thrown rfl rfl rfl kd_X9_thrown ⟨Nat.le_of_ble_eq_true rfl, Nat.le_of_ble_eq_true rfl⟩) ⟨mB_blind, m_recv hKm hB2, m_pre hKm hB2 _⟩ rfl rfl hl.1 rfl (lv_room (Nat.le_of_ble_eq_true rfl)) dL_law_1620 ⟨by show cells + 2 + 0 + 0 ≤ 601024; omega, by show slots + 12 + 0 + 0 ≤ 7293033; omega⟩) (fun r3 hr3 => ?_)
  subst hr3
  refine lv_iload hx hb dL_law_1623 (lv_at hl 1 rfl) ?_
  refine lv_icmp_eq (tgt := 1630) hx hb dL_law_1625 (by decide) (fun c9 => ?_) (fun c9 => absurd rfl c9)
  have hfin : ∀ ls, lv_has ls 7 [(6, .int (r_appeal M (xs (6 * n + 1)))), (5, .int (nI (k_appeal M (xs (6 * n + 1))))), (0, .ref b), (1, .ref h), (2, .ref (ad 0)), (3, .ref oa), (4, .int (nI (6 * n)))] → W p l e room_1 s m args below meth c H2 locs2 (cells + 2 + 0) (slots + 12 + 0) Q (F0 m 2054 ls []) := fun ls hl => by
    refine W.widen (k := cells + 241) (n := slots + 12126) (by omega) (by omega) ?_
    exact kk _ _ _ _ _ _ ⟨hc3, hM2, hI2.1 hLB, by have := hI2.2; omega, hP2, hB2, ho2, hS2⟩ ls (lv_sub hl [2, 3, 4, 5, 6] rfl)
  refine lv_iload hx hb dL_law_1630 (lv_at hl 1 rfl) ?_
  refine n_if_ne (tgt := 1647) hx hb dL_law_1632 (by decide) (by omega) (fun c8 => ?_) (fun c8 => ?_)
  · refine lv_goto (tgt := 2054) hx hb dL_law_1647 (by decide) (hfin ls hl)
  · have ho3 := hout c8
    rw [ho3] at ho2
    refine lv_aload_n hx hb dL_law_1635 rfl (lv_at hl 5 rfl) ?_
    refine lv_iconst (v := nI 0) hx hb dL_law_1636 (by decide) ?_
    refine va_lald hx hb hKJ (va_P_one ho2) 0 0 rfl rfl (vp_in_nI (by decide) (by decide)) dL_law_1637 ?_
    refine lv_iload hx hb dL_law_1638 (lv_at hl 0 rfl) ?_
    refine lv_i2l (v := Int32.toInt64 (r_appeal M (xs (6 * n + 1)))) hx hb dL_law_1640 rfl ?_
    refine lw_lcmp hx hb dL_law_1641 ?_
    refine n_if_eq (tgt := 1647) hx hb dL_law_1642 (by decide) (by decide) (fun _ => ?_) (fun c7 => absurd rfl c7)
    exact lv_goto (tgt := 2054) hx hb dL_law_1647 (by decide) (hfin ls hl)
