/-! the law: cases -/
set_option maxHeartbeats 4000000 in
set_option maxRecDepth 100000 in
theorem lc_stateOf {p : Program} {l : Launch} {e : Env} {s : State} {m : MethodId} {args : Array Value} {below : List Frame} {meth : Method} {c : Code} {b L : Nat} {xs : Nat → Int32} {Q : State → Prop} {D : va_G} {cI cO cb cZ cC cJ : ClassId} {eA mi : Nat} {st ad : Nat → Nat} {dO dT : Nat} {vF : Value} {h oa : Nat} (hst : l.stackTraces = false) (C0 : LC p s m args c b L xs D cI cO cb cZ cC cJ eA mi st ad dO dT vF oa) {n : Nat} (hn : 6 * n + 6 ≤ L) (hL : L ≤ 3072) {M : MS} {ws : va_W} {th : Nat} {x : Int64} {H : Heap} {locs : List Loc} (hI : LI D cI cO eA st cZ cC cJ s ad h oa n M ws th x H locs) {cells slots : Nat} (hc1 : cells + 241 ≤ 601024) (hc2 : slots + 12126 ≤ 7293033) (kk : ∀ M ws th x H locs, LI D cI cO eA st cZ cC cJ s ad h oa (n + 1) M ws th x H locs → ∀ ls, lv_has ls 7 [(0, .ref b), (1, .ref h), (2, .ref (ad 0)), (3, .ref oa), (4, .int (nI (6 * n)))] → W p l e room_1 s m args below meth c H locs (cells + 241) (slots + 12126) Q (F0 m 2054 ls [])) : ∀ ls, lv_has ls 7 [(0, .ref b), (1, .ref h), (2, .ref (ad 0)), (3, .ref oa), (4, .int (nI (6 * n)))] → W p l e room_1 s m args below meth c H locs cells slots Q (F0 m 1650 ls []) := by
  obtain ⟨hx, hb, hml, hown, hts, hX, hbl, hK, hKm, hKJ, hG, hGT, hN, hsI, hdis, hmn, hon, hnm⟩ := C0
  obtain ⟨hc, hM, hLB, h15, hP, hPm, ho, hS⟩ := hI
  have hbA : ¬ (fun q : Nat => s.heap.size ≤ q) b := Nat.not_le.mpr hbl
  have hno : ¬ lA s.heap.size ad oa oa := fun q => q.2.2 rfl
  have hI2 := LBN.rf (M := M)
  intro ls hl
  refine lv_aload_n hx hb dL_law_1650 rfl (lv_at hl 1 rfl) ?_
  refine lv_aload_n hx hb dL_law_1651 rfl (lv_at hl 0 rfl) ?_
  refine lv_iload hx hb dL_law_1652 (lv_at hl 4 rfl) ?_
  refine lv_iconst (v := nI 1) hx hb dL_law_1654 (by decide) ?_
  refine n_iadd hx hb dL_law_1655 (z := 6 * n + 1) rfl ?_
  refine va_sld hx hb hX hbl hbA hS (vp_in_nI (by omega) (by omega)) dL_law_1656 ?_
  rw [nI_clamp (show 6 * n + 1 < 2 ^ 31 by omega)]
  refine lv_aload_n hx hb dL_law_1657 rfl (lv_at hl 3 rfl) ?_
  refine va_calli (vx_runSW (As := [.ref h, .int (xs (6 * n + 1)), .ref oa]) (rest := []) ⟨hx, hb, hml, hown, hts⟩ (cL9_stateOf l hst D cI cO cb eA mi st dO dT vF ws hc hM hsI cJ oa x hno (xs (6 * n + 1))) (vx_cwSW 3 hts gL_law_L_stateOf rfl rfl rfl kd_L_stateOf ⟨Nat.le_of_ble_eq_true rfl, Nat.le_of_ble_eq_true rfl⟩) ⟨lB_blind, lB_pre hK hKJ hG hGT hN (fun q h => h.1) hS (fresh_lA hPm ho hS) hP ho _⟩ rfl rfl hl.1 rfl (lv_room (Nat.le_of_ble_eq_true rfl)) dL_law_1658 ⟨by show cells + 1 ≤ 601024; omega, by show slots + 6 ≤ 7293033; omega⟩) hS (fun q _ h => h.elim (fun h => h.1) (fun h => by rw [h]; exact hon)) (fun q h => h.elim (fun h => h.1) (fun h => by rw [h]; exact hon)) (fun r u U8 H1 locs1 ht hvm hu hB hz1 hk1 hS1 => ?_)
  obtain ⟨hri, hk3, hout, hc3⟩ := hu
  subst hri
  rw [ht] at hB
  obtain ⟨hB1, ho1⟩ := hB
  have hPm1 := mP_keep hPm hk1 hnm
  clear hS hP hPm ho
  have hS := hS1
  refine lv_istore (lv' := [(5, .int (nI (k_co M (xs (6 * n + 1))))), (0, .ref b), (1, .ref h), (2, .ref (ad 0)), (3, .ref oa), (4, .int (nI (6 * n)))]) hx hb dL_law_1661 hl (by decide) rfl (fun ls hl => ?_)
  refine lv_aload_n hx hb dL_law_1663 rfl (lv_at hl 3 rfl) ?_
  refine lv_aload_n hx hb dL_law_1664 rfl (lv_at hl 1 rfl) ?_
  refine lv_iload hx hb dL_law_1665 (lv_at hl 5 rfl) ?_
  refine lv_iconst (v := nI 1) hx hb dL_law_1667 (by decide) ?_
  refine n_iadd hx hb dL_law_1668 (z := 6 * n + 1) rfl ?_
  refine va_sld hx hb hX hbl hbA hS (vp_in_nI (by omega) (by omega)) dL_law_1669 ?_
  rw [nI_clamp (show 6 * n + 1 < 2 ^ 31 by omega)]
  refine va_calli (va_runV (As := [.int (xs (6 * n + 1))]) (rest := []) ⟨hx, hb, hml, hown, hts⟩ (c9_stateOf l D ad cI cZ cC th M hM hdis (xs (6 * n + 1))) (cwV 1 hts gL_law_X9_stateOf rfl rfl rfl kd_X9_stateOf ⟨Nat.le_of_ble_eq_true rfl, Nat.le_of_ble_eq_true rfl⟩) ⟨mB_blind, m_recv hKm hPm1, m_pre hKm hPm1 _⟩ rfl rfl hl.1 rfl (lv_room (Nat.le_of_ble_eq_true rfl)) dL_law_1670 ⟨by show cells + 1 + 0 ≤ 601024; omega, by show slots + 6 + 0 ≤ 7293033; omega⟩) hS (fun q _ h => hmn q h) (fun q h => hmn q h) (fun r2 u2 U9 H2 locs2 ht2 hvm2 hu2 hB2 hz2 hk2 hS2 => ?_)
  subst hu2
  replace hB2 : va_P D vwCl (mws ad cI cZ cC (k_co M (xs (6 * n + 1))) (M)) U9.heap := hB2
  rw [ht2] at hB2
  have hP2 := cP_keep hB1 hc3.dis hk2
  have ho2 := ho1.kept (hk2 oa ho1.lt hnm)
  refine lv_istore (lv' := [(6, .int (r_stateOf M (xs (6 * n + 1)))), (5, .int (nI (k_co M (xs (6 * n + 1))))), (0, .ref b), (1, .ref h), (2, .ref (ad 0)), (3, .ref oa), (4, .int (nI (6 * n)))]) hx hb dL_law_1673 hl (by decide) rfl (fun ls hl => ?_)
  have hM2 := hM
  refine lv_aload_n hx hb dL_law_1675 rfl (lv_at hl 4 rfl) ?_
  refine vp_callSi (W.runV (As := []) (rest := []) ⟨hx, hb, hml, hown, hts⟩ (c9_thrown l D ad cI cZ cC (k_co M (xs (6 * n + 1))) (M) hM2) (cwV 0 hts gL_law_X9_thrown rfl rfl rfl kd_X9_thrown ⟨Nat.le_of_ble_eq_true rfl, Nat.le_of_ble_eq_true rfl⟩) ⟨mB_blind, m_recv hKm hB2, m_pre hKm hB2 _⟩ rfl rfl hl.1 rfl (lv_room (Nat.le_of_ble_eq_true rfl)) dL_law_1676 ⟨by show cells + 1 + 0 + 0 ≤ 601024; omega, by show slots + 6 + 0 + 0 ≤ 7293033; omega⟩) (fun r3 hr3 => ?_)
  subst hr3
  refine lv_iload hx hb dL_law_1679 (lv_at hl 1 rfl) ?_
  refine lv_icmp_eq (tgt := 1686) hx hb dL_law_1681 (by decide) (fun c9 => ?_) (fun c9 => absurd rfl c9)
  have hfin : ∀ ls, lv_has ls 7 [(6, .int (r_stateOf M (xs (6 * n + 1)))), (5, .int (nI (k_co M (xs (6 * n + 1))))), (0, .ref b), (1, .ref h), (2, .ref (ad 0)), (3, .ref oa), (4, .int (nI (6 * n)))] → W p l e room_1 s m args below meth c H2 locs2 (cells + 1 + 0) (slots + 6 + 0) Q (F0 m 2054 ls []) := fun ls hl => by
    refine W.widen (k := cells + 241) (n := slots + 12126) (by omega) (by omega) ?_
    exact kk _ _ _ _ _ _ ⟨hc3, hM2, hI2.1 hLB, by have := hI2.2; omega, hP2, hB2, ho2, hS2⟩ ls (lv_sub hl [2, 3, 4, 5, 6] rfl)
  refine lv_iload hx hb dL_law_1686 (lv_at hl 1 rfl) ?_
  refine n_if_ne (tgt := 1703) hx hb dL_law_1688 (by decide) (by omega) (fun c8 => ?_) (fun c8 => ?_)
  · refine lv_goto (tgt := 2054) hx hb dL_law_1703 (by decide) (hfin ls hl)
  · have ho3 := hout c8
    rw [ho3] at ho2
    refine lv_aload_n hx hb dL_law_1691 rfl (lv_at hl 5 rfl) ?_
    refine lv_iconst (v := nI 0) hx hb dL_law_1692 (by decide) ?_
    refine va_lald hx hb hKJ (va_P_one ho2) 0 0 rfl rfl (vp_in_nI (by decide) (by decide)) dL_law_1693 ?_
    refine lv_iload hx hb dL_law_1694 (lv_at hl 0 rfl) ?_
    refine lv_i2l (v := Int32.toInt64 (r_stateOf M (xs (6 * n + 1)))) hx hb dL_law_1696 rfl ?_
    refine lw_lcmp hx hb dL_law_1697 ?_
    refine n_if_eq (tgt := 1703) hx hb dL_law_1698 (by decide) (by decide) (fun _ => ?_) (fun c7 => absurd rfl c7)
    exact lv_goto (tgt := 2054) hx hb dL_law_1703 (by decide) (hfin ls hl)
set_option maxHeartbeats 4000000 in
set_option maxRecDepth 100000 in
theorem lc_sign {p : Program} {l : Launch} {e : Env} {s : State} {m : MethodId} {args : Array Value} {below : List Frame} {meth : Method} {c : Code} {b L : Nat} {xs : Nat → Int32} {Q : State → Prop} {D : va_G} {cI cO cb cZ cC cJ : ClassId} {eA mi : Nat} {st ad : Nat → Nat} {dO dT : Nat} {vF : Value} {h oa : Nat} (hst : l.stackTraces = false) (C0 : LC p s m args c b L xs D cI cO cb cZ cC cJ eA mi st ad dO dT vF oa) {n : Nat} (hn : 6 * n + 6 ≤ L) (hL : L ≤ 3072) {M : MS} {ws : va_W} {th : Nat} {x : Int64} {H : Heap} {locs : List Loc} (hI : LI D cI cO eA st cZ cC cJ s ad h oa n M ws th x H locs) {cells slots : Nat} (hc1 : cells + 241 ≤ 601024) (hc2 : slots + 12126 ≤ 7293033) (kk : ∀ M ws th x H locs, LI D cI cO eA st cZ cC cJ s ad h oa (n + 1) M ws th x H locs → ∀ ls, lv_has ls 7 [(0, .ref b), (1, .ref h), (2, .ref (ad 0)), (3, .ref oa), (4, .int (nI (6 * n)))] → W p l e room_1 s m args below meth c H locs (cells + 241) (slots + 12126) Q (F0 m 2054 ls [])) : ∀ ls, lv_has ls 7 [(0, .ref b), (1, .ref h), (2, .ref (ad 0)), (3, .ref oa), (4, .int (nI (6 * n)))] → W p l e room_1 s m args below meth c H locs cells slots Q (F0 m 1706 ls []) := by
  obtain ⟨hx, hb, hml, hown, hts, hX, hbl, hK, hKm, hKJ, hG, hGT, hN, hsI, hdis, hmn, hon, hnm⟩ := C0
  obtain ⟨hc, hM, hLB, h15, hP, hPm, ho, hS⟩ := hI
  have hbA : ¬ (fun q : Nat => s.heap.size ≤ q) b := Nat.not_le.mpr hbl
  have hno : ¬ lA s.heap.size ad oa oa := fun q => q.2.2 rfl
  have hI2 := LB_sign (M := M) (xs (6 * n + 1))
  intro ls hl
  refine lv_aload_n hx hb dL_law_1706 rfl (lv_at hl 1 rfl) ?_
  refine lv_aload_n hx hb dL_law_1707 rfl (lv_at hl 0 rfl) ?_
  refine lv_iload hx hb dL_law_1708 (lv_at hl 4 rfl) ?_
  refine lv_iconst (v := nI 1) hx hb dL_law_1710 (by decide) ?_
  refine n_iadd hx hb dL_law_1711 (z := 6 * n + 1) rfl ?_
  refine va_sld hx hb hX hbl hbA hS (vp_in_nI (by omega) (by omega)) dL_law_1712 ?_
  rw [nI_clamp (show 6 * n + 1 < 2 ^ 31 by omega)]
  refine lv_aload_n hx hb dL_law_1713 rfl (lv_at hl 3 rfl) ?_
  refine va_calli (vx_runSW (As := [.ref h, .int (xs (6 * n + 1)), .ref oa]) (rest := []) ⟨hx, hb, hml, hown, hts⟩ (cL9_sign l hst D cI cO cb eA mi st dO dT vF ws hc hM hsI cJ oa x hno (xs (6 * n + 1))) (vx_cwSW 3 hts gL_law_L_sign rfl rfl rfl kd_L_sign ⟨Nat.le_of_ble_eq_true rfl, Nat.le_of_ble_eq_true rfl⟩) ⟨lB_blind, lB_pre hK hKJ hG hGT hN (fun q h => h.1) hS (fresh_lA hPm ho hS) hP ho _⟩ rfl rfl hl.1 rfl (lv_room (Nat.le_of_ble_eq_true rfl)) dL_law_1714 ⟨by show cells + 4 ≤ 601024; omega, by show slots + 120 ≤ 7293033; omega⟩) hS (fun q _ h => h.elim (fun h => h.1) (fun h => by rw [h]; exact hon)) (fun q h => h.elim (fun h => h.1) (fun h => by rw [h]; exact hon)) (fun r u U8 H1 locs1 ht hvm hu hB hz1 hk1 hS1 => ?_)
  obtain ⟨hri, hk3, hout, hc3⟩ := hu
  subst hri
  rw [ht] at hB
  obtain ⟨hB1, ho1⟩ := hB
  have hPm1 := mP_keep hPm hk1 hnm
  clear hS hP hPm ho
  have hS := hS1
  refine lv_istore (lv' := [(5, .int (nI (k_sign M (xs (6 * n + 1))))), (0, .ref b), (1, .ref h), (2, .ref (ad 0)), (3, .ref oa), (4, .int (nI (6 * n)))]) hx hb dL_law_1717 hl (by decide) rfl (fun ls hl => ?_)
  refine lv_aload_n hx hb dL_law_1719 rfl (lv_at hl 3 rfl) ?_
  refine lv_aload_n hx hb dL_law_1720 rfl (lv_at hl 1 rfl) ?_
  refine lv_iload hx hb dL_law_1721 (lv_at hl 5 rfl) ?_
  refine lv_iconst (v := nI 1) hx hb dL_law_1723 (by decide) ?_
  refine n_iadd hx hb dL_law_1724 (z := 6 * n + 1) rfl ?_
  refine va_sld hx hb hX hbl hbA hS (vp_in_nI (by omega) (by omega)) dL_law_1725 ?_
  rw [nI_clamp (show 6 * n + 1 < 2 ^ 31 by omega)]
  refine va_calli (va_runV (As := [.int (xs (6 * n + 1))]) (rest := []) ⟨hx, hb, hml, hown, hts⟩ (c9_sign l D ad cI cZ cC th M hM hdis (xs (6 * n + 1)) (hc.sign hM)) (cwV 1 hts gL_law_X9_sign rfl rfl rfl kd_X9_sign ⟨Nat.le_of_ble_eq_true rfl, Nat.le_of_ble_eq_true rfl⟩) ⟨mB_blind, m_recv hKm hPm1, m_pre hKm hPm1 _⟩ rfl rfl hl.1 rfl (lv_room (Nat.le_of_ble_eq_true rfl)) dL_law_1726 ⟨by show cells + 4 + 0 ≤ 601024; omega, by show slots + 120 + 0 ≤ 7293033; omega⟩) hS (fun q _ h => hmn q h) (fun q h => hmn q h) (fun r2 u2 U9 H2 locs2 ht2 hvm2 hu2 hB2 hz2 hk2 hS2 => ?_)
  subst hu2
  replace hB2 : va_P D vwCl (mws ad cI cZ cC (k_sign M (xs (6 * n + 1))) (g_sign M (xs (6 * n + 1)))) U9.heap := hB2
  rw [ht2] at hB2
  have hP2 := cP_keep hB1 hc3.dis hk2
  have ho2 := ho1.kept (hk2 oa ho1.lt hnm)
  refine lv_istore (lv' := [(6, .int (r_sign M (xs (6 * n + 1)))), (5, .int (nI (k_sign M (xs (6 * n + 1))))), (0, .ref b), (1, .ref h), (2, .ref (ad 0)), (3, .ref oa), (4, .int (nI (6 * n)))]) hx hb dL_law_1729 hl (by decide) rfl (fun ls hl => ?_)
  have hM2 := (MI_sign hM (hc.sign hM) (xs (6 * n + 1)))
  refine lv_aload_n hx hb dL_law_1731 rfl (lv_at hl 4 rfl) ?_
  refine vp_callSi (W.runV (As := []) (rest := []) ⟨hx, hb, hml, hown, hts⟩ (c9_thrown l D ad cI cZ cC (k_sign M (xs (6 * n + 1))) (g_sign M (xs (6 * n + 1))) hM2) (cwV 0 hts gL_law_X9_thrown rfl rfl rfl kd_X9_thrown ⟨Nat.le_of_ble_eq_true rfl, Nat.le_of_ble_eq_true rfl⟩) ⟨mB_blind, m_recv hKm hB2, m_pre hKm hB2 _⟩ rfl rfl hl.1 rfl (lv_room (Nat.le_of_ble_eq_true rfl)) dL_law_1732 ⟨by show cells + 4 + 0 + 0 ≤ 601024; omega, by show slots + 120 + 0 + 0 ≤ 7293033; omega⟩) (fun r3 hr3 => ?_)
  subst hr3
  refine lv_iload hx hb dL_law_1735 (lv_at hl 1 rfl) ?_
  refine lv_icmp_eq (tgt := 1742) hx hb dL_law_1737 (by decide) (fun c9 => ?_) (fun c9 => absurd rfl c9)
  have hfin : ∀ ls, lv_has ls 7 [(6, .int (r_sign M (xs (6 * n + 1)))), (5, .int (nI (k_sign M (xs (6 * n + 1))))), (0, .ref b), (1, .ref h), (2, .ref (ad 0)), (3, .ref oa), (4, .int (nI (6 * n)))] → W p l e room_1 s m args below meth c H2 locs2 (cells + 4 + 0) (slots + 120 + 0) Q (F0 m 2054 ls []) := fun ls hl => by
    refine W.widen (k := cells + 241) (n := slots + 12126) (by omega) (by omega) ?_
    exact kk _ _ _ _ _ _ ⟨hc3, hM2, hI2.1 hLB, by have := hI2.2; omega, hP2, hB2, ho2, hS2⟩ ls (lv_sub hl [2, 3, 4, 5, 6] rfl)
  refine lv_iload hx hb dL_law_1742 (lv_at hl 1 rfl) ?_
  refine n_if_ne (tgt := 1759) hx hb dL_law_1744 (by decide) (by omega) (fun c8 => ?_) (fun c8 => ?_)
  · refine lv_goto (tgt := 2054) hx hb dL_law_1759 (by decide) (hfin ls hl)
  · have ho3 := hout c8
    rw [ho3] at ho2
    refine lv_aload_n hx hb dL_law_1747 rfl (lv_at hl 5 rfl) ?_
    refine lv_iconst (v := nI 0) hx hb dL_law_1748 (by decide) ?_
    refine va_lald hx hb hKJ (va_P_one ho2) 0 0 rfl rfl (vp_in_nI (by decide) (by decide)) dL_law_1749 ?_
    refine lv_iload hx hb dL_law_1750 (lv_at hl 0 rfl) ?_
    refine lv_i2l (v := Int32.toInt64 (r_sign M (xs (6 * n + 1)))) hx hb dL_law_1752 rfl ?_
    refine lw_lcmp hx hb dL_law_1753 ?_
    refine n_if_eq (tgt := 1759) hx hb dL_law_1754 (by decide) (by decide) (fun _ => ?_) (fun c7 => absurd rfl c7)
    exact lv_goto (tgt := 2054) hx hb dL_law_1759 (by decide) (hfin ls hl)
set_option maxHeartbeats 4000000 in
set_option maxRecDepth 100000 in
theorem lc_call {p : Program} {l : Launch} {e : Env} {s : State} {m : MethodId} {args : Array Value} {below : List Frame} {meth : Method} {c : Code} {b L : Nat} {xs : Nat → Int32} {Q : State → Prop} {D : va_G} {cI cO cb cZ cC cJ : ClassId} {eA mi : Nat} {st ad : Nat → Nat} {dO dT : Nat} {vF : Value} {h oa : Nat} (hst : l.stackTraces = false) (C0 : LC p s m args c b L xs D cI cO cb cZ cC cJ eA mi st ad dO dT vF oa) {n : Nat} (hn : 6 * n + 6 ≤ L) (hL : L ≤ 3072) {M : MS} {ws : va_W} {th : Nat} {x : Int64} {H : Heap} {locs : List Loc} (hI : LI D cI cO eA st cZ cC cJ s ad h oa n M ws th x H locs) {cells slots : Nat} (hc1 : cells + 241 ≤ 601024) (hc2 : slots + 12126 ≤ 7293033) (kk : ∀ M ws th x H locs, LI D cI cO eA st cZ cC cJ s ad h oa (n + 1) M ws th x H locs → ∀ ls, lv_has ls 7 [(0, .ref b), (1, .ref h), (2, .ref (ad 0)), (3, .ref oa), (4, .int (nI (6 * n)))] → W p l e room_1 s m args below meth c H locs (cells + 241) (slots + 12126) Q (F0 m 2054 ls [])) : ∀ ls, lv_has ls 7 [(0, .ref b), (1, .ref h), (2, .ref (ad 0)), (3, .ref oa), (4, .int (nI (6 * n)))] → W p l e room_1 s m args below meth c H locs cells slots Q (F0 m 1762 ls []) := by
  obtain ⟨hx, hb, hml, hown, hts, hX, hbl, hK, hKm, hKJ, hG, hGT, hN, hsI, hdis, hmn, hon, hnm⟩ := C0
  obtain ⟨hc, hM, hLB, h15, hP, hPm, ho, hS⟩ := hI
  have hbA : ¬ (fun q : Nat => s.heap.size ≤ q) b := Nat.not_le.mpr hbl
  have hno : ¬ lA s.heap.size ad oa oa := fun q => q.2.2 rfl
  have hI2 := LB_call (M := M) (xs (6 * n + 1)) (xs (6 * n + 2))
  intro ls hl
  refine lv_aload_n hx hb dL_law_1762 rfl (lv_at hl 1 rfl) ?_
  refine lv_aload_n hx hb dL_law_1763 rfl (lv_at hl 0 rfl) ?_
  refine lv_iload hx hb dL_law_1764 (lv_at hl 4 rfl) ?_
  refine lv_iconst (v := nI 1) hx hb dL_law_1766 (by decide) ?_
  refine n_iadd hx hb dL_law_1767 (z := 6 * n + 1) rfl ?_
  refine va_sld hx hb hX hbl hbA hS (vp_in_nI (by omega) (by omega)) dL_law_1768 ?_
  rw [nI_clamp (show 6 * n + 1 < 2 ^ 31 by omega)]
  refine lv_aload_n hx hb dL_law_1769 rfl (lv_at hl 0 rfl) ?_
  refine lv_iload hx hb dL_law_1770 (lv_at hl 4 rfl) ?_
  refine lv_iconst (v := nI 2) hx hb dL_law_1772 (by decide) ?_
  refine n_iadd hx hb dL_law_1773 (z := 6 * n + 2) rfl ?_
  refine va_sld hx hb hX hbl hbA hS (vp_in_nI (by omega) (by omega)) dL_law_1774 ?_
  rw [nI_clamp (show 6 * n + 2 < 2 ^ 31 by omega)]
  refine lv_aload_n hx hb dL_law_1775 rfl (lv_at hl 3 rfl) ?_
  refine va_calli (vx_runSW (As := [.ref h, .int (xs (6 * n + 1)), .int (xs (6 * n + 2)), .ref oa]) (rest := []) ⟨hx, hb, hml, hown, hts⟩ (cL9_call l hst D cI cO cb eA mi st dO dT vF ws hc hM hsI cJ oa x hno (xs (6 * n + 1)) (xs (6 * n + 2))) (vx_cwSW 4 hts gL_law_L_call rfl rfl rfl kd_L_call ⟨Nat.le_of_ble_eq_true rfl, Nat.le_of_ble_eq_true rfl⟩) ⟨lB_blind, lB_pre hK hKJ hG hGT hN (fun q h => h.1) hS (fresh_lA hPm ho hS) hP ho _⟩ rfl rfl hl.1 rfl (lv_room (Nat.le_of_ble_eq_true rfl)) dL_law_1776 ⟨by show cells + 2 ≤ 601024; omega, by show slots + 12 ≤ 7293033; omega⟩) hS (fun q _ h => h.elim (fun h => h.1) (fun h => by rw [h]; exact hon)) (fun q h => h.elim (fun h => h.1) (fun h => by rw [h]; exact hon)) (fun r u U8 H1 locs1 ht hvm hu hB hz1 hk1 hS1 => ?_)
  obtain ⟨hri, hk3, hout, hc3⟩ := hu
  subst hri
  rw [ht] at hB
  obtain ⟨hB1, ho1⟩ := hB
  have hPm1 := mP_keep hPm hk1 hnm
  clear hS hP hPm ho
  have hS := hS1
  refine lv_istore (lv' := [(5, .int (nI (k_call M (xs (6 * n + 1)) (xs (6 * n + 2))))), (0, .ref b), (1, .ref h), (2, .ref (ad 0)), (3, .ref oa), (4, .int (nI (6 * n)))]) hx hb dL_law_1779 hl (by decide) rfl (fun ls hl => ?_)
  refine lv_aload_n hx hb dL_law_1781 rfl (lv_at hl 3 rfl) ?_
  refine lv_aload_n hx hb dL_law_1782 rfl (lv_at hl 1 rfl) ?_
  refine lv_iload hx hb dL_law_1783 (lv_at hl 5 rfl) ?_
  refine lv_iconst (v := nI 1) hx hb dL_law_1785 (by decide) ?_
  refine n_iadd hx hb dL_law_1786 (z := 6 * n + 1) rfl ?_
  refine va_sld hx hb hX hbl hbA hS (vp_in_nI (by omega) (by omega)) dL_law_1787 ?_
  rw [nI_clamp (show 6 * n + 1 < 2 ^ 31 by omega)]
  refine lv_aload_n hx hb dL_law_1788 rfl (lv_at hl 1 rfl) ?_
  refine lv_iload hx hb dL_law_1789 (lv_at hl 5 rfl) ?_
  refine lv_iconst (v := nI 2) hx hb dL_law_1791 (by decide) ?_
  refine n_iadd hx hb dL_law_1792 (z := 6 * n + 2) rfl ?_
  refine va_sld hx hb hX hbl hbA hS (vp_in_nI (by omega) (by omega)) dL_law_1793 ?_
  rw [nI_clamp (show 6 * n + 2 < 2 ^ 31 by omega)]
  refine va_calli (va_runV (As := [.int (xs (6 * n + 1)), .int (xs (6 * n + 2))]) (rest := []) ⟨hx, hb, hml, hown, hts⟩ (c9_call l D ad cI cZ cC th M hM hdis (xs (6 * n + 1)) (xs (6 * n + 2))) (cwV 2 hts gL_law_X9_call rfl rfl rfl kd_X9_call ⟨Nat.le_of_ble_eq_true rfl, Nat.le_of_ble_eq_true rfl⟩) ⟨mB_blind, m_recv hKm hPm1, m_pre hKm hPm1 _⟩ rfl rfl hl.1 rfl (lv_room (Nat.le_of_ble_eq_true rfl)) dL_law_1794 ⟨by show cells + 2 + 0 ≤ 601024; omega, by show slots + 12 + 0 ≤ 7293033; omega⟩) hS (fun q _ h => hmn q h) (fun q h => hmn q h) (fun r2 u2 U9 H2 locs2 ht2 hvm2 hu2 hB2 hz2 hk2 hS2 => ?_)
  subst hu2
  replace hB2 : va_P D vwCl (mws ad cI cZ cC (k_call M (xs (6 * n + 1)) (xs (6 * n + 2))) (g_call M (xs (6 * n + 1)) (xs (6 * n + 2)))) U9.heap := hB2
  rw [ht2] at hB2
  have hP2 := cP_keep hB1 hc3.dis hk2
  have ho2 := ho1.kept (hk2 oa ho1.lt hnm)
  refine lv_istore (lv' := [(6, .int (r_call M (xs (6 * n + 1)) (xs (6 * n + 2)))), (5, .int (nI (k_call M (xs (6 * n + 1)) (xs (6 * n + 2))))), (0, .ref b), (1, .ref h), (2, .ref (ad 0)), (3, .ref oa), (4, .int (nI (6 * n)))]) hx hb dL_law_1797 hl (by decide) rfl (fun ls hl => ?_)
  have hM2 := (MI_call hM (xs (6 * n + 1)) (xs (6 * n + 2)))
  refine lv_aload_n hx hb dL_law_1799 rfl (lv_at hl 4 rfl) ?_
  refine vp_callSi (W.runV (As := []) (rest := []) ⟨hx, hb, hml, hown, hts⟩ (c9_thrown l D ad cI cZ cC (k_call M (xs (6 * n + 1)) (xs (6 * n + 2))) (g_call M (xs (6 * n + 1)) (xs (6 * n + 2))) hM2) (cwV 0 hts gL_law_X9_thrown rfl rfl rfl kd_X9_thrown ⟨Nat.le_of_ble_eq_true rfl, Nat.le_of_ble_eq_true rfl⟩) ⟨mB_blind, m_recv hKm hB2, m_pre hKm hB2 _⟩ rfl rfl hl.1 rfl (lv_room (Nat.le_of_ble_eq_true rfl)) dL_law_1800 ⟨by show cells + 2 + 0 + 0 ≤ 601024; omega, by show slots + 12 + 0 + 0 ≤ 7293033; omega⟩) (fun r3 hr3 => ?_)
  subst hr3
  refine lv_iload hx hb dL_law_1803 (lv_at hl 1 rfl) ?_
  refine lv_icmp_eq (tgt := 1810) hx hb dL_law_1805 (by decide) (fun c9 => ?_) (fun c9 => absurd rfl c9)
  have hfin : ∀ ls, lv_has ls 7 [(6, .int (r_call M (xs (6 * n + 1)) (xs (6 * n + 2)))), (5, .int (nI (k_call M (xs (6 * n + 1)) (xs (6 * n + 2))))), (0, .ref b), (1, .ref h), (2, .ref (ad 0)), (3, .ref oa), (4, .int (nI (6 * n)))] → W p l e room_1 s m args below meth c H2 locs2 (cells + 2 + 0) (slots + 12 + 0) Q (F0 m 2054 ls []) := fun ls hl => by
    refine W.widen (k := cells + 241) (n := slots + 12126) (by omega) (by omega) ?_
    exact kk _ _ _ _ _ _ ⟨hc3, hM2, hI2.1 hLB, by have := hI2.2; omega, hP2, hB2, ho2, hS2⟩ ls (lv_sub hl [2, 3, 4, 5, 6] rfl)
  refine lv_iload hx hb dL_law_1810 (lv_at hl 1 rfl) ?_
  refine n_if_ne (tgt := 1827) hx hb dL_law_1812 (by decide) (by omega) (fun c8 => ?_) (fun c8 => ?_)
  · refine lv_goto (tgt := 2054) hx hb dL_law_1827 (by decide) (hfin ls hl)
  · have ho3 := hout c8
    rw [ho3] at ho2
    refine lv_aload_n hx hb dL_law_1815 rfl (lv_at hl 5 rfl) ?_
    refine lv_iconst (v := nI 0) hx hb dL_law_1816 (by decide) ?_
    refine va_lald hx hb hKJ (va_P_one ho2) 0 0 rfl rfl (vp_in_nI (by decide) (by decide)) dL_law_1817 ?_
    refine lv_iload hx hb dL_law_1818 (lv_at hl 0 rfl) ?_
    refine lv_i2l (v := Int32.toInt64 (r_call M (xs (6 * n + 1)) (xs (6 * n + 2)))) hx hb dL_law_1820 rfl ?_
    refine lw_lcmp hx hb dL_law_1821 ?_
    refine n_if_eq (tgt := 1827) hx hb dL_law_1822 (by decide) (by decide) (fun _ => ?_) (fun c7 => absurd rfl c7)
    exact lv_goto (tgt := 2054) hx hb dL_law_1827 (by decide) (hfin ls hl)
set_option maxHeartbeats 4000000 in
set_option maxRecDepth 100000 in
theorem lc_running {p : Program} {l : Launch} {e : Env} {s : State} {m : MethodId} {args : Array Value} {below : List Frame} {meth : Method} {c : Code} {b L : Nat} {xs : Nat → Int32} {Q : State → Prop} {D : va_G} {cI cO cb cZ cC cJ : ClassId} {eA mi : Nat} {st ad : Nat → Nat} {dO dT : Nat} {vF : Value} {h oa : Nat} (hst : l.stackTraces = false) (C0 : LC p s m args c b L xs D cI cO cb cZ cC cJ eA mi st ad dO dT vF oa) {n : Nat} (hn : 6 * n + 6 ≤ L) (hL : L ≤ 3072) {M : MS} {ws : va_W} {th : Nat} {x : Int64} {H : Heap} {locs : List Loc} (hI : LI D cI cO eA st cZ cC cJ s ad h oa n M ws th x H locs) {cells slots : Nat} (hc1 : cells + 241 ≤ 601024) (hc2 : slots + 12126 ≤ 7293033) (kk : ∀ M ws th x H locs, LI D cI cO eA st cZ cC cJ s ad h oa (n + 1) M ws th x H locs → ∀ ls, lv_has ls 7 [(0, .ref b), (1, .ref h), (2, .ref (ad 0)), (3, .ref oa), (4, .int (nI (6 * n)))] → W p l e room_1 s m args below meth c H locs (cells + 241) (slots + 12126) Q (F0 m 2054 ls [])) : ∀ ls, lv_has ls 7 [(0, .ref b), (1, .ref h), (2, .ref (ad 0)), (3, .ref oa), (4, .int (nI (6 * n)))] → W p l e room_1 s m args below meth c H locs cells slots Q (F0 m 1830 ls []) := by
  obtain ⟨hx, hb, hml, hown, hts, hX, hbl, hK, hKm, hKJ, hG, hGT, hN, hsI, hdis, hmn, hon, hnm⟩ := C0
  obtain ⟨hc, hM, hLB, h15, hP, hPm, ho, hS⟩ := hI
  have hbA : ¬ (fun q : Nat => s.heap.size ≤ q) b := Nat.not_le.mpr hbl
  have hno : ¬ lA s.heap.size ad oa oa := fun q => q.2.2 rfl
  have hI2 := LBN.rf (M := M)
  intro ls hl
  refine lv_aload_n hx hb dL_law_1830 rfl (lv_at hl 1 rfl) ?_
  refine lv_aload_n hx hb dL_law_1831 rfl (lv_at hl 0 rfl) ?_
  refine lv_iload hx hb dL_law_1832 (lv_at hl 4 rfl) ?_
  refine lv_iconst (v := nI 1) hx hb dL_law_1834 (by decide) ?_
  refine n_iadd hx hb dL_law_1835 (z := 6 * n + 1) rfl ?_
  refine va_sld hx hb hX hbl hbA hS (vp_in_nI (by omega) (by omega)) dL_law_1836 ?_
  rw [nI_clamp (show 6 * n + 1 < 2 ^ 31 by omega)]
  refine lv_aload_n hx hb dL_law_1837 rfl (lv_at hl 3 rfl) ?_
  refine va_calli (vx_runSW (As := [.ref h, .int (xs (6 * n + 1)), .ref oa]) (rest := []) ⟨hx, hb, hml, hown, hts⟩ (cL9_running l hst D cI cO cb eA mi st dO dT vF ws hc hM hsI cJ oa x hno (xs (6 * n + 1))) (vx_cwSW 3 hts gL_law_L_running rfl rfl rfl kd_L_running ⟨Nat.le_of_ble_eq_true rfl, Nat.le_of_ble_eq_true rfl⟩) ⟨lB_blind, lB_pre hK hKJ hG hGT hN (fun q h => h.1) hS (fresh_lA hPm ho hS) hP ho _⟩ rfl rfl hl.1 rfl (lv_room (Nat.le_of_ble_eq_true rfl)) dL_law_1838 ⟨by show cells + 1 ≤ 601024; omega, by show slots + 6 ≤ 7293033; omega⟩) hS (fun q _ h => h.elim (fun h => h.1) (fun h => by rw [h]; exact hon)) (fun q h => h.elim (fun h => h.1) (fun h => by rw [h]; exact hon)) (fun r u U8 H1 locs1 ht hvm hu hB hz1 hk1 hS1 => ?_)
  obtain ⟨hri, hk3, hout, hc3⟩ := hu
  subst hri
  rw [ht] at hB
  obtain ⟨hB1, ho1⟩ := hB
  have hPm1 := mP_keep hPm hk1 hnm
  clear hS hP hPm ho
  have hS := hS1
  refine lv_istore (lv' := [(5, .int (nI (k_ct M (xs (6 * n + 1))))), (0, .ref b), (1, .ref h), (2, .ref (ad 0)), (3, .ref oa), (4, .int (nI (6 * n)))]) hx hb dL_law_1841 hl (by decide) rfl (fun ls hl => ?_)
  refine lv_aload_n hx hb dL_law_1843 rfl (lv_at hl 3 rfl) ?_
  refine lv_aload_n hx hb dL_law_1844 rfl (lv_at hl 1 rfl) ?_
  refine lv_iload hx hb dL_law_1845 (lv_at hl 5 rfl) ?_
  refine lv_iconst (v := nI 1) hx hb dL_law_1847 (by decide) ?_
  refine n_iadd hx hb dL_law_1848 (z := 6 * n + 1) rfl ?_
  refine va_sld hx hb hX hbl hbA hS (vp_in_nI (by omega) (by omega)) dL_law_1849 ?_
  rw [nI_clamp (show 6 * n + 1 < 2 ^ 31 by omega)]
  refine va_calli (va_runV (As := [.int (xs (6 * n + 1))]) (rest := []) ⟨hx, hb, hml, hown, hts⟩ (c9_running l D ad cI cZ cC th M hM hdis (xs (6 * n + 1))) (cwV 1 hts gL_law_X9_running rfl rfl rfl kd_X9_running ⟨Nat.le_of_ble_eq_true rfl, Nat.le_of_ble_eq_true rfl⟩) ⟨mB_blind, m_recv hKm hPm1, m_pre hKm hPm1 _⟩ rfl rfl hl.1 rfl (lv_room (Nat.le_of_ble_eq_true rfl)) dL_law_1850 ⟨by show cells + 1 + 0 ≤ 601024; omega, by show slots + 6 + 0 ≤ 7293033; omega⟩) hS (fun q _ h => hmn q h) (fun q h => hmn q h) (fun r2 u2 U9 H2 locs2 ht2 hvm2 hu2 hB2 hz2 hk2 hS2 => ?_)
  subst hu2
  replace hB2 : va_P D vwCl (mws ad cI cZ cC (k_ct M (xs (6 * n + 1))) (M)) U9.heap := hB2
  rw [ht2] at hB2
  have hP2 := cP_keep hB1 hc3.dis hk2
  have ho2 := ho1.kept (hk2 oa ho1.lt hnm)
  refine lv_istore (lv' := [(6, .int (r_running M (xs (6 * n + 1)))), (5, .int (nI (k_ct M (xs (6 * n + 1))))), (0, .ref b), (1, .ref h), (2, .ref (ad 0)), (3, .ref oa), (4, .int (nI (6 * n)))]) hx hb dL_law_1853 hl (by decide) rfl (fun ls hl => ?_)
  have hM2 := hM
  refine lv_aload_n hx hb dL_law_1855 rfl (lv_at hl 4 rfl) ?_
  refine vp_callSi (W.runV (As := []) (rest := []) ⟨hx, hb, hml, hown, hts⟩ (c9_thrown l D ad cI cZ cC (k_ct M (xs (6 * n + 1))) (M) hM2) (cwV 0 hts gL_law_X9_thrown rfl rfl rfl kd_X9_thrown ⟨Nat.le_of_ble_eq_true rfl, Nat.le_of_ble_eq_true rfl⟩) ⟨mB_blind, m_recv hKm hB2, m_pre hKm hB2 _⟩ rfl rfl hl.1 rfl (lv_room (Nat.le_of_ble_eq_true rfl)) dL_law_1856 ⟨by show cells + 1 + 0 + 0 ≤ 601024; omega, by show slots + 6 + 0 + 0 ≤ 7293033; omega⟩) (fun r3 hr3 => ?_)
  subst hr3
  refine lv_iload hx hb dL_law_1859 (lv_at hl 1 rfl) ?_
  refine lv_icmp_eq (tgt := 1866) hx hb dL_law_1861 (by decide) (fun c9 => ?_) (fun c9 => absurd rfl c9)
  have hfin : ∀ ls, lv_has ls 7 [(6, .int (r_running M (xs (6 * n + 1)))), (5, .int (nI (k_ct M (xs (6 * n + 1))))), (0, .ref b), (1, .ref h), (2, .ref (ad 0)), (3, .ref oa), (4, .int (nI (6 * n)))] → W p l e room_1 s m args below meth c H2 locs2 (cells + 1 + 0) (slots + 6 + 0) Q (F0 m 2054 ls []) := fun ls hl => by
    refine W.widen (k := cells + 241) (n := slots + 12126) (by omega) (by omega) ?_
    exact kk _ _ _ _ _ _ ⟨hc3, hM2, hI2.1 hLB, by have := hI2.2; omega, hP2, hB2, ho2, hS2⟩ ls (lv_sub hl [2, 3, 4, 5, 6] rfl)
  refine lv_iload hx hb dL_law_1866 (lv_at hl 1 rfl) ?_
  refine n_if_ne (tgt := 1883) hx hb dL_law_1868 (by decide) (by omega) (fun c8 => ?_) (fun c8 => ?_)
  · refine lv_goto (tgt := 2054) hx hb dL_law_1883 (by decide) (hfin ls hl)
  · have ho3 := hout c8
    rw [ho3] at ho2
    refine lv_aload_n hx hb dL_law_1871 rfl (lv_at hl 5 rfl) ?_
    refine lv_iconst (v := nI 0) hx hb dL_law_1872 (by decide) ?_
    refine va_lald hx hb hKJ (va_P_one ho2) 0 0 rfl rfl (vp_in_nI (by decide) (by decide)) dL_law_1873 ?_
    refine lv_iload hx hb dL_law_1874 (lv_at hl 0 rfl) ?_
    refine lv_i2l (v := Int32.toInt64 (r_running M (xs (6 * n + 1)))) hx hb dL_law_1876 rfl ?_
    refine lw_lcmp hx hb dL_law_1877 ?_
    refine n_if_eq (tgt := 1883) hx hb dL_law_1878 (by decide) (by decide) (fun _ => ?_) (fun c7 => absurd rfl c7)
    exact lv_goto (tgt := 2054) hx hb dL_law_1883 (by decide) (hfin ls hl)
set_option maxHeartbeats 4000000 in
set_option maxRecDepth 100000 in
theorem lc_owes {p : Program} {l : Launch} {e : Env} {s : State} {m : MethodId} {args : Array Value} {below : List Frame} {meth : Method} {c : Code} {b L : Nat} {xs : Nat → Int32} {Q : State → Prop} {D : va_G} {cI cO cb cZ cC cJ : ClassId} {eA mi : Nat} {st ad : Nat → Nat} {dO dT : Nat} {vF : Value} {h oa : Nat} (hst : l.stackTraces = false) (C0 : LC p s m args c b L xs D cI cO cb cZ cC cJ eA mi st ad dO dT vF oa) {n : Nat} (hn : 6 * n + 6 ≤ L) (hL : L ≤ 3072) {M : MS} {ws : va_W} {th : Nat} {x : Int64} {H : Heap} {locs : List Loc} (hI : LI D cI cO eA st cZ cC cJ s ad h oa n M ws th x H locs) {cells slots : Nat} (hc1 : cells + 241 ≤ 601024) (hc2 : slots + 12126 ≤ 7293033) (kk : ∀ M ws th x H locs, LI D cI cO eA st cZ cC cJ s ad h oa (n + 1) M ws th x H locs → ∀ ls, lv_has ls 7 [(0, .ref b), (1, .ref h), (2, .ref (ad 0)), (3, .ref oa), (4, .int (nI (6 * n)))] → W p l e room_1 s m args below meth c H locs (cells + 241) (slots + 12126) Q (F0 m 2054 ls [])) : ∀ ls, lv_has ls 7 [(0, .ref b), (1, .ref h), (2, .ref (ad 0)), (3, .ref oa), (4, .int (nI (6 * n)))] → W p l e room_1 s m args below meth c H locs cells slots Q (F0 m 1886 ls []) := by
  obtain ⟨hx, hb, hml, hown, hts, hX, hbl, hK, hKm, hKJ, hG, hGT, hN, hsI, hdis, hmn, hon, hnm⟩ := C0
  obtain ⟨hc, hM, hLB, h15, hP, hPm, ho, hS⟩ := hI
  have hbA : ¬ (fun q : Nat => s.heap.size ≤ q) b := Nat.not_le.mpr hbl
  have hno : ¬ lA s.heap.size ad oa oa := fun q => q.2.2 rfl
  have hI2 := LBN.rf (M := M)
  intro ls hl
  refine lv_aload_n hx hb dL_law_1886 rfl (lv_at hl 1 rfl) ?_
  refine lv_aload_n hx hb dL_law_1887 rfl (lv_at hl 0 rfl) ?_
  refine lv_iload hx hb dL_law_1888 (lv_at hl 4 rfl) ?_
  refine lv_iconst (v := nI 1) hx hb dL_law_1890 (by decide) ?_
  refine n_iadd hx hb dL_law_1891 (z := 6 * n + 1) rfl ?_
  refine va_sld hx hb hX hbl hbA hS (vp_in_nI (by omega) (by omega)) dL_law_1892 ?_
  rw [nI_clamp (show 6 * n + 1 < 2 ^ 31 by omega)]
  refine lv_aload_n hx hb dL_law_1893 rfl (lv_at hl 3 rfl) ?_
  refine va_calli (vx_runSW (As := [.ref h, .int (xs (6 * n + 1)), .ref oa]) (rest := []) ⟨hx, hb, hml, hown, hts⟩ (cL9_owes l hst D cI cO cb eA mi st dO dT vF ws hc hM hsI cJ oa x hno (xs (6 * n + 1))) (vx_cwSW 3 hts gL_law_L_owes rfl rfl rfl kd_L_owes ⟨Nat.le_of_ble_eq_true rfl, Nat.le_of_ble_eq_true rfl⟩) ⟨lB_blind, lB_pre hK hKJ hG hGT hN (fun q h => h.1) hS (fresh_lA hPm ho hS) hP ho _⟩ rfl rfl hl.1 rfl (lv_room (Nat.le_of_ble_eq_true rfl)) dL_law_1894 ⟨by show cells + 1 ≤ 601024; omega, by show slots + 6 ≤ 7293033; omega⟩) hS (fun q _ h => h.elim (fun h => h.1) (fun h => by rw [h]; exact hon)) (fun q h => h.elim (fun h => h.1) (fun h => by rw [h]; exact hon)) (fun r u U8 H1 locs1 ht hvm hu hB hz1 hk1 hS1 => ?_)
  obtain ⟨hri, hk3, hout, hc3⟩ := hu
  subst hri
  rw [ht] at hB
  obtain ⟨hB1, ho1⟩ := hB
  have hPm1 := mP_keep hPm hk1 hnm
  clear hS hP hPm ho
  have hS := hS1
  refine lv_istore (lv' := [(5, .int (nI (k_b (xs (6 * n + 1))))), (0, .ref b), (1, .ref h), (2, .ref (ad 0)), (3, .ref oa), (4, .int (nI (6 * n)))]) hx hb dL_law_1897 hl (by decide) rfl (fun ls hl => ?_)
  refine lv_aload_n hx hb dL_law_1899 rfl (lv_at hl 3 rfl) ?_
  refine lv_aload_n hx hb dL_law_1900 rfl (lv_at hl 1 rfl) ?_
  refine lv_iload hx hb dL_law_1901 (lv_at hl 5 rfl) ?_
  refine lv_iconst (v := nI 1) hx hb dL_law_1903 (by decide) ?_
  refine n_iadd hx hb dL_law_1904 (z := 6 * n + 1) rfl ?_
  refine va_sld hx hb hX hbl hbA hS (vp_in_nI (by omega) (by omega)) dL_law_1905 ?_
  rw [nI_clamp (show 6 * n + 1 < 2 ^ 31 by omega)]
  refine va_calli (va_runV (As := [.int (xs (6 * n + 1))]) (rest := []) ⟨hx, hb, hml, hown, hts⟩ (c9_owes l D ad cI cZ cC th M hM hdis (xs (6 * n + 1))) (cwV 1 hts gL_law_X9_owes rfl rfl rfl kd_X9_owes ⟨Nat.le_of_ble_eq_true rfl, Nat.le_of_ble_eq_true rfl⟩) ⟨mB_blind, m_recv hKm hPm1, m_pre hKm hPm1 _⟩ rfl rfl hl.1 rfl (lv_room (Nat.le_of_ble_eq_true rfl)) dL_law_1906 ⟨by show cells + 1 + 0 ≤ 601024; omega, by show slots + 6 + 0 ≤ 7293033; omega⟩) hS (fun q _ h => hmn q h) (fun q h => hmn q h) (fun r2 u2 U9 H2 locs2 ht2 hvm2 hu2 hB2 hz2 hk2 hS2 => ?_)
  subst hu2
  replace hB2 : va_P D vwCl (mws ad cI cZ cC (k_b (xs (6 * n + 1))) (M)) U9.heap := hB2
  rw [ht2] at hB2
  have hP2 := cP_keep hB1 hc3.dis hk2
  have ho2 := ho1.kept (hk2 oa ho1.lt hnm)
  refine lv_istore (lv' := [(6, .int (r_owes M (xs (6 * n + 1)))), (5, .int (nI (k_b (xs (6 * n + 1))))), (0, .ref b), (1, .ref h), (2, .ref (ad 0)), (3, .ref oa), (4, .int (nI (6 * n)))]) hx hb dL_law_1909 hl (by decide) rfl (fun ls hl => ?_)
  have hM2 := hM
  refine lv_aload_n hx hb dL_law_1911 rfl (lv_at hl 4 rfl) ?_
  refine vp_callSi (W.runV (As := []) (rest := []) ⟨hx, hb, hml, hown, hts⟩ (c9_thrown l D ad cI cZ cC (k_b (xs (6 * n + 1))) (M) hM2) (cwV 0 hts gL_law_X9_thrown rfl rfl rfl kd_X9_thrown ⟨Nat.le_of_ble_eq_true rfl, Nat.le_of_ble_eq_true rfl⟩) ⟨mB_blind, m_recv hKm hB2, m_pre hKm hB2 _⟩ rfl rfl hl.1 rfl (lv_room (Nat.le_of_ble_eq_true rfl)) dL_law_1912 ⟨by show cells + 1 + 0 + 0 ≤ 601024; omega, by show slots + 6 + 0 + 0 ≤ 7293033; omega⟩) (fun r3 hr3 => ?_)
  subst hr3
  refine lv_iload hx hb dL_law_1915 (lv_at hl 1 rfl) ?_
  refine lv_icmp_eq (tgt := 1922) hx hb dL_law_1917 (by decide) (fun c9 => ?_) (fun c9 => absurd rfl c9)
  have hfin : ∀ ls, lv_has ls 7 [(6, .int (r_owes M (xs (6 * n + 1)))), (5, .int (nI (k_b (xs (6 * n + 1))))), (0, .ref b), (1, .ref h), (2, .ref (ad 0)), (3, .ref oa), (4, .int (nI (6 * n)))] → W p l e room_1 s m args below meth c H2 locs2 (cells + 1 + 0) (slots + 6 + 0) Q (F0 m 2054 ls []) := fun ls hl => by
    refine W.widen (k := cells + 241) (n := slots + 12126) (by omega) (by omega) ?_
    exact kk _ _ _ _ _ _ ⟨hc3, hM2, hI2.1 hLB, by have := hI2.2; omega, hP2, hB2, ho2, hS2⟩ ls (lv_sub hl [2, 3, 4, 5, 6] rfl)
  refine lv_iload hx hb dL_law_1922 (lv_at hl 1 rfl) ?_
  refine n_if_ne (tgt := 1939) hx hb dL_law_1924 (by decide) (by omega) (fun c8 => ?_) (fun c8 => ?_)
  · refine lv_goto (tgt := 2054) hx hb dL_law_1939 (by decide) (hfin ls hl)
  · have ho3 := hout c8
    rw [ho3] at ho2
    refine lv_aload_n hx hb dL_law_1927 rfl (lv_at hl 5 rfl) ?_
    refine lv_iconst (v := nI 0) hx hb dL_law_1928 (by decide) ?_
    refine va_lald hx hb hKJ (va_P_one ho2) 0 0 rfl rfl (vp_in_nI (by decide) (by decide)) dL_law_1929 ?_
    refine lv_iload hx hb dL_law_1930 (lv_at hl 0 rfl) ?_
    refine lv_i2l (v := Int32.toInt64 (r_owes M (xs (6 * n + 1)))) hx hb dL_law_1932 rfl ?_
    refine lw_lcmp hx hb dL_law_1933 ?_
    refine n_if_eq (tgt := 1939) hx hb dL_law_1934 (by decide) (by decide) (fun _ => ?_) (fun c7 => absurd rfl c7)
    exact lv_goto (tgt := 2054) hx hb dL_law_1939 (by decide) (hfin ls hl)
set_option maxHeartbeats 4000000 in
set_option maxRecDepth 100000 in
theorem lc_held {p : Program} {l : Launch} {e : Env} {s : State} {m : MethodId} {args : Array Value} {below : List Frame} {meth : Method} {c : Code} {b L : Nat} {xs : Nat → Int32} {Q : State → Prop} {D : va_G} {cI cO cb cZ cC cJ : ClassId} {eA mi : Nat} {st ad : Nat → Nat} {dO dT : Nat} {vF : Value} {h oa : Nat} (hst : l.stackTraces = false) (C0 : LC p s m args c b L xs D cI cO cb cZ cC cJ eA mi st ad dO dT vF oa) {n : Nat} (hn : 6 * n + 6 ≤ L) (hL : L ≤ 3072) {M : MS} {ws : va_W} {th : Nat} {x : Int64} {H : Heap} {locs : List Loc} (hI : LI D cI cO eA st cZ cC cJ s ad h oa n M ws th x H locs) {cells slots : Nat} (hc1 : cells + 241 ≤ 601024) (hc2 : slots + 12126 ≤ 7293033) (kk : ∀ M ws th x H locs, LI D cI cO eA st cZ cC cJ s ad h oa (n + 1) M ws th x H locs → ∀ ls, lv_has ls 7 [(0, .ref b), (1, .ref h), (2, .ref (ad 0)), (3, .ref oa), (4, .int (nI (6 * n)))] → W p l e room_1 s m args below meth c H locs (cells + 241) (slots + 12126) Q (F0 m 2054 ls [])) : ∀ ls, lv_has ls 7 [(0, .ref b), (1, .ref h), (2, .ref (ad 0)), (3, .ref oa), (4, .int (nI (6 * n)))] → W p l e room_1 s m args below meth c H locs cells slots Q (F0 m 1942 ls []) := by
  obtain ⟨hx, hb, hml, hown, hts, hX, hbl, hK, hKm, hKJ, hG, hGT, hN, hsI, hdis, hmn, hon, hnm⟩ := C0
  obtain ⟨hc, hM, hLB, h15, hP, hPm, ho, hS⟩ := hI
  have hbA : ¬ (fun q : Nat => s.heap.size ≤ q) b := Nat.not_le.mpr hbl
  have hno : ¬ lA s.heap.size ad oa oa := fun q => q.2.2 rfl
  have hI2 := LBN.rf (M := M)
  intro ls hl
  refine lv_aload_n hx hb dL_law_1942 rfl (lv_at hl 1 rfl) ?_
  refine lv_aload_n hx hb dL_law_1943 rfl (lv_at hl 0 rfl) ?_
  refine lv_iload hx hb dL_law_1944 (lv_at hl 4 rfl) ?_
  refine lv_iconst (v := nI 1) hx hb dL_law_1946 (by decide) ?_
  refine n_iadd hx hb dL_law_1947 (z := 6 * n + 1) rfl ?_
  refine va_sld hx hb hX hbl hbA hS (vp_in_nI (by omega) (by omega)) dL_law_1948 ?_
  rw [nI_clamp (show 6 * n + 1 < 2 ^ 31 by omega)]
  refine lv_aload_n hx hb dL_law_1949 rfl (lv_at hl 3 rfl) ?_
  refine va_calli (vx_runSW (As := [.ref h, .int (xs (6 * n + 1)), .ref oa]) (rest := []) ⟨hx, hb, hml, hown, hts⟩ (cL9_held l hst D cI cO cb eA mi st dO dT vF ws hc hM hsI cJ oa x hno (xs (6 * n + 1))) (vx_cwSW 3 hts gL_law_L_held rfl rfl rfl kd_L_held ⟨Nat.le_of_ble_eq_true rfl, Nat.le_of_ble_eq_true rfl⟩) ⟨lB_blind, lB_pre hK hKJ hG hGT hN (fun q h => h.1) hS (fresh_lA hPm ho hS) hP ho _⟩ rfl rfl hl.1 rfl (lv_room (Nat.le_of_ble_eq_true rfl)) dL_law_1950 ⟨by show cells + 1 ≤ 601024; omega, by show slots + 6 ≤ 7293033; omega⟩) hS (fun q _ h => h.elim (fun h => h.1) (fun h => by rw [h]; exact hon)) (fun q h => h.elim (fun h => h.1) (fun h => by rw [h]; exact hon)) (fun r u U8 H1 locs1 ht hvm hu hB hz1 hk1 hS1 => ?_)
  obtain ⟨hri, hk3, hout, hc3⟩ := hu
  subst hri
  rw [ht] at hB
  obtain ⟨hB1, ho1⟩ := hB
  have hPm1 := mP_keep hPm hk1 hnm
  clear hS hP hPm ho
  have hS := hS1
  refine lv_istore (lv' := [(5, .int (nI (k_b (xs (6 * n + 1))))), (0, .ref b), (1, .ref h), (2, .ref (ad 0)), (3, .ref oa), (4, .int (nI (6 * n)))]) hx hb dL_law_1953 hl (by decide) rfl (fun ls hl => ?_)
  refine lv_aload_n hx hb dL_law_1955 rfl (lv_at hl 3 rfl) ?_
  refine lv_aload_n hx hb dL_law_1956 rfl (lv_at hl 1 rfl) ?_
  refine lv_iload hx hb dL_law_1957 (lv_at hl 5 rfl) ?_
  refine lv_iconst (v := nI 1) hx hb dL_law_1959 (by decide) ?_
  refine n_iadd hx hb dL_law_1960 (z := 6 * n + 1) rfl ?_
  refine va_sld hx hb hX hbl hbA hS (vp_in_nI (by omega) (by omega)) dL_law_1961 ?_
  rw [nI_clamp (show 6 * n + 1 < 2 ^ 31 by omega)]
  refine va_calli (va_runV (As := [.int (xs (6 * n + 1))]) (rest := []) ⟨hx, hb, hml, hown, hts⟩ (c9_held l D ad cI cZ cC th M hM hdis (xs (6 * n + 1))) (cwV 1 hts gL_law_X9_held rfl rfl rfl kd_X9_held ⟨Nat.le_of_ble_eq_true rfl, Nat.le_of_ble_eq_true rfl⟩) ⟨mB_blind, m_recv hKm hPm1, m_pre hKm hPm1 _⟩ rfl rfl hl.1 rfl (lv_room (Nat.le_of_ble_eq_true rfl)) dL_law_1962 ⟨by show cells + 1 + 0 ≤ 601024; omega, by show slots + 6 + 0 ≤ 7293033; omega⟩) hS (fun q _ h => hmn q h) (fun q h => hmn q h) (fun r2 u2 U9 H2 locs2 ht2 hvm2 hu2 hB2 hz2 hk2 hS2 => ?_)
  subst hu2
  replace hB2 : va_P D vwCl (mws ad cI cZ cC (k_b (xs (6 * n + 1))) (M)) U9.heap := hB2
  rw [ht2] at hB2
  have hP2 := cP_keep hB1 hc3.dis hk2
  have ho2 := ho1.kept (hk2 oa ho1.lt hnm)
  refine lv_istore (lv' := [(6, .int (r_held M (xs (6 * n + 1)))), (5, .int (nI (k_b (xs (6 * n + 1))))), (0, .ref b), (1, .ref h), (2, .ref (ad 0)), (3, .ref oa), (4, .int (nI (6 * n)))]) hx hb dL_law_1965 hl (by decide) rfl (fun ls hl => ?_)
  have hM2 := hM
  refine lv_aload_n hx hb dL_law_1967 rfl (lv_at hl 4 rfl) ?_
  refine vp_callSi (W.runV (As := []) (rest := []) ⟨hx, hb, hml, hown, hts⟩ (c9_thrown l D ad cI cZ cC (k_b (xs (6 * n + 1))) (M) hM2) (cwV 0 hts gL_law_X9_thrown rfl rfl rfl kd_X9_thrown ⟨Nat.le_of_ble_eq_true rfl, Nat.le_of_ble_eq_true rfl⟩) ⟨mB_blind, m_recv hKm hB2, m_pre hKm hB2 _⟩ rfl rfl hl.1 rfl (lv_room (Nat.le_of_ble_eq_true rfl)) dL_law_1968 ⟨by show cells + 1 + 0 + 0 ≤ 601024; omega, by show slots + 6 + 0 + 0 ≤ 7293033; omega⟩) (fun r3 hr3 => ?_)
  subst hr3
  refine lv_iload hx hb dL_law_1971 (lv_at hl 1 rfl) ?_
  refine lv_icmp_eq (tgt := 1978) hx hb dL_law_1973 (by decide) (fun c9 => ?_) (fun c9 => absurd rfl c9)
  have hfin : ∀ ls, lv_has ls 7 [(6, .int (r_held M (xs (6 * n + 1)))), (5, .int (nI (k_b (xs (6 * n + 1))))), (0, .ref b), (1, .ref h), (2, .ref (ad 0)), (3, .ref oa), (4, .int (nI (6 * n)))] → W p l e room_1 s m args below meth c H2 locs2 (cells + 1 + 0) (slots + 6 + 0) Q (F0 m 2054 ls []) := fun ls hl => by
    refine W.widen (k := cells + 241) (n := slots + 12126) (by omega) (by omega) ?_
    exact kk _ _ _ _ _ _ ⟨hc3, hM2, hI2.1 hLB, by have := hI2.2; omega, hP2, hB2, ho2, hS2⟩ ls (lv_sub hl [2, 3, 4, 5, 6] rfl)
  refine lv_iload hx hb dL_law_1978 (lv_at hl 1 rfl) ?_
  refine n_if_ne (tgt := 1995) hx hb dL_law_1980 (by decide) (by omega) (fun c8 => ?_) (fun c8 => ?_)
  · refine lv_goto (tgt := 2054) hx hb dL_law_1995 (by decide) (hfin ls hl)
  · have ho3 := hout c8
    rw [ho3] at ho2
    refine lv_aload_n hx hb dL_law_1983 rfl (lv_at hl 5 rfl) ?_
    refine lv_iconst (v := nI 0) hx hb dL_law_1984 (by decide) ?_
    refine va_lald hx hb hKJ (va_P_one ho2) 0 0 rfl rfl (vp_in_nI (by decide) (by decide)) dL_law_1985 ?_
    refine lv_iload hx hb dL_law_1986 (lv_at hl 0 rfl) ?_
    refine lv_i2l (v := Int32.toInt64 (r_held M (xs (6 * n + 1)))) hx hb dL_law_1988 rfl ?_
    refine lw_lcmp hx hb dL_law_1989 ?_
    refine n_if_eq (tgt := 1995) hx hb dL_law_1990 (by decide) (by decide) (fun _ => ?_) (fun c7 => absurd rfl c7)
    exact lv_goto (tgt := 2054) hx hb dL_law_1995 (by decide) (hfin ls hl)
set_option maxHeartbeats 4000000 in
set_option maxRecDepth 100000 in
theorem lc_lost {p : Program} {l : Launch} {e : Env} {s : State} {m : MethodId} {args : Array Value} {below : List Frame} {meth : Method} {c : Code} {b L : Nat} {xs : Nat → Int32} {Q : State → Prop} {D : va_G} {cI cO cb cZ cC cJ : ClassId} {eA mi : Nat} {st ad : Nat → Nat} {dO dT : Nat} {vF : Value} {h oa : Nat} (hst : l.stackTraces = false) (C0 : LC p s m args c b L xs D cI cO cb cZ cC cJ eA mi st ad dO dT vF oa) {n : Nat} (hn : 6 * n + 6 ≤ L) (hL : L ≤ 3072) {M : MS} {ws : va_W} {th : Nat} {x : Int64} {H : Heap} {locs : List Loc} (hI : LI D cI cO eA st cZ cC cJ s ad h oa n M ws th x H locs) {cells slots : Nat} (hc1 : cells + 241 ≤ 601024) (hc2 : slots + 12126 ≤ 7293033) (kk : ∀ M ws th x H locs, LI D cI cO eA st cZ cC cJ s ad h oa (n + 1) M ws th x H locs → ∀ ls, lv_has ls 7 [(0, .ref b), (1, .ref h), (2, .ref (ad 0)), (3, .ref oa), (4, .int (nI (6 * n)))] → W p l e room_1 s m args below meth c H locs (cells + 241) (slots + 12126) Q (F0 m 2054 ls [])) : ∀ ls, lv_has ls 7 [(0, .ref b), (1, .ref h), (2, .ref (ad 0)), (3, .ref oa), (4, .int (nI (6 * n)))] → W p l e room_1 s m args below meth c H locs cells slots Q (F0 m 1998 ls []) := by
  obtain ⟨hx, hb, hml, hown, hts, hX, hbl, hK, hKm, hKJ, hG, hGT, hN, hsI, hdis, hmn, hon, hnm⟩ := C0
  obtain ⟨hc, hM, hLB, h15, hP, hPm, ho, hS⟩ := hI
  have hbA : ¬ (fun q : Nat => s.heap.size ≤ q) b := Nat.not_le.mpr hbl
  have hno : ¬ lA s.heap.size ad oa oa := fun q => q.2.2 rfl
  have hI2 := LBN.rf (M := M)
  intro ls hl
  refine lv_aload_n hx hb dL_law_1998 rfl (lv_at hl 1 rfl) ?_
  refine lv_aload_n hx hb dL_law_1999 rfl (lv_at hl 0 rfl) ?_
  refine lv_iload hx hb dL_law_2000 (lv_at hl 4 rfl) ?_
  refine lv_iconst (v := nI 1) hx hb dL_law_2002 (by decide) ?_
  refine n_iadd hx hb dL_law_2003 (z := 6 * n + 1) rfl ?_
  refine va_sld hx hb hX hbl hbA hS (vp_in_nI (by omega) (by omega)) dL_law_2004 ?_
  rw [nI_clamp (show 6 * n + 1 < 2 ^ 31 by omega)]
  refine lv_aload_n hx hb dL_law_2005 rfl (lv_at hl 3 rfl) ?_
  refine va_calli (vx_runSW (As := [.ref h, .int (xs (6 * n + 1)), .ref oa]) (rest := []) ⟨hx, hb, hml, hown, hts⟩ (cL9_lost l hst D cI cO cb eA mi st dO dT vF ws hc hM hsI cJ oa x hno (xs (6 * n + 1))) (vx_cwSW 3 hts gL_law_L_lost rfl rfl rfl kd_L_lost ⟨Nat.le_of_ble_eq_true rfl, Nat.le_of_ble_eq_true rfl⟩) ⟨lB_blind, lB_pre hK hKJ hG hGT hN (fun q h => h.1) hS (fresh_lA hPm ho hS) hP ho _⟩ rfl rfl hl.1 rfl (lv_room (Nat.le_of_ble_eq_true rfl)) dL_law_2006 ⟨by show cells + 1 ≤ 601024; omega, by show slots + 6 ≤ 7293033; omega⟩) hS (fun q _ h => h.elim (fun h => h.1) (fun h => by rw [h]; exact hon)) (fun q h => h.elim (fun h => h.1) (fun h => by rw [h]; exact hon)) (fun r u U8 H1 locs1 ht hvm hu hB hz1 hk1 hS1 => ?_)
  obtain ⟨hri, hk3, hout, hc3⟩ := hu
  subst hri
  rw [ht] at hB
  obtain ⟨hB1, ho1⟩ := hB
  have hPm1 := mP_keep hPm hk1 hnm
  clear hS hP hPm ho
  have hS := hS1
  refine lv_istore (lv' := [(5, .int (nI (k_b (xs (6 * n + 1))))), (0, .ref b), (1, .ref h), (2, .ref (ad 0)), (3, .ref oa), (4, .int (nI (6 * n)))]) hx hb dL_law_2009 hl (by decide) rfl (fun ls hl => ?_)
  refine lv_aload_n hx hb dL_law_2011 rfl (lv_at hl 3 rfl) ?_
  refine lv_aload_n hx hb dL_law_2012 rfl (lv_at hl 1 rfl) ?_
  refine lv_iload hx hb dL_law_2013 (lv_at hl 5 rfl) ?_
  refine lv_iconst (v := nI 1) hx hb dL_law_2015 (by decide) ?_
  refine n_iadd hx hb dL_law_2016 (z := 6 * n + 1) rfl ?_
  refine va_sld hx hb hX hbl hbA hS (vp_in_nI (by omega) (by omega)) dL_law_2017 ?_
  rw [nI_clamp (show 6 * n + 1 < 2 ^ 31 by omega)]
  refine va_calli (va_runV (As := [.int (xs (6 * n + 1))]) (rest := []) ⟨hx, hb, hml, hown, hts⟩ (c9_lost l D ad cI cZ cC th M hM hdis (xs (6 * n + 1))) (cwV 1 hts gL_law_X9_lost rfl rfl rfl kd_X9_lost ⟨Nat.le_of_ble_eq_true rfl, Nat.le_of_ble_eq_true rfl⟩) ⟨mB_blind, m_recv hKm hPm1, m_pre hKm hPm1 _⟩ rfl rfl hl.1 rfl (lv_room (Nat.le_of_ble_eq_true rfl)) dL_law_2018 ⟨by show cells + 1 + 0 ≤ 601024; omega, by show slots + 6 + 0 ≤ 7293033; omega⟩) hS (fun q _ h => hmn q h) (fun q h => hmn q h) (fun r2 u2 U9 H2 locs2 ht2 hvm2 hu2 hB2 hz2 hk2 hS2 => ?_)
  subst hu2
  replace hB2 : va_P D vwCl (mws ad cI cZ cC (k_b (xs (6 * n + 1))) (M)) U9.heap := hB2
  rw [ht2] at hB2
  have hP2 := cP_keep hB1 hc3.dis hk2
  have ho2 := ho1.kept (hk2 oa ho1.lt hnm)
  refine lv_istore (lv' := [(6, .int (r_lost M (xs (6 * n + 1)))), (5, .int (nI (k_b (xs (6 * n + 1))))), (0, .ref b), (1, .ref h), (2, .ref (ad 0)), (3, .ref oa), (4, .int (nI (6 * n)))]) hx hb dL_law_2021 hl (by decide) rfl (fun ls hl => ?_)
  have hM2 := hM
  refine lv_aload_n hx hb dL_law_2023 rfl (lv_at hl 4 rfl) ?_
  refine vp_callSi (W.runV (As := []) (rest := []) ⟨hx, hb, hml, hown, hts⟩ (c9_thrown l D ad cI cZ cC (k_b (xs (6 * n + 1))) (M) hM2) (cwV 0 hts gL_law_X9_thrown rfl rfl rfl kd_X9_thrown ⟨Nat.le_of_ble_eq_true rfl, Nat.le_of_ble_eq_true rfl⟩) ⟨mB_blind, m_recv hKm hB2, m_pre hKm hB2 _⟩ rfl rfl hl.1 rfl (lv_room (Nat.le_of_ble_eq_true rfl)) dL_law_2024 ⟨by show cells + 1 + 0 + 0 ≤ 601024; omega, by show slots + 6 + 0 + 0 ≤ 7293033; omega⟩) (fun r3 hr3 => ?_)
  subst hr3
  refine lv_iload hx hb dL_law_2027 (lv_at hl 1 rfl) ?_
  refine lv_icmp_eq (tgt := 2034) hx hb dL_law_2029 (by decide) (fun c9 => ?_) (fun c9 => absurd rfl c9)
  have hfin : ∀ ls, lv_has ls 7 [(6, .int (r_lost M (xs (6 * n + 1)))), (5, .int (nI (k_b (xs (6 * n + 1))))), (0, .ref b), (1, .ref h), (2, .ref (ad 0)), (3, .ref oa), (4, .int (nI (6 * n)))] → W p l e room_1 s m args below meth c H2 locs2 (cells + 1 + 0) (slots + 6 + 0) Q (F0 m 2054 ls []) := fun ls hl => by
    refine W.widen (k := cells + 241) (n := slots + 12126) (by omega) (by omega) ?_
    exact kk _ _ _ _ _ _ ⟨hc3, hM2, hI2.1 hLB, by have := hI2.2; omega, hP2, hB2, ho2, hS2⟩ ls (lv_sub hl [2, 3, 4, 5, 6] rfl)
  refine lv_iload hx hb dL_law_2034 (lv_at hl 1 rfl) ?_
  refine n_if_ne (tgt := 2051) hx hb dL_law_2036 (by decide) (by omega) (fun c8 => ?_) (fun c8 => ?_)
  · refine lv_goto (tgt := 2054) hx hb dL_law_2051 (by decide) (hfin ls hl)
  · have ho3 := hout c8
    rw [ho3] at ho2
    refine lv_aload_n hx hb dL_law_2039 rfl (lv_at hl 5 rfl) ?_
    refine lv_iconst (v := nI 0) hx hb dL_law_2040 (by decide) ?_
    refine va_lald hx hb hKJ (va_P_one ho2) 0 0 rfl rfl (vp_in_nI (by decide) (by decide)) dL_law_2041 ?_
    refine lv_iload hx hb dL_law_2042 (lv_at hl 0 rfl) ?_
    refine lv_i2l (v := Int32.toInt64 (r_lost M (xs (6 * n + 1)))) hx hb dL_law_2044 rfl ?_
    refine lw_lcmp hx hb dL_law_2045 ?_
    refine n_if_eq (tgt := 2051) hx hb dL_law_2046 (by decide) (by decide) (fun _ => ?_) (fun c7 => absurd rfl c7)
    exact lv_goto (tgt := 2054) hx hb dL_law_2051 (by decide) (hfin ls hl)
