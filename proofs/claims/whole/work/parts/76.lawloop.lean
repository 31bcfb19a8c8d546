/-! the law's loop -/
theorem and31 (x : Int32) : ∃ j : Nat, j < 32 ∧ x &&& nI 31 = nI j := by
  refine ⟨(x &&& nI 31).toBitVec.toNat, ?_, ?_⟩
  · have h : (x &&& nI 31).toBitVec = x.toBitVec &&& (31#32) := rfl
    rw [h, BitVec.toNat_and]
    exact Nat.lt_of_le_of_lt Nat.and_le_right (by decide)
  · apply Int32.toBitVec_inj.mp
    show (x &&& nI 31).toBitVec = BitVec.ofNat 32 ((x &&& nI 31).toBitVec.toNat)
    rw [BitVec.ofNat_toNat]; simp
theorem LI.more {D : va_G} {cI cO : ClassId} {eA : Nat} {st : Nat → Nat} {cZ cC cJ : ClassId} {s : State} {ad : Nat → Nat} {h oa n : Nat} {M : MS} {ws : va_W} {th : Nat} {x : Int64} {H : Heap} {locs : List Loc} (hI : LI D cI cO eA st cZ cC cJ s ad h oa n M ws th x H locs) : LI D cI cO eA st cZ cC cJ s ad h oa (n + 1) M ws th x H locs :=
  ⟨hI.1, hI.2.1, hI.2.2.1, Nat.le_succ_of_le hI.2.2.2.1, hI.2.2.2.2⟩
theorem cB_preN {D : va_G} {cI cO cb : ClassId} {eA mi : Nat} {st : Nat → Nat} {A A0 : Nat → Prop} {ws : va_W} {s : State} {H : Heap} {locs : List Loc} (hK : va_K D vwCl (cty cI cO cb) s) (hG : gS eA mi st A0 s s.heap) (hAB : ∀ q, A q → A0 q) (hS : va_S A0 s.heap H locs) (hA : ∀ q : Nat, H.size ≤ q → A q) (hP : va_P D vwCl ws H) (av : List Value) : ∀ U : State, U.heap = H → s.WarmedH U.vm → va_Pc av (cB D cI cO cb eA mi st A ws) av.toArray U :=
  fun U hU hW => ⟨rfl, by rw [hU]; exact hP, va_K.moved hW.alike hK, by rw [hU]; exact ((hG.kept (fun q h1 h2 => hS.2.1 q h1 h2)).narrow hAB).moved hW.alike, fun q hq => hA q (by rw [← hU]; exact hq)⟩
set_option maxHeartbeats 4000000 in
set_option maxRecDepth 100000 in
theorem lc_today {p : Program} {l : Launch} {e : Env} {s : State} {m : MethodId} {args : Array Value} {below : List Frame} {meth : Method} {c : Code} {b L : Nat} {xs : Nat → Int32} {Q : State → Prop} {D : va_G} {cI cO cb cZ cC cJ : ClassId} {eA mi : Nat} {st ad : Nat → Nat} {dO dT : Nat} {vF : Value} {h oa : Nat} (C0 : LC p s m args c b L xs D cI cO cb cZ cC cJ eA mi st ad dO dT vF oa) {n : Nat} {M : MS} {ws : va_W} {th : Nat} {x : Int64} {H : Heap} {locs : List Loc} (hI : LI D cI cO eA st cZ cC cJ s ad h oa n M ws th x H locs) {cells slots : Nat} (hc1 : cells + 241 ≤ 601024) (hc2 : slots + 12126 ≤ 7293033) (kk : ∀ M ws th x H locs, LI D cI cO eA st cZ cC cJ s ad h oa (n + 1) M ws th x H locs → ∀ ls, lv_has ls 7 [(0, .ref b), (1, .ref h), (2, .ref (ad 0)), (3, .ref oa), (4, .int (nI (6 * n)))] → W p l e room_1 s m args below meth c H locs (cells + 241) (slots + 12126) Q (F0 m 2054 ls [])) : ∀ ls, lv_has ls 7 [(0, .ref b), (1, .ref h), (2, .ref (ad 0)), (3, .ref oa), (4, .int (nI (6 * n)))] → W p l e room_1 s m args below meth c H locs cells slots Q (F0 m 648 ls []) := by
  obtain ⟨hx, hb, hml, hown, hts, hX, hbl, hK, hKm, hKJ, hG, hGT, hN, hsI, hdis, hmn, hon, hnm⟩ := C0
  have hI0 := hI
  obtain ⟨hc, hM, hLB, h15, hP, hPm, ho, hS⟩ := hI
  have hrec := hc.recv hK hP
  obtain ⟨own9, kd, F, L9, hC, hW, ⟨tn, lo, aw, co, ct, ow, G⟩, hD⟩ := hc
  have e5 : F 5 h = M 1 0 := G.1.2.2.1
  intro ls hl
  refine lv_aload_n hx hb dL_law_648 rfl (lv_at hl 1 rfl) ?_
  refine vp_callSi (W.runV (As := []) (rest := []) ⟨hx, hb, hml, hown, hts⟩ (ck_today l D cI cO cb eA mi st ws hD hC hW hsI h G.1.1) (cwV 0 hts gL_law_X8_today rfl rfl rfl kd_X8_today ⟨Nat.le_of_ble_eq_true rfl, Nat.le_of_ble_eq_true rfl⟩) ⟨cB_blind, hrec, cB_preN hK hG (fun q h => h.1) hS (fresh_lA hPm ho hS) hP _⟩ rfl rfl hl.1 rfl (lv_room (Nat.le_of_ble_eq_true rfl)) dL_law_649 ⟨by show cells + 0 ≤ 601024; omega, by show slots + 0 ≤ 7293033; omega⟩) (fun r3 hr3 => ?_)
  subst hr3
  refine lv_aload_n hx hb dL_law_652 rfl (lv_at hl 2 rfl) ?_
  refine va_calli (va_runV (As := []) (rest := [.int (nI (F 5 h))]) ⟨hx, hb, hml, hown, hts⟩ (c9_today l D ad cI cZ cC th M hM hdis) (cwV 0 hts gL_law_X9_today rfl rfl rfl kd_X9_today ⟨Nat.le_of_ble_eq_true rfl, Nat.le_of_ble_eq_true rfl⟩) ⟨mB_blind, m_recv hKm hPm, m_pre hKm hPm _⟩ rfl rfl hl.1 rfl (lv_room (Nat.le_of_ble_eq_true rfl)) dL_law_653 ⟨by show cells + 0 + 0 ≤ 601024; omega, by show slots + 0 + 0 ≤ 7293033; omega⟩) hS (fun q _ h => hmn q h) (fun q h => hmn q h) (fun r2 u2 U9 H2 locs2 ht2 hvm2 hu2 hB2 hz2 hk2 hS2 => ?_)
  subst hu2
  replace hB2 : va_P D vwCl (mws ad cI cZ cC 0 M) U9.heap := hB2
  rw [ht2] at hB2
  have hP2 := cP_keep hP hD hk2
  have ho2 := ho.kept (hk2 oa ho.lt hnm)
  refine lv_icmp_eq (tgt := 2054) hx hb dL_law_656 (by decide) (fun c9 => ?_) (fun c9 => absurd (by rw [e5]) c9)
  refine W.widen (k := cells + 241) (n := slots + 12126) (by omega) (by omega) ?_
  exact kk _ _ _ _ _ _ ⟨⟨own9, kd, F, L9, hC, hW, ⟨tn, lo, aw, co, ct, ow, G⟩, hD⟩, hM, hLB, by omega, hP2, hB2, ho2, hS2⟩ ls hl
set_option maxHeartbeats 4000000 in
set_option maxRecDepth 100000 in
/-- from pc 33: one more call -/
theorem law_body {p : Program} {l : Launch} {e : Env} {s : State} {m : MethodId} {args : Array Value} {below : List Frame} {meth : Method} {c : Code} {b L : Nat} {xs : Nat → Int32} {Q : State → Prop} {D : va_G} {cI cO cb cZ cC cJ : ClassId} {eA mi : Nat} {st ad : Nat → Nat} {dO dT : Nat} {vF : Value} {h oa : Nat} (hst : l.stackTraces = false) (C0 : LC p s m args c b L xs D cI cO cb cZ cC cJ eA mi st ad dO dT vF oa) (hL : L ≤ 3072) {c0 s0 : Nat} (h1 : c0 + 241 * 513 ≤ 601024) (h2 : s0 + 12126 * 513 ≤ 7293033) {n : Nat} (hle : 6 * n + 6 ≤ L)
    (ih : ∀ n2, n2 = n + 1 → 6 * n2 ≤ L → ∀ {M : MS} {ws : va_W} {th : Nat} {x : Int64} {H : Heap} {locs : List Loc}, LI D cI cO eA st cZ cC cJ s ad h oa n2 M ws th x H locs → ∀ ls, lv_has ls 7 [(0, .ref b), (1, .ref h), (2, .ref (ad 0)), (3, .ref oa), (4, .int (nI (6 * n2)))] → W p l e room_1 s m args below meth c H locs (c0 + 241 * n2) (s0 + 12126 * n2) Q (F0 m 23 ls []))
    {M : MS} {ws : va_W} {th : Nat} {x : Int64} {H : Heap} {locs : List Loc} (hI : LI D cI cO eA st cZ cC cJ s ad h oa n M ws th x H locs) : ∀ ls, lv_has ls 7 [(0, .ref b), (1, .ref h), (2, .ref (ad 0)), (3, .ref oa), (4, .int (nI (6 * n)))] → W p l e room_1 s m args below meth c H locs (c0 + 241 * n) (s0 + 12126 * n) Q (F0 m 33 ls []) := by
    have C1 := C0
    obtain ⟨hx, hb, hml, hown, hts, hX, hbl, -⟩ := C1
    have hbA : ¬ (fun q : Nat => s.heap.size ≤ q) b := Nat.not_le.mpr hbl
    have hn9 : n < 512 := by omega
    intro ls hl
    have hn : 6 * n + 6 ≤ L := hle
    have hq1 : c0 + 241 * n + 241 ≤ 601024 := by omega
    have hq2 : s0 + 12126 * n + 12126 ≤ 7293033 := by omega
    have hstep : ∀ M ws th x H locs, LI D cI cO eA st cZ cC cJ s ad h oa (n + 1) M ws th x H locs → ∀ ls, lv_has ls 7 [(0, .ref b), (1, .ref h), (2, .ref (ad 0)), (3, .ref oa), (4, .int (nI (6 * n)))] → W p l e room_1 s m args below meth c H locs (c0 + 241 * n + 241) (s0 + 12126 * n + 12126) Q (F0 m 2054 ls []) := fun M ws th x H locs hI ls hl => by
      refine lv_iinc (v := nI (6 * (n + 1))) (lv' := [(4, .int (nI (6 * (n + 1)))), (0, .ref b), (1, .ref h), (2, .ref (ad 0)), (3, .ref oa)]) hx hb dL_law_2054 hl (k := 4) rfl (by rw [show 6 * (n + 1) = 6 * n + 6 by omega]; exact (nI_add (6 * n) 6)) (by decide) rfl (fun ls hl => ?_)
      refine lv_goto (tgt := 23) hx hb dL_law_2057 (by decide) ?_
      refine W.widen (k := c0 + 241 * (n + 1)) (n := s0 + 12126 * (n + 1)) (by omega) (by omega) ?_
      exact ih (n + 1) (by omega) (by omega) hI ls (lv_sub hl [1, 2, 3, 4, 0] rfl)
    refine lv_aload_n hx hb dL_law_33 rfl (lv_at hl 0 rfl) ?_
    refine lv_iload hx hb dL_law_34 (lv_at hl 4 rfl) ?_
    refine va_sld hx hb hX hbl hbA hI.2.2.2.2.2.2.2 (vp_in_nI (by omega) (by omega)) dL_law_36 ?_
    rw [nI_clamp (show 6 * n < 2 ^ 31 by omega)]
    refine lv_bipush (v := nI 31) hx hb dL_law_37 (by decide) ?_
    refine lv_iand hx hb dL_law_39 ?_
    obtain ⟨j, hj, ej⟩ := and31 (xs (6 * n))
    rw [ej]
    have hjs : j = 0 ∨ j = 1 ∨ j = 2 ∨ j = 3 ∨ j = 4 ∨ j = 5 ∨ j = 6 ∨ j = 7 ∨ j = 8 ∨ j = 9 ∨ j = 10 ∨ j = 11 ∨ j = 12 ∨ j = 13 ∨ j = 14 ∨ j = 15 ∨ j = 16 ∨ j = 17 ∨ j = 18 ∨ j = 19 ∨ j = 20 ∨ j = 21 ∨ j = 22 ∨ j = 23 ∨ j = 24 ∨ j = 25 ∨ j = 26 ∨ j = 27 ∨ j = 28 ∨ j = 29 ∨ j = 30 ∨ j = 31 := by omega
    rcases hjs with rfl | rfl | rfl | rfl | rfl | rfl | rfl | rfl | rfl | rfl | rfl | rfl | rfl | rfl | rfl | rfl | rfl | rfl | rfl | rfl | rfl | rfl | rfl | rfl | rfl | rfl | rfl | rfl | rfl | rfl | rfl | rfl
    · refine lv_tableIn (off := 128) (tgt := 168) hx hb dL_law_40 (by decide) (by decide) (by decide) (by decide) ?_
      exact lc_addTender hst C0 hn hL hI hq1 hq2 hstep ls hl
    · refine lv_tableIn (off := 220) (tgt := 260) hx hb dL_law_40 (by decide) (by decide) (by decide) (by decide) ?_
      exact lc_addLot hst C0 hn hL hI hq1 hq2 hstep ls hl
    · refine lv_tableIn (off := 288) (tgt := 328) hx hb dL_law_40 (by decide) (by decide) (by decide) (by decide) ?_
      exact lc_paper hst C0 hn hL hI hq1 hq2 hstep ls hl
    · refine lv_tableIn (off := 368) (tgt := 408) hx hb dL_law_40 (by decide) (by decide) (by decide) (by decide) ?_
      exact lc_bid hst C0 hn hL hI hq1 hq2 hstep ls hl
    · refine lv_tableIn (off := 472) (tgt := 512) hx hb dL_law_40 (by decide) (by decide) (by decide) (by decide) ?_
      exact lc_withdraw hst C0 hn hL hI hq1 hq2 hstep ls hl
    · refine lv_tableIn (off := 552) (tgt := 592) hx hb dL_law_40 (by decide) (by decide) (by decide) (by decide) ?_
      exact lc_pass hst C0 hn hL hI hq1 hq2 hstep ls hl
    · refine lv_tableIn (off := 608) (tgt := 648) hx hb dL_law_40 (by decide) (by decide) (by decide) (by decide) ?_
      exact lc_today C0 hI hq1 hq2 hstep ls hl
    · refine lv_tableIn (off := 621) (tgt := 661) hx hb dL_law_40 (by decide) (by decide) (by decide) (by decide) ?_
      exact lc_isIn hst C0 hn hL hI hq1 hq2 hstep ls hl
    · refine lv_tableIn (off := 708) (tgt := 748) hx hb dL_law_40 (by decide) (by decide) (by decide) (by decide) ?_
      exact lc_score hst C0 hn hL hI hq1 hq2 hstep ls hl
    · refine lv_tableIn (off := 788) (tgt := 828) hx hb dL_law_40 (by decide) (by decide) (by decide) (by decide) ?_
      exact lc_ranked hst C0 hn hL hI hq1 hq2 hstep ls hl
    · refine lv_tableIn (off := 868) (tgt := 908) hx hb dL_law_40 (by decide) (by decide) (by decide) (by decide) ?_
      exact lc_award hst C0 hn hL hI hq1 hq2 hstep ls hl
    · refine lv_tableIn (off := 936) (tgt := 976) hx hb dL_law_40 (by decide) (by decide) (by decide) (by decide) ?_
      exact lc_awardOf hst C0 hn hL hI hq1 hq2 hstep ls hl
    · refine lv_tableIn (off := 1004) (tgt := 1044) hx hb dL_law_40 (by decide) (by decide) (by decide) (by decide) ?_
      exact lc_winner hst C0 hn hL hI hq1 hq2 hstep ls hl
    · refine lv_tableIn (off := 1060) (tgt := 1100) hx hb dL_law_40 (by decide) (by decide) (by decide) (by decide) ?_
      exact lc_isVoid hst C0 hn hL hI hq1 hq2 hstep ls hl
    · refine lv_tableIn (off := 1123) (tgt := 1163) hx hb dL_law_40 (by decide) (by decide) (by decide) (by decide) ?_
      exact lc_isFinal hst C0 hn hL hI hq1 hq2 hstep ls hl
    · refine lv_tableIn (off := 1186) (tgt := 1226) hx hb dL_law_40 (by decide) (by decide) (by decide) (by decide) ?_
      exact lc_winnerAnew hst C0 hn hL hI hq1 hq2 hstep ls hl
    · refine lv_tableIn (off := 1254) (tgt := 1294) hx hb dL_law_40 (by decide) (by decide) (by decide) (by decide) ?_
      exact lc_line hst C0 hn hL hI hq1 hq2 hstep ls hl
    · refine lv_tableIn (off := 1310) (tgt := 1350) hx hb dL_law_40 (by decide) (by decide) (by decide) (by decide) ?_
      exact lc_lineChar hst C0 hn hL hI hq1 hq2 hstep ls hl
    · refine lv_tableIn (off := 1378) (tgt := 1418) hx hb dL_law_40 (by decide) (by decide) (by decide) (by decide) ?_
      exact lc_complain hst C0 hn hL hI hq1 hq2 hstep ls hl
    · refine lv_tableIn (off := 1458) (tgt := 1498) hx hb dL_law_40 (by decide) (by decide) (by decide) (by decide) ?_
      by_cases hv9 : xs (6 * n + 2) = 0
      · exact lc_rule_f hst C0 hn hL hI hv9 hq1 hq2 hstep ls hl
      · exact lc_rule_t hst C0 hn hL hI hv9 hq1 hq2 hstep ls hl
    · refine lv_tableIn (off := 1554) (tgt := 1594) hx hb dL_law_40 (by decide) (by decide) (by decide) (by decide) ?_
      exact lc_appeal hst C0 hn hL hI hq1 hq2 hstep ls hl
    · refine lv_tableIn (off := 1610) (tgt := 1650) hx hb dL_law_40 (by decide) (by decide) (by decide) (by decide) ?_
      exact lc_stateOf hst C0 hn hL hI hq1 hq2 hstep ls hl
    · refine lv_tableIn (off := 1666) (tgt := 1706) hx hb dL_law_40 (by decide) (by decide) (by decide) (by decide) ?_
      exact lc_sign hst C0 hn hL hI hq1 hq2 hstep ls hl
    · refine lv_tableIn (off := 1722) (tgt := 1762) hx hb dL_law_40 (by decide) (by decide) (by decide) (by decide) ?_
      exact lc_call hst C0 hn hL hI hq1 hq2 hstep ls hl
    · refine lv_tableIn (off := 1790) (tgt := 1830) hx hb dL_law_40 (by decide) (by decide) (by decide) (by decide) ?_
      exact lc_running hst C0 hn hL hI hq1 hq2 hstep ls hl
    · refine lv_tableIn (off := 1846) (tgt := 1886) hx hb dL_law_40 (by decide) (by decide) (by decide) (by decide) ?_
      exact lc_owes hst C0 hn hL hI hq1 hq2 hstep ls hl
    · refine lv_tableIn (off := 1902) (tgt := 1942) hx hb dL_law_40 (by decide) (by decide) (by decide) (by decide) ?_
      exact lc_held hst C0 hn hL hI hq1 hq2 hstep ls hl
    · refine lv_tableIn (off := 1958) (tgt := 1998) hx hb dL_law_40 (by decide) (by decide) (by decide) (by decide) ?_
      exact lc_lost hst C0 hn hL hI hq1 hq2 hstep ls hl
    · refine lv_tableOut (tgt := 2054) hx hb dL_law_40 (Or.inr (by decide)) (by decide) ?_
      refine W.widen (k := c0 + 241 * n + 241) (n := s0 + 12126 * n + 12126) (by omega) (by omega) ?_
      exact hstep _ _ _ _ _ _ hI.more ls hl
    · refine lv_tableOut (tgt := 2054) hx hb dL_law_40 (Or.inr (by decide)) (by decide) ?_
      refine W.widen (k := c0 + 241 * n + 241) (n := s0 + 12126 * n + 12126) (by omega) (by omega) ?_
      exact hstep _ _ _ _ _ _ hI.more ls hl
    · refine lv_tableOut (tgt := 2054) hx hb dL_law_40 (Or.inr (by decide)) (by decide) ?_
      refine W.widen (k := c0 + 241 * n + 241) (n := s0 + 12126 * n + 12126) (by omega) (by omega) ?_
      exact hstep _ _ _ _ _ _ hI.more ls hl
    · refine lv_tableOut (tgt := 2054) hx hb dL_law_40 (Or.inr (by decide)) (by decide) ?_
      refine W.widen (k := c0 + 241 * n + 241) (n := s0 + 12126 * n + 12126) (by omega) (by omega) ?_
      exact hstep _ _ _ _ _ _ hI.more ls hl
set_option maxHeartbeats 4000000 in
theorem law_loop {p : Program} {l : Launch} {e : Env} {s : State} {m : MethodId} {args : Array Value} {below : List Frame} {meth : Method} {c : Code} {b L : Nat} {xs : Nat → Int32} {Q : State → Prop} {D : va_G} {cI cO cb cZ cC cJ : ClassId} {eA mi : Nat} {st ad : Nat → Nat} {dO dT : Nat} {vF : Value} {h oa : Nat} (hst : l.stackTraces = false) (C0 : LC p s m args c b L xs D cI cO cb cZ cC cJ eA mi st ad dO dT vF oa) (hL : L ≤ 3072) {c0 s0 : Nat} (h1 : c0 + 241 * 513 ≤ 601024) (h2 : s0 + 12126 * 513 ≤ 7293033)
    (kend : ∀ (H : Heap) (locs : List Loc) (cells slots : Nat), va_S (fun q => s.heap.size ≤ q) s.heap H locs → cells ≤ 601024 → slots ≤ 7293033 → ∀ ls, W p l e room_1 s m args below meth c H locs cells slots Q (F0 m 2060 ls [])) : ∀ (k n : Nat), 513 ≤ n + k → 6 * n ≤ L → ∀ {M : MS} {ws : va_W} {th : Nat} {x : Int64} {H : Heap} {locs : List Loc}, LI D cI cO eA st cZ cC cJ s ad h oa n M ws th x H locs → ∀ ls, lv_has ls 7 [(0, .ref b), (1, .ref h), (2, .ref (ad 0)), (3, .ref oa), (4, .int (nI (6 * n)))] → W p l e room_1 s m args below meth c H locs (c0 + 241 * n) (s0 + 12126 * n) Q (F0 m 23 ls [])
  | 0, n, hk, hn, _, _, _, _, _, _, _, _, _ => by omega
  | k + 1, n, hk, hn, M, ws, th, x, H, locs, hI, ls, hl => by
    have C1 := C0
    obtain ⟨hx, hb, hml, hown, hts, hX, hbl, -⟩ := C1
    have hbA : ¬ (fun q : Nat => s.heap.size ≤ q) b := Nat.not_le.mpr hbl
    have hS := hI.2.2.2.2.2.2.2
    refine lv_iload hx hb dL_law_23 (lv_at hl 4 rfl) ?_
    refine lv_aload_n hx hb dL_law_25 rfl (lv_at hl 0 rfl) ?_
    refine va_slen hx hb hX hbl hbA hS dL_law_26 ?_
    refine lv_bipush (v := nI 6) hx hb dL_law_27 (by decide) ?_
    by_cases h6 : 6 ≤ L
    · refine n_isub (a := L) (b := 6) (z := L - 6) hx hb dL_law_29 h6 rfl ?_
      refine n_icmp_gt (tgt := 2060) hx hb dL_law_30 (by decide) (by omega) (by omega) (fun c9 => ?_) (fun c9 => ?_)
      · exact kend H locs _ _ hS (by omega) (by omega) ls
      · exact law_body hst C0 hL h1 h2 (by omega) (fun n2 e hn2 => by subst e; exact law_loop hst C0 hL h1 h2 kend k (n + 1) (by omega) hn2) hI ls hl
    · have hn0 : n = 0 := by omega
      subst hn0
      refine lv_isub hx hb dL_law_29 ?_
      refine lv_icmp_gt (tgt := 2060) hx hb dL_law_30 (by decide) (fun c9 => ?_) (fun c9 => ?_)
      · exact kend H locs _ _ hS (by omega) (by omega) ls
      · exfalso
        have hl6 : L = 0 ∨ L = 1 ∨ L = 2 ∨ L = 3 ∨ L = 4 ∨ L = 5 := by omega
        rcases hl6 with rfl | rfl | rfl | rfl | rfl | rfl <;> exact c9 (by decide)
