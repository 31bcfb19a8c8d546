/-! an award's line, letter by letter -/
set_option maxHeartbeats 8000000 in
set_option maxRecDepth 100000 in
theorem cb_isLine (l : Launch) (hst : l.stackTraces = false) (D : va_G) (ad : Nat → Nat) (cI cO cb : ClassId) (eA mi : Nat) (st : Nat → Nat) (dO dT : Nat) (vF : Value) {A B : Nat → Prop} (hAB : ∀ q, A q → ¬ B q) (hsI : sInj st) (hdB : aDis B ad) (ws : va_W) {h n15 : Nat} {M T : MS} (hc : cSt cI cO eA st A h M ws) (hM : MI M) (hLB : m_LB M) (h15 : M 15 0 ≤ n15) (hR : LR M T) (hT : LT T) (aw : Nat) (haw : aw < T 11 4) : Met l yL_isLine wsL_isLine ({ frames := 9, cells := 55, slots := 442, locals := 178 }) (va_Pc [.ref h, .int (nI aw), .ref (ad 1), .ref (ad 7), .ref (ad 8), .ref (ad 11)] (bB D ad cI cO cb eA mi st dO dT vF A B ws T)) (va_Qi (fun (ri : Int32) (u : va_W × MS) => ri = nI 1 ∧ LZ cI cO eA st A h n15 T u) (fun u U9 => va_P D vwCl u.1 U9.heap ∧ va_P D vwCl (aws ad cI T) U9.heap) (fun q => A q ∨ B q)) 55 442 (fun q => A q ∨ B q) := by
  refine Met.ofW (cc := cL_isLine) (maxL := 9) (ret := (some .boolean)) (by decide) rfl ?_
  intro p e s m args below meth c s₁ B9 hml hv
  obtain ⟨rfl, hPw, hK, hG, hGT, hA, hN, hPa, hKa⟩ := hv
  have hx := B9.exec
  have hb := B9.bytes
  have hr := B9.returns
  have hts := atoms_spec (ws := wsL_isLine) B9.pre
  have hown : s.vm.findClass RL = some m.cls := findClass_of_methodNamed B9.named
  have hlocks := B9.notSynchronized
  have hS : va_S (fun q => A q ∨ B q) s.heap s.heap [] := va_S.rf
  have hl := lv_entry ([.ref h, .int (nI aw), .ref (ad 1), .ref (ad 7), .ref (ad 8), .ref (ad 11)]) (n := 9) (Nat.le_of_ble_eq_true rfl)
  rw [lg_entry_eq]
  generalize (lg_sl ([.ref h, .int (nI aw), .ref (ad 1), .ref (ad 7), .ref (ad 8), .ref (ad 11)]) ++ List.replicate (9 - (lg_sl ([.ref h, .int (nI aw), .ref (ad 1), .ref (ad 7), .ref (ad 8), .ref (ad 11)])).length) Slot.unset).toArray = ls at hl ⊢
  have hl : lv_has ls 9 [(0, .ref h), (1, .int (nI aw)), (2, .ref (ad 1)), (3, .ref (ad 7)), (4, .ref (ad 8)), (5, .ref (ad 11))] := hl
  obtain ⟨g0, g1, g2, g3, g4, g5, g6⟩ := hR.1
  have hT2 := hT.2
  refine w_join (nL := 9) (pc1 := 13) (sk1 := []) (fun n9 => [(6, .int (nI n9)), (0, .ref h), (1, .int (nI aw)), (2, .ref (ad 1)), (3, .ref (ad 7)), (4, .ref (ad 8)), (5, .ref (ad 11))]) (fun n9 => n9 = if 9 < aw then 1 else 0) (fun n9 hn9 ls hl => ?_) (fun hk_1 => ?_)
  · have hn1 : n9 ≤ 1 := by rw [hn9]; split <;> omega
    refine lv_aload_n hx hb dL_isLine_13 rfl (lv_at hl 4 rfl) ?_
    refine lv_iload_n hx hb dL_isLine_14 rfl (lv_at hl 2 rfl) ?_
    refine a_iald (f := 7) (n := 32) hx hb hKa hPa rfl (by have f1 := haw; omega) (by decide) dL_isLine_15 ?_
    refine lv_istore (lv' := [(7, .int (nI (T 7 aw))), (6, .int (nI n9)), (0, .ref h), (1, .int (nI aw)), (2, .ref (ad 1)), (3, .ref (ad 7)), (4, .ref (ad 8)), (5, .ref (ad 11))]) hx hb dL_isLine_16 hl (by decide) rfl (fun ls hl => ?_)
    refine w_join (nL := 9) (pc1 := 65) (sk1 := []) (fun l9 => [(8, .int (nI l9)), (7, .int (nI (T 7 aw))), (6, .int (nI n9)), (0, .ref h), (1, .int (nI aw)), (2, .ref (ad 1)), (3, .ref (ad 7)), (4, .ref (ad 8)), (5, .ref (ad 11))]) (fun l9 => l9 = t_la T aw) (fun l9 hl9 ls hl => ?_) (fun hk_2 => ?_)
    · have hl86 : l9 ≤ 86 := by rw [hl9]; unfold t_la; split <;> (try split) <;> (try split) <;> omega
      have hifl : (if 0 < l9 then 1 else 0) ≤ 1 := by split <;> omega
      refine lv_aload_n hx hb dL_isLine_65 rfl (lv_at hl 3 rfl) ?_
      refine lv_iload_n hx hb dL_isLine_66 rfl (lv_at hl 4 rfl) ?_
      refine va_calli (vx_runSW (As := [.ref h, .int (nI aw)]) (rest := []) ⟨hx, hb, hml, hown, hts⟩ (cw_line l hst D cI cO cb eA mi st dO dT vF ws hc hM hsI (nI aw)) (vx_cwSW 2 hts gL_isLine_L_line rfl rfl rfl kd_L_line ⟨Nat.le_of_ble_eq_true rfl, Nat.le_of_ble_eq_true rfl⟩) ⟨kB_blind, kB_pre hK hG hGT hN (fun q h9 => Or.inl h9) hS (fun q h9 => hA q (Nat.le_trans hS.1 h9)) hPw _⟩ rfl rfl hl.1 rfl (lv_room (Nat.le_of_ble_eq_true rfl)) dL_isLine_67 ⟨by show 0 + 3 ≤ 55; omega, by show 0 + 26 ≤ 442; omega⟩) hS (fun _ _ h9 => Or.inl h9) (fun _ h9 => Or.inl h9) (fun r_3 ws_4 U8 H_8 locs_9 ht hvm hu_7 hB hz1 hk1 hS1 => ?_)
      obtain ⟨hr_5, hc_6⟩ := hu_7
      replace hB : va_P D vwCl ws_4 U8.heap := hB
      rw [ht] at hB
      replace hPa := aP_keep hPa hdB hAB hk1
      clear hPw hS
      have hPw := hB
      have hS := hS1
      clear hB hS1 hz1 hk1 hvm ht U8
      have hv9 : er (k_aw M (nI aw)) (r_line M (nI aw)) = nI (10 + n9 + (if 0 < l9 then 1 else 0)) := by exact hR.line hM (by omega) (by omega) hn9 hl9
      rw [hv9] at hr_5
      clear hv9
      subst hr_5
      have hn_10 : ∀ f, f ∉ [33, 34] → (g_line M (nI aw)) f = M f := g_line_nf M (nI aw)
      have hM_10 : MI (g_line M (nI aw)) := MI_line hM (nI aw)
      have hLB_10 : m_LB (g_line M (nI aw)) := (LB_line (nI aw)).1 hLB
      have h15_10 : (g_line M (nI aw)) 15 0 ≤ n15 := by rw [hn_10 15 (by decide)]; exact h15
      have hR_10 : LR (g_line M (nI aw)) T := hR.ln hn_10
      have g4_10 := hR_10.1.2.2.2.2
      generalize g_line M (nI aw) = M_10 at hn_10 hM_10 hLB_10 h15_10 hR_10 g4_10 hc_6
      have g3_10 : M_10 3 0 ≤ 2 := hR_10.1.2.2.1
      clear hn_10
      refine lv_bipush (v := nI 10) hx hb dL_isLine_70 (by decide) ?_
      refine lv_iload hx hb dL_isLine_72 (lv_at hl 2 rfl) ?_
      refine n_iadd hx hb dL_isLine_74 (z := 10 + n9) rfl ?_
      refine lv_iload hx hb dL_isLine_75 (lv_at hl 0 rfl) ?_
      refine n_if_le (tgt := 84) hx hb dL_isLine_77 (by decide) (by have f1 := hl86; omega) (fun c_11 => ?_) (fun c_11 => ?_)
      · have hlz : ¬ 0 < l9 := by omega
        refine lv_iconst (v := nI 0) hx hb dL_isLine_84 (by decide) ?_
        refine n_iadd hx hb dL_isLine_85 (z := (10 + n9) + 0) rfl ?_
        refine n_icmp_ne (tgt := 169) hx hb dL_isLine_86 (by decide) (by have f1 := hn1; have f2 := hifl; omega) (by have f1 := hn1; omega) (fun c_12 => absurd (by first | (rw [if_pos hlp]; done) | (rw [if_neg hlz]; done) | (rw [if_neg hlz]; rfl)) c_12) (fun c_12 => ?_)
        refine lv_aload_n hx hb dL_isLine_89 rfl (lv_at hl 3 rfl) ?_
        refine lv_iload_n hx hb dL_isLine_90 rfl (lv_at hl 4 rfl) ?_
        refine lv_iconst (v := nI 0) hx hb dL_isLine_91 (by decide) ?_
        refine va_calli (vx_runSW (As := [.ref h, .int (nI aw), .int (nI 0)]) (rest := []) ⟨hx, hb, hml, hown, hts⟩ (cw_lineChar l hst D cI cO cb eA mi st dO dT vF ws_4 hc_6 hM_10 hsI (nI aw) (nI 0)) (vx_cwSW 3 hts gL_isLine_L_lineChar rfl rfl rfl kd_L_lineChar ⟨Nat.le_of_ble_eq_true rfl, Nat.le_of_ble_eq_true rfl⟩) ⟨kB_blind, kB_pre hK hG hGT hN (fun q h9 => Or.inl h9) hS (fun q h9 => hA q (Nat.le_trans hS.1 h9)) hPw _⟩ rfl rfl hl.1 rfl (lv_room (Nat.le_of_ble_eq_true rfl)) dL_isLine_92 ⟨by show 3 + 4 ≤ 55; omega, by show 26 + 32 ≤ 442; omega⟩) hS (fun _ _ h9 => Or.inl h9) (fun _ h9 => Or.inl h9) (fun r_13 ws_14 U8 H_18 locs_19 ht hvm hu_17 hB hz1 hk1 hS1 => ?_)
        obtain ⟨hr_15, hc_16⟩ := hu_17
        replace hB : va_P D vwCl ws_14 U8.heap := hB
        rw [ht] at hB
        replace hPa := aP_keep hPa hdB hAB hk1
        clear hPw hS
        have hPw := hB
        have hS := hS1
        clear hB hS1 hz1 hk1 hvm ht U8
        have hv9 : er (k_lineChar M_10 (nI aw) (nI 0)) (r_lineChar M_10 (nI aw) (nI 0)) = nI 35 := by exact hR_10.lch0 hM_10 (by omega) (by omega) hn9 hl9
        rw [hv9] at hr_15
        clear hv9
        subst hr_15
        have hn_20 : ∀ f, f ∉ [33, 34] → (g_line M_10 (nI aw)) f = M_10 f := g_line_nf M_10 (nI aw)
        have hM_20 : MI (g_line M_10 (nI aw)) := MI_line hM_10 (nI aw)
        have hLB_20 : m_LB (g_line M_10 (nI aw)) := (LB_line (nI aw)).1 hLB_10
        have h15_20 : (g_line M_10 (nI aw)) 15 0 ≤ n15 := by rw [hn_20 15 (by decide)]; exact h15_10
        have hR_20 : LR (g_line M_10 (nI aw)) T := hR_10.ln hn_20
        have g4_20 := hR_20.1.2.2.2.2
        generalize g_line M_10 (nI aw) = M_20 at hn_20 hM_20 hLB_20 h15_20 hR_20 g4_20 hc_16
        have g3_20 : M_20 3 0 ≤ 2 := hR_20.1.2.2.1
        clear hn_20
        clear hc_6 hM_10 hLB_10 h15_10 hR_10 g4_10 g3_10 ws_4 M_10
        refine lv_bipush (v := nI 35) hx hb dL_isLine_95 (by decide) ?_
        refine n_icmp_ne (tgt := 169) hx hb dL_isLine_97 (by decide) (by decide) (by decide) (fun c9 => absurd c9 (by decide)) (fun _ => ?_)
        refine lv_iload hx hb dL_isLine_100 (lv_at hl 2 rfl) ?_
        refine lv_iconst (v := nI 1) hx hb dL_isLine_102 (by decide) ?_
        refine n_icmp_ne (tgt := 122) hx hb dL_isLine_103 (by decide) (by have f1 := hn1; omega) (by decide) (fun c_21 => ?_) (fun c_21 => ?_)
        · refine lv_aload_n hx hb dL_isLine_122 rfl (lv_at hl 3 rfl) ?_
          refine lv_iload_n hx hb dL_isLine_123 rfl (lv_at hl 4 rfl) ?_
          refine lv_iconst (v := nI 1) hx hb dL_isLine_124 (by decide) ?_
          refine lv_iload hx hb dL_isLine_125 (lv_at hl 2 rfl) ?_
          refine n_iadd hx hb dL_isLine_127 (z := 1 + n9) rfl ?_
          refine va_calli (vx_runSW (As := [.ref h, .int (nI aw), .int (nI (1 + n9))]) (rest := []) ⟨hx, hb, hml, hown, hts⟩ (cw_lineChar l hst D cI cO cb eA mi st dO dT vF ws_14 hc_16 hM_20 hsI (nI aw) (nI (1 + n9))) (vx_cwSW 3 hts gL_isLine_L_lineChar rfl rfl rfl kd_L_lineChar ⟨Nat.le_of_ble_eq_true rfl, Nat.le_of_ble_eq_true rfl⟩) ⟨kB_blind, kB_pre hK hG hGT hN (fun q h9 => Or.inl h9) hS (fun q h9 => hA q (Nat.le_trans hS.1 h9)) hPw _⟩ rfl rfl hl.1 rfl (lv_room (Nat.le_of_ble_eq_true rfl)) dL_isLine_128 ⟨by show 7 + 4 ≤ 55; omega, by show 58 + 32 ≤ 442; omega⟩) hS (fun _ _ h9 => Or.inl h9) (fun _ h9 => Or.inl h9) (fun r_22 ws_23 U8 H_27 locs_28 ht hvm hu_26 hB hz1 hk1 hS1 => ?_)
          obtain ⟨hr_24, hc_25⟩ := hu_26
          replace hB : va_P D vwCl ws_23 U8.heap := hB
          rw [ht] at hB
          replace hPa := aP_keep hPa hdB hAB hk1
          clear hPw hS
          have hPw := hB
          have hS := hS1
          clear hB hS1 hz1 hk1 hvm ht U8
          have hv9 : er (k_lineChar M_20 (nI aw) (nI (1 + n9))) (r_lineChar M_20 (nI aw) (nI (1 + n9))) = nI (48 + aw % 10) := by exact hR_20.lchK hM_20 (by omega) (by omega) hn9 hl9 (k := 0) (by decide) (by omega) rfl
          rw [hv9] at hr_24
          clear hv9
          subst hr_24
          have hn_29 : ∀ f, f ∉ [33, 34] → (g_line M_20 (nI aw)) f = M_20 f := g_line_nf M_20 (nI aw)
          have hM_29 : MI (g_line M_20 (nI aw)) := MI_line hM_20 (nI aw)
          have hLB_29 : m_LB (g_line M_20 (nI aw)) := (LB_line (nI aw)).1 hLB_20
          have h15_29 : (g_line M_20 (nI aw)) 15 0 ≤ n15 := by rw [hn_29 15 (by decide)]; exact h15_20
          have hR_29 : LR (g_line M_20 (nI aw)) T := hR_20.ln hn_29
          have g4_29 := hR_29.1.2.2.2.2
          generalize g_line M_20 (nI aw) = M_29 at hn_29 hM_29 hLB_29 h15_29 hR_29 g4_29 hc_25
          have g3_29 : M_29 3 0 ≤ 2 := hR_29.1.2.2.1
          clear hn_29
          clear hc_16 hM_20 hLB_20 h15_20 hR_20 g4_20 g3_20 ws_14 M_20
          refine lv_bipush (v := nI 48) hx hb dL_isLine_131 (by decide) ?_
          refine lv_iload_n hx hb dL_isLine_133 rfl (lv_at hl 4 rfl) ?_
          refine lv_bipush (v := nI 10) hx hb dL_isLine_134 (by decide) ?_
          refine n_irem hx hb dL_isLine_136 (z := aw % 10) (by have f1 := haw; omega) (by decide) (by decide) rfl ?_
          refine n_iadd hx hb dL_isLine_137 (z := 48 + (aw % 10)) rfl ?_
          refine n_icmp_ne (tgt := 169) hx hb dL_isLine_138 (by decide) (by have f1 := haw; have f2 := hT2.2.2.1; omega) (by have f1 := haw; omega) (fun c_30 => absurd (by omega) c_30) (fun c_30 => ?_)
          refine lv_aload_n hx hb dL_isLine_141 rfl (lv_at hl 3 rfl) ?_
          refine lv_iload_n hx hb dL_isLine_142 rfl (lv_at hl 4 rfl) ?_
          refine lv_iconst (v := nI 2) hx hb dL_isLine_143 (by decide) ?_
          refine lv_iload hx hb dL_isLine_144 (lv_at hl 2 rfl) ?_
          refine n_iadd hx hb dL_isLine_146 (z := 2 + n9) rfl ?_
          refine va_calli (vx_runSW (As := [.ref h, .int (nI aw), .int (nI (2 + n9))]) (rest := []) ⟨hx, hb, hml, hown, hts⟩ (cw_lineChar l hst D cI cO cb eA mi st dO dT vF ws_23 hc_25 hM_29 hsI (nI aw) (nI (2 + n9))) (vx_cwSW 3 hts gL_isLine_L_lineChar rfl rfl rfl kd_L_lineChar ⟨Nat.le_of_ble_eq_true rfl, Nat.le_of_ble_eq_true rfl⟩) ⟨kB_blind, kB_pre hK hG hGT hN (fun q h9 => Or.inl h9) hS (fun q h9 => hA q (Nat.le_trans hS.1 h9)) hPw _⟩ rfl rfl hl.1 rfl (lv_room (Nat.le_of_ble_eq_true rfl)) dL_isLine_147 ⟨by show 11 + 4 ≤ 55; omega, by show 90 + 32 ≤ 442; omega⟩) hS (fun _ _ h9 => Or.inl h9) (fun _ h9 => Or.inl h9) (fun r_31 ws_32 U8 H_36 locs_37 ht hvm hu_35 hB hz1 hk1 hS1 => ?_)
          obtain ⟨hr_33, hc_34⟩ := hu_35
          replace hB : va_P D vwCl ws_32 U8.heap := hB
          rw [ht] at hB
          replace hPa := aP_keep hPa hdB hAB hk1
          clear hPw hS
          have hPw := hB
          have hS := hS1
          clear hB hS1 hz1 hk1 hvm ht U8
          have hv9 : er (k_lineChar M_29 (nI aw) (nI (2 + n9))) (r_lineChar M_29 (nI aw) (nI (2 + n9))) = nI 32 := by exact hR_29.lchK hM_29 (by omega) (by omega) hn9 hl9 (k := 1) (by decide) (by omega) rfl
          rw [hv9] at hr_33
          clear hv9
          subst hr_33
          have hn_38 : ∀ f, f ∉ [33, 34] → (g_line M_29 (nI aw)) f = M_29 f := g_line_nf M_29 (nI aw)
          have hM_38 : MI (g_line M_29 (nI aw)) := MI_line hM_29 (nI aw)
          have hLB_38 : m_LB (g_line M_29 (nI aw)) := (LB_line (nI aw)).1 hLB_29
          have h15_38 : (g_line M_29 (nI aw)) 15 0 ≤ n15 := by rw [hn_38 15 (by decide)]; exact h15_29
          have hR_38 : LR (g_line M_29 (nI aw)) T := hR_29.ln hn_38
          have g4_38 := hR_38.1.2.2.2.2
          generalize g_line M_29 (nI aw) = M_38 at hn_38 hM_38 hLB_38 h15_38 hR_38 g4_38 hc_34
          have g3_38 : M_38 3 0 ≤ 2 := hR_38.1.2.2.1
          clear hn_38
          clear hc_25 hM_29 hLB_29 h15_29 hR_29 g4_29 g3_29 ws_23 M_29
          refine lv_bipush (v := nI 32) hx hb dL_isLine_150 (by decide) ?_
          refine n_icmp_ne (tgt := 169) hx hb dL_isLine_152 (by decide) (by decide) (by decide) (fun c9 => absurd c9 (by decide)) (fun _ => ?_)
          refine lv_aload_n hx hb dL_isLine_155 rfl (lv_at hl 3 rfl) ?_
          refine lv_iload_n hx hb dL_isLine_156 rfl (lv_at hl 4 rfl) ?_
          refine lv_iconst (v := nI 3) hx hb dL_isLine_157 (by decide) ?_
          refine lv_iload hx hb dL_isLine_158 (lv_at hl 2 rfl) ?_
          refine n_iadd hx hb dL_isLine_160 (z := 3 + n9) rfl ?_
          refine va_calli (vx_runSW (As := [.ref h, .int (nI aw), .int (nI (3 + n9))]) (rest := []) ⟨hx, hb, hml, hown, hts⟩ (cw_lineChar l hst D cI cO cb eA mi st dO dT vF ws_32 hc_34 hM_38 hsI (nI aw) (nI (3 + n9))) (vx_cwSW 3 hts gL_isLine_L_lineChar rfl rfl rfl kd_L_lineChar ⟨Nat.le_of_ble_eq_true rfl, Nat.le_of_ble_eq_true rfl⟩) ⟨kB_blind, kB_pre hK hG hGT hN (fun q h9 => Or.inl h9) hS (fun q h9 => hA q (Nat.le_trans hS.1 h9)) hPw _⟩ rfl rfl hl.1 rfl (lv_room (Nat.le_of_ble_eq_true rfl)) dL_isLine_161 ⟨by show 15 + 4 ≤ 55; omega, by show 122 + 32 ≤ 442; omega⟩) hS (fun _ _ h9 => Or.inl h9) (fun _ h9 => Or.inl h9) (fun r_39 ws_40 U8 H_44 locs_45 ht hvm hu_43 hB hz1 hk1 hS1 => ?_)
          obtain ⟨hr_41, hc_42⟩ := hu_43
          replace hB : va_P D vwCl ws_40 U8.heap := hB
          rw [ht] at hB
          replace hPa := aP_keep hPa hdB hAB hk1
          clear hPw hS
          have hPw := hB
          have hS := hS1
          clear hB hS1 hz1 hk1 hvm ht U8
          have hv9 : er (k_lineChar M_38 (nI aw) (nI (3 + n9))) (r_lineChar M_38 (nI aw) (nI (3 + n9))) = nI 84 := by exact hR_38.lchK hM_38 (by omega) (by omega) hn9 hl9 (k := 2) (by decide) (by omega) rfl
          rw [hv9] at hr_41
          clear hv9
          subst hr_41
          have hn_46 : ∀ f, f ∉ [33, 34] → (g_line M_38 (nI aw)) f = M_38 f := g_line_nf M_38 (nI aw)
          have hM_46 : MI (g_line M_38 (nI aw)) := MI_line hM_38 (nI aw)
          have hLB_46 : m_LB (g_line M_38 (nI aw)) := (LB_line (nI aw)).1 hLB_38
          have h15_46 : (g_line M_38 (nI aw)) 15 0 ≤ n15 := by rw [hn_46 15 (by decide)]; exact h15_38
          have hR_46 : LR (g_line M_38 (nI aw)) T := hR_38.ln hn_46
          have g4_46 := hR_46.1.2.2.2.2
          generalize g_line M_38 (nI aw) = M_46 at hn_46 hM_46 hLB_46 h15_46 hR_46 g4_46 hc_42
          have g3_46 : M_46 3 0 ≤ 2 := hR_46.1.2.2.1
          clear hn_46
          clear hc_34 hM_38 hLB_38 h15_38 hR_38 g4_38 g3_38 ws_32 M_38
          refine lv_bipush (v := nI 84) hx hb dL_isLine_164 (by decide) ?_
          refine n_icmp_eq (tgt := 171) hx hb dL_isLine_166 (by decide) (by decide) (by decide) (fun _ => ?_) (fun c9 => absurd c9 (by decide))
          refine lv_aload_n hx hb dL_isLine_171 rfl (lv_at hl 3 rfl) ?_
          refine lv_iload_n hx hb dL_isLine_172 rfl (lv_at hl 4 rfl) ?_
          refine lv_iconst (v := nI 4) hx hb dL_isLine_173 (by decide) ?_
          refine lv_iload hx hb dL_isLine_174 (lv_at hl 2 rfl) ?_
          refine n_iadd hx hb dL_isLine_176 (z := 4 + n9) rfl ?_
          refine va_calli (vx_runSW (As := [.ref h, .int (nI aw), .int (nI (4 + n9))]) (rest := []) ⟨hx, hb, hml, hown, hts⟩ (cw_lineChar l hst D cI cO cb eA mi st dO dT vF ws_40 hc_42 hM_46 hsI (nI aw) (nI (4 + n9))) (vx_cwSW 3 hts gL_isLine_L_lineChar rfl rfl rfl kd_L_lineChar ⟨Nat.le_of_ble_eq_true rfl, Nat.le_of_ble_eq_true rfl⟩) ⟨kB_blind, kB_pre hK hG hGT hN (fun q h9 => Or.inl h9) hS (fun q h9 => hA q (Nat.le_trans hS.1 h9)) hPw _⟩ rfl rfl hl.1 rfl (lv_room (Nat.le_of_ble_eq_true rfl)) dL_isLine_177 ⟨by show 19 + 4 ≤ 55; omega, by show 154 + 32 ≤ 442; omega⟩) hS (fun _ _ h9 => Or.inl h9) (fun _ h9 => Or.inl h9) (fun r_47 ws_48 U8 H_52 locs_53 ht hvm hu_51 hB hz1 hk1 hS1 => ?_)
          obtain ⟨hr_49, hc_50⟩ := hu_51
          replace hB : va_P D vwCl ws_48 U8.heap := hB
          rw [ht] at hB
          replace hPa := aP_keep hPa hdB hAB hk1
          clear hPw hS
          have hPw := hB
          have hS := hS1
          clear hB hS1 hz1 hk1 hvm ht U8
          have hv9 : er (k_lineChar M_46 (nI aw) (nI (4 + n9))) (r_lineChar M_46 (nI aw) (nI (4 + n9))) = nI (48 + T 7 aw % 4 / 2) := by exact hR_46.lchK hM_46 (by omega) (by omega) hn9 hl9 (k := 3) (by decide) (by omega) rfl
          rw [hv9] at hr_49
          clear hv9
          subst hr_49
          have hn_54 : ∀ f, f ∉ [33, 34] → (g_line M_46 (nI aw)) f = M_46 f := g_line_nf M_46 (nI aw)
          have hM_54 : MI (g_line M_46 (nI aw)) := MI_line hM_46 (nI aw)
          have hLB_54 : m_LB (g_line M_46 (nI aw)) := (LB_line (nI aw)).1 hLB_46
          have h15_54 : (g_line M_46 (nI aw)) 15 0 ≤ n15 := by rw [hn_54 15 (by decide)]; exact h15_46
          have hR_54 : LR (g_line M_46 (nI aw)) T := hR_46.ln hn_54
          have g4_54 := hR_54.1.2.2.2.2
          generalize g_line M_46 (nI aw) = M_54 at hn_54 hM_54 hLB_54 h15_54 hR_54 g4_54 hc_50
          have g3_54 : M_54 3 0 ≤ 2 := hR_54.1.2.2.1
          clear hn_54
          clear hc_42 hM_46 hLB_46 h15_46 hR_46 g4_46 g3_46 ws_40 M_46
          refine lv_bipush (v := nI 48) hx hb dL_isLine_180 (by decide) ?_
          refine lv_iload hx hb dL_isLine_182 (lv_at hl 1 rfl) ?_
          refine lv_iconst (v := nI 3) hx hb dL_isLine_184 (by decide) ?_
          refine lv_iand hx hb dL_isLine_185 ?_
          rw [show (nI (T 7 aw)) &&& (nI 3) = nI ((T 7 aw) % 4) from n_andK (k := 2) (by have f1 := haw; have f2 : T 7 aw ≤ 16777215 := hT.1 7 aw; omega) (by decide) (by decide) rfl]
          refine lv_iconst (v := nI 2) hx hb dL_isLine_186 (by decide) ?_
          refine n_idiv hx hb dL_isLine_187 (z := ((T 7 aw) % 4) / 2) (by have f1 := haw; have f2 : T 7 aw ≤ 16777215 := hT.1 7 aw; omega) (by decide) (by decide) rfl ?_
          refine n_iadd hx hb dL_isLine_188 (z := 48 + (((T 7 aw) % 4) / 2)) rfl ?_
          refine n_icmp_ne (tgt := 324) hx hb dL_isLine_189 (by decide) (by have f1 : T 7 aw ≤ 16777215 := hT.1 7 aw; omega) (by have f1 := haw; have f2 : T 7 aw ≤ 16777215 := hT.1 7 aw; omega) (fun c_55 => absurd (by omega) c_55) (fun c_55 => ?_)
          refine lv_aload_n hx hb dL_isLine_192 rfl (lv_at hl 3 rfl) ?_
          refine lv_iload_n hx hb dL_isLine_193 rfl (lv_at hl 4 rfl) ?_
          refine lv_iconst (v := nI 5) hx hb dL_isLine_194 (by decide) ?_
          refine lv_iload hx hb dL_isLine_195 (lv_at hl 2 rfl) ?_
          refine n_iadd hx hb dL_isLine_197 (z := 5 + n9) rfl ?_
          refine va_calli (vx_runSW (As := [.ref h, .int (nI aw), .int (nI (5 + n9))]) (rest := []) ⟨hx, hb, hml, hown, hts⟩ (cw_lineChar l hst D cI cO cb eA mi st dO dT vF ws_48 hc_50 hM_54 hsI (nI aw) (nI (5 + n9))) (vx_cwSW 3 hts gL_isLine_L_lineChar rfl rfl rfl kd_L_lineChar ⟨Nat.le_of_ble_eq_true rfl, Nat.le_of_ble_eq_true rfl⟩) ⟨kB_blind, kB_pre hK hG hGT hN (fun q h9 => Or.inl h9) hS (fun q h9 => hA q (Nat.le_trans hS.1 h9)) hPw _⟩ rfl rfl hl.1 rfl (lv_room (Nat.le_of_ble_eq_true rfl)) dL_isLine_198 ⟨by show 23 + 4 ≤ 55; omega, by show 186 + 32 ≤ 442; omega⟩) hS (fun _ _ h9 => Or.inl h9) (fun _ h9 => Or.inl h9) (fun r_56 ws_57 U8 H_61 locs_62 ht hvm hu_60 hB hz1 hk1 hS1 => ?_)
          obtain ⟨hr_58, hc_59⟩ := hu_60
          replace hB : va_P D vwCl ws_57 U8.heap := hB
          rw [ht] at hB
          replace hPa := aP_keep hPa hdB hAB hk1
          clear hPw hS
          have hPw := hB
          have hS := hS1
          clear hB hS1 hz1 hk1 hvm ht U8
          have hv9 : er (k_lineChar M_54 (nI aw) (nI (5 + n9))) (r_lineChar M_54 (nI aw) (nI (5 + n9))) = nI 76 := by exact hR_54.lchK hM_54 (by omega) (by omega) hn9 hl9 (k := 4) (by decide) (by omega) rfl
          rw [hv9] at hr_58
          clear hv9
          subst hr_58
          have hn_63 : ∀ f, f ∉ [33, 34] → (g_line M_54 (nI aw)) f = M_54 f := g_line_nf M_54 (nI aw)
          have hM_63 : MI (g_line M_54 (nI aw)) := MI_line hM_54 (nI aw)
          have hLB_63 : m_LB (g_line M_54 (nI aw)) := (LB_line (nI aw)).1 hLB_54
          have h15_63 : (g_line M_54 (nI aw)) 15 0 ≤ n15 := by rw [hn_63 15 (by decide)]; exact h15_54
          have hR_63 : LR (g_line M_54 (nI aw)) T := hR_54.ln hn_63
          have g4_63 := hR_63.1.2.2.2.2
          generalize g_line M_54 (nI aw) = M_63 at hn_63 hM_63 hLB_63 h15_63 hR_63 g4_63 hc_59
          have g3_63 : M_63 3 0 ≤ 2 := hR_63.1.2.2.1
          clear hn_63
          clear hc_50 hM_54 hLB_54 h15_54 hR_54 g4_54 g3_54 ws_48 M_54
          refine lv_bipush (v := nI 76) hx hb dL_isLine_201 (by decide) ?_
          refine n_icmp_ne (tgt := 324) hx hb dL_isLine_203 (by decide) (by decide) (by decide) (fun c9 => absurd c9 (by decide)) (fun _ => ?_)
          refine lv_aload_n hx hb dL_isLine_206 rfl (lv_at hl 3 rfl) ?_
          refine lv_iload_n hx hb dL_isLine_207 rfl (lv_at hl 4 rfl) ?_
          refine lv_bipush (v := nI 6) hx hb dL_isLine_208 (by decide) ?_
          refine lv_iload hx hb dL_isLine_210 (lv_at hl 2 rfl) ?_
          refine n_iadd hx hb dL_isLine_212 (z := 6 + n9) rfl ?_
          refine va_calli (vx_runSW (As := [.ref h, .int (nI aw), .int (nI (6 + n9))]) (rest := []) ⟨hx, hb, hml, hown, hts⟩ (cw_lineChar l hst D cI cO cb eA mi st dO dT vF ws_57 hc_59 hM_63 hsI (nI aw) (nI (6 + n9))) (vx_cwSW 3 hts gL_isLine_L_lineChar rfl rfl rfl kd_L_lineChar ⟨Nat.le_of_ble_eq_true rfl, Nat.le_of_ble_eq_true rfl⟩) ⟨kB_blind, kB_pre hK hG hGT hN (fun q h9 => Or.inl h9) hS (fun q h9 => hA q (Nat.le_trans hS.1 h9)) hPw _⟩ rfl rfl hl.1 rfl (lv_room (Nat.le_of_ble_eq_true rfl)) dL_isLine_213 ⟨by show 27 + 4 ≤ 55; omega, by show 218 + 32 ≤ 442; omega⟩) hS (fun _ _ h9 => Or.inl h9) (fun _ h9 => Or.inl h9) (fun r_64 ws_65 U8 H_69 locs_70 ht hvm hu_68 hB hz1 hk1 hS1 => ?_)
          obtain ⟨hr_66, hc_67⟩ := hu_68
          replace hB : va_P D vwCl ws_65 U8.heap := hB
          rw [ht] at hB
          replace hPa := aP_keep hPa hdB hAB hk1
          clear hPw hS
          have hPw := hB
          have hS := hS1
          clear hB hS1 hz1 hk1 hvm ht U8
          have hv9 : er (k_lineChar M_63 (nI aw) (nI (6 + n9))) (r_lineChar M_63 (nI aw) (nI (6 + n9))) = nI (48 + T 7 aw % 2) := by exact hR_63.lchK hM_63 (by omega) (by omega) hn9 hl9 (k := 5) (by decide) (by omega) rfl
          rw [hv9] at hr_66
          clear hv9
          subst hr_66
          have hn_71 : ∀ f, f ∉ [33, 34] → (g_line M_63 (nI aw)) f = M_63 f := g_line_nf M_63 (nI aw)
          have hM_71 : MI (g_line M_63 (nI aw)) := MI_line hM_63 (nI aw)
          have hLB_71 : m_LB (g_line M_63 (nI aw)) := (LB_line (nI aw)).1 hLB_63
          have h15_71 : (g_line M_63 (nI aw)) 15 0 ≤ n15 := by rw [hn_71 15 (by decide)]; exact h15_63
          have hR_71 : LR (g_line M_63 (nI aw)) T := hR_63.ln hn_71
          have g4_71 := hR_71.1.2.2.2.2
          generalize g_line M_63 (nI aw) = M_71 at hn_71 hM_71 hLB_71 h15_71 hR_71 g4_71 hc_67
          have g3_71 : M_71 3 0 ≤ 2 := hR_71.1.2.2.1
          clear hn_71
          clear hc_59 hM_63 hLB_63 h15_63 hR_63 g4_63 g3_63 ws_57 M_63
          refine lv_bipush (v := nI 48) hx hb dL_isLine_216 (by decide) ?_
          refine lv_iload hx hb dL_isLine_218 (lv_at hl 1 rfl) ?_
          refine lv_iconst (v := nI 1) hx hb dL_isLine_220 (by decide) ?_
          refine lv_iand hx hb dL_isLine_221 ?_
          rw [show (nI (T 7 aw)) &&& (nI 1) = nI ((T 7 aw) % 2) from n_andK (k := 1) (by have f1 := haw; have f2 : T 7 aw ≤ 16777215 := hT.1 7 aw; omega) (by decide) (by decide) rfl]
          refine n_iadd hx hb dL_isLine_222 (z := 48 + ((T 7 aw) % 2)) rfl ?_
          refine n_icmp_ne (tgt := 324) hx hb dL_isLine_223 (by decide) (by have f1 : T 7 aw ≤ 16777215 := hT.1 7 aw; omega) (by have f1 := haw; have f2 : T 7 aw ≤ 16777215 := hT.1 7 aw; omega) (fun c_72 => absurd (by omega) c_72) (fun c_72 => ?_)
          refine lv_aload_n hx hb dL_isLine_226 rfl (lv_at hl 3 rfl) ?_
          refine lv_iload_n hx hb dL_isLine_227 rfl (lv_at hl 4 rfl) ?_
          refine lv_bipush (v := nI 7) hx hb dL_isLine_228 (by decide) ?_
          refine lv_iload hx hb dL_isLine_230 (lv_at hl 2 rfl) ?_
          refine n_iadd hx hb dL_isLine_232 (z := 7 + n9) rfl ?_
          refine va_calli (vx_runSW (As := [.ref h, .int (nI aw), .int (nI (7 + n9))]) (rest := []) ⟨hx, hb, hml, hown, hts⟩ (cw_lineChar l hst D cI cO cb eA mi st dO dT vF ws_65 hc_67 hM_71 hsI (nI aw) (nI (7 + n9))) (vx_cwSW 3 hts gL_isLine_L_lineChar rfl rfl rfl kd_L_lineChar ⟨Nat.le_of_ble_eq_true rfl, Nat.le_of_ble_eq_true rfl⟩) ⟨kB_blind, kB_pre hK hG hGT hN (fun q h9 => Or.inl h9) hS (fun q h9 => hA q (Nat.le_trans hS.1 h9)) hPw _⟩ rfl rfl hl.1 rfl (lv_room (Nat.le_of_ble_eq_true rfl)) dL_isLine_233 ⟨by show 31 + 4 ≤ 55; omega, by show 250 + 32 ≤ 442; omega⟩) hS (fun _ _ h9 => Or.inl h9) (fun _ h9 => Or.inl h9) (fun r_73 ws_74 U8 H_78 locs_79 ht hvm hu_77 hB hz1 hk1 hS1 => ?_)
          obtain ⟨hr_75, hc_76⟩ := hu_77
          replace hB : va_P D vwCl ws_74 U8.heap := hB
          rw [ht] at hB
          replace hPa := aP_keep hPa hdB hAB hk1
          clear hPw hS
          have hPw := hB
          have hS := hS1
          clear hB hS1 hz1 hk1 hvm ht U8
          have hv9 : er (k_lineChar M_71 (nI aw) (nI (7 + n9))) (r_lineChar M_71 (nI aw) (nI (7 + n9))) = nI 32 := by exact hR_71.lchK hM_71 (by omega) (by omega) hn9 hl9 (k := 6) (by decide) (by omega) rfl
          rw [hv9] at hr_75
          clear hv9
          subst hr_75
          have hn_80 : ∀ f, f ∉ [33, 34] → (g_line M_71 (nI aw)) f = M_71 f := g_line_nf M_71 (nI aw)
          have hM_80 : MI (g_line M_71 (nI aw)) := MI_line hM_71 (nI aw)
          have hLB_80 : m_LB (g_line M_71 (nI aw)) := (LB_line (nI aw)).1 hLB_71
          have h15_80 : (g_line M_71 (nI aw)) 15 0 ≤ n15 := by rw [hn_80 15 (by decide)]; exact h15_71
          have hR_80 : LR (g_line M_71 (nI aw)) T := hR_71.ln hn_80
          have g4_80 := hR_80.1.2.2.2.2
          generalize g_line M_71 (nI aw) = M_80 at hn_80 hM_80 hLB_80 h15_80 hR_80 g4_80 hc_76
          have g3_80 : M_80 3 0 ≤ 2 := hR_80.1.2.2.1
          clear hn_80
          clear hc_67 hM_71 hLB_71 h15_71 hR_71 g4_71 g3_71 ws_65 M_71
          refine lv_bipush (v := nI 32) hx hb dL_isLine_236 (by decide) ?_
          refine n_icmp_ne (tgt := 324) hx hb dL_isLine_238 (by decide) (by decide) (by decide) (fun c9 => absurd c9 (by decide)) (fun _ => ?_)
          refine lv_aload_n hx hb dL_isLine_241 rfl (lv_at hl 3 rfl) ?_
          refine lv_iload_n hx hb dL_isLine_242 rfl (lv_at hl 4 rfl) ?_
          refine lv_bipush (v := nI 8) hx hb dL_isLine_243 (by decide) ?_
          refine lv_iload hx hb dL_isLine_245 (lv_at hl 2 rfl) ?_
          refine n_iadd hx hb dL_isLine_247 (z := 8 + n9) rfl ?_
          refine va_calli (vx_runSW (As := [.ref h, .int (nI aw), .int (nI (8 + n9))]) (rest := []) ⟨hx, hb, hml, hown, hts⟩ (cw_lineChar l hst D cI cO cb eA mi st dO dT vF ws_74 hc_76 hM_80 hsI (nI aw) (nI (8 + n9))) (vx_cwSW 3 hts gL_isLine_L_lineChar rfl rfl rfl kd_L_lineChar ⟨Nat.le_of_ble_eq_true rfl, Nat.le_of_ble_eq_true rfl⟩) ⟨kB_blind, kB_pre hK hG hGT hN (fun q h9 => Or.inl h9) hS (fun q h9 => hA q (Nat.le_trans hS.1 h9)) hPw _⟩ rfl rfl hl.1 rfl (lv_room (Nat.le_of_ble_eq_true rfl)) dL_isLine_248 ⟨by show 35 + 4 ≤ 55; omega, by show 282 + 32 ≤ 442; omega⟩) hS (fun _ _ h9 => Or.inl h9) (fun _ h9 => Or.inl h9) (fun r_81 ws_82 U8 H_86 locs_87 ht hvm hu_85 hB hz1 hk1 hS1 => ?_)
          obtain ⟨hr_83, hc_84⟩ := hu_85
          replace hB : va_P D vwCl ws_82 U8.heap := hB
          rw [ht] at hB
          replace hPa := aP_keep hPa hdB hAB hk1
          clear hPw hS
          have hPw := hB
          have hS := hS1
          clear hB hS1 hz1 hk1 hvm ht U8
          have hv9 : er (k_lineChar M_80 (nI aw) (nI (8 + n9))) (r_lineChar M_80 (nI aw) (nI (8 + n9))) = nI 66 := by exact hR_80.lchK hM_80 (by omega) (by omega) hn9 hl9 (k := 7) (by decide) (by omega) rfl
          rw [hv9] at hr_83
          clear hv9
          subst hr_83
          have hn_88 : ∀ f, f ∉ [33, 34] → (g_line M_80 (nI aw)) f = M_80 f := g_line_nf M_80 (nI aw)
          have hM_88 : MI (g_line M_80 (nI aw)) := MI_line hM_80 (nI aw)
          have hLB_88 : m_LB (g_line M_80 (nI aw)) := (LB_line (nI aw)).1 hLB_80
          have h15_88 : (g_line M_80 (nI aw)) 15 0 ≤ n15 := by rw [hn_88 15 (by decide)]; exact h15_80
          have hR_88 : LR (g_line M_80 (nI aw)) T := hR_80.ln hn_88
          have g4_88 := hR_88.1.2.2.2.2
          generalize g_line M_80 (nI aw) = M_88 at hn_88 hM_88 hLB_88 h15_88 hR_88 g4_88 hc_84
          have g3_88 : M_88 3 0 ≤ 2 := hR_88.1.2.2.1
          clear hn_88
          clear hc_76 hM_80 hLB_80 h15_80 hR_80 g4_80 g3_80 ws_74 M_80
          refine lv_bipush (v := nI 66) hx hb dL_isLine_251 (by decide) ?_
          refine n_icmp_ne (tgt := 324) hx hb dL_isLine_253 (by decide) (by decide) (by decide) (fun c9 => absurd c9 (by decide)) (fun _ => ?_)
          refine lv_aload_n hx hb dL_isLine_256 rfl (lv_at hl 3 rfl) ?_
          refine lv_iload_n hx hb dL_isLine_257 rfl (lv_at hl 4 rfl) ?_
          refine lv_bipush (v := nI 9) hx hb dL_isLine_258 (by decide) ?_
          refine lv_iload hx hb dL_isLine_260 (lv_at hl 2 rfl) ?_
          refine n_iadd hx hb dL_isLine_262 (z := 9 + n9) rfl ?_
          refine va_calli (vx_runSW (As := [.ref h, .int (nI aw), .int (nI (9 + n9))]) (rest := []) ⟨hx, hb, hml, hown, hts⟩ (cw_lineChar l hst D cI cO cb eA mi st dO dT vF ws_82 hc_84 hM_88 hsI (nI aw) (nI (9 + n9))) (vx_cwSW 3 hts gL_isLine_L_lineChar rfl rfl rfl kd_L_lineChar ⟨Nat.le_of_ble_eq_true rfl, Nat.le_of_ble_eq_true rfl⟩) ⟨kB_blind, kB_pre hK hG hGT hN (fun q h9 => Or.inl h9) hS (fun q h9 => hA q (Nat.le_trans hS.1 h9)) hPw _⟩ rfl rfl hl.1 rfl (lv_room (Nat.le_of_ble_eq_true rfl)) dL_isLine_263 ⟨by show 39 + 4 ≤ 55; omega, by show 314 + 32 ≤ 442; omega⟩) hS (fun _ _ h9 => Or.inl h9) (fun _ h9 => Or.inl h9) (fun r_89 ws_90 U8 H_94 locs_95 ht hvm hu_93 hB hz1 hk1 hS1 => ?_)
          obtain ⟨hr_91, hc_92⟩ := hu_93
          replace hB : va_P D vwCl ws_90 U8.heap := hB
          rw [ht] at hB
          replace hPa := aP_keep hPa hdB hAB hk1
          clear hPw hS
          have hPw := hB
          have hS := hS1
          clear hB hS1 hz1 hk1 hvm ht U8
          have hv9 : er (k_lineChar M_88 (nI aw) (nI (9 + n9))) (r_lineChar M_88 (nI aw) (nI (9 + n9))) = nI (48 + T 7 aw / 4 % 4) := by exact hR_88.lchK hM_88 (by omega) (by omega) hn9 hl9 (k := 8) (by decide) (by omega) rfl
          rw [hv9] at hr_91
          clear hv9
          subst hr_91
          have hn_96 : ∀ f, f ∉ [33, 34] → (g_line M_88 (nI aw)) f = M_88 f := g_line_nf M_88 (nI aw)
          have hM_96 : MI (g_line M_88 (nI aw)) := MI_line hM_88 (nI aw)
          have hLB_96 : m_LB (g_line M_88 (nI aw)) := (LB_line (nI aw)).1 hLB_88
          have h15_96 : (g_line M_88 (nI aw)) 15 0 ≤ n15 := by rw [hn_96 15 (by decide)]; exact h15_88
          have hR_96 : LR (g_line M_88 (nI aw)) T := hR_88.ln hn_96
          have g4_96 := hR_96.1.2.2.2.2
          generalize g_line M_88 (nI aw) = M_96 at hn_96 hM_96 hLB_96 h15_96 hR_96 g4_96 hc_92
          have g3_96 : M_96 3 0 ≤ 2 := hR_96.1.2.2.1
          clear hn_96
          clear hc_84 hM_88 hLB_88 h15_88 hR_88 g4_88 g3_88 ws_82 M_88
          refine lv_bipush (v := nI 48) hx hb dL_isLine_266 (by decide) ?_
          refine lv_iload hx hb dL_isLine_268 (lv_at hl 1 rfl) ?_
          refine lv_iconst (v := nI 2) hx hb dL_isLine_270 (by decide) ?_
          refine lv_ishr hx hb dL_isLine_271 ?_
          rw [show (nI (T 7 aw)) >>> ((nI 2) &&& 31) = nI ((T 7 aw) / 4) from n_shrK (by have f1 := haw; have f2 : T 7 aw ≤ 16777215 := hT.1 7 aw; omega) (by decide) rfl]
          refine lv_iconst (v := nI 3) hx hb dL_isLine_272 (by decide) ?_
          refine lv_iand hx hb dL_isLine_273 ?_
          rw [show (nI ((T 7 aw) / 4)) &&& (nI 3) = nI (((T 7 aw) / 4) % 4) from n_andK (k := 2) (by have f1 := haw; have f2 : T 7 aw ≤ 16777215 := hT.1 7 aw; omega) (by decide) (by decide) rfl]
          refine n_iadd hx hb dL_isLine_274 (z := 48 + (((T 7 aw) / 4) % 4)) rfl ?_
          refine n_icmp_ne (tgt := 324) hx hb dL_isLine_275 (by decide) (by have f1 : T 7 aw ≤ 16777215 := hT.1 7 aw; omega) (by have f1 := haw; have f2 : T 7 aw ≤ 16777215 := hT.1 7 aw; omega) (fun c_97 => absurd (by omega) c_97) (fun c_97 => ?_)
          refine lv_aload_n hx hb dL_isLine_278 rfl (lv_at hl 3 rfl) ?_
          refine lv_iload_n hx hb dL_isLine_279 rfl (lv_at hl 4 rfl) ?_
          refine lv_bipush (v := nI 10) hx hb dL_isLine_280 (by decide) ?_
          refine lv_iload hx hb dL_isLine_282 (lv_at hl 2 rfl) ?_
          refine n_iadd hx hb dL_isLine_284 (z := 10 + n9) rfl ?_
          refine va_calli (vx_runSW (As := [.ref h, .int (nI aw), .int (nI (10 + n9))]) (rest := []) ⟨hx, hb, hml, hown, hts⟩ (cw_lineChar l hst D cI cO cb eA mi st dO dT vF ws_90 hc_92 hM_96 hsI (nI aw) (nI (10 + n9))) (vx_cwSW 3 hts gL_isLine_L_lineChar rfl rfl rfl kd_L_lineChar ⟨Nat.le_of_ble_eq_true rfl, Nat.le_of_ble_eq_true rfl⟩) ⟨kB_blind, kB_pre hK hG hGT hN (fun q h9 => Or.inl h9) hS (fun q h9 => hA q (Nat.le_trans hS.1 h9)) hPw _⟩ rfl rfl hl.1 rfl (lv_room (Nat.le_of_ble_eq_true rfl)) dL_isLine_285 ⟨by show 43 + 4 ≤ 55; omega, by show 346 + 32 ≤ 442; omega⟩) hS (fun _ _ h9 => Or.inl h9) (fun _ h9 => Or.inl h9) (fun r_98 ws_99 U8 H_103 locs_104 ht hvm hu_102 hB hz1 hk1 hS1 => ?_)
          obtain ⟨hr_100, hc_101⟩ := hu_102
          replace hB : va_P D vwCl ws_99 U8.heap := hB
          rw [ht] at hB
          replace hPa := aP_keep hPa hdB hAB hk1
          clear hPw hS
          have hPw := hB
          have hS := hS1
          clear hB hS1 hz1 hk1 hvm ht U8
          have hk_105 : k_lineChar M_96 (nI aw) (nI (10 + n9)) = 1 := by exact hR_96.lchE hM_96 (by omega) (by omega) hn9 hl9 (by omega) (Or.inr ⟨hlz, by omega⟩)
          rw [hk_105] at hr_100
          replace hr_100 : r_98 = (-7100) := hr_100
          subst hr_100
          clear hk_105
          have hn_106 : ∀ f, f ∉ [33, 34] → (g_line M_96 (nI aw)) f = M_96 f := g_line_nf M_96 (nI aw)
          have hM_106 : MI (g_line M_96 (nI aw)) := MI_line hM_96 (nI aw)
          have hLB_106 : m_LB (g_line M_96 (nI aw)) := (LB_line (nI aw)).1 hLB_96
          have h15_106 : (g_line M_96 (nI aw)) 15 0 ≤ n15 := by rw [hn_106 15 (by decide)]; exact h15_96
          have hR_106 : LR (g_line M_96 (nI aw)) T := hR_96.ln hn_106
          have g4_106 := hR_106.1.2.2.2.2
          generalize g_line M_96 (nI aw) = M_106 at hn_106 hM_106 hLB_106 h15_106 hR_106 g4_106 hc_101
          have g3_106 : M_106 3 0 ≤ 2 := hR_106.1.2.2.1
          clear hn_106
          clear hc_92 hM_96 hLB_96 h15_96 hR_96 g4_96 g3_96 ws_90 M_96
          refine lv_iload hx hb dL_isLine_288 (lv_at hl 0 rfl) ?_
          refine n_if_le (tgt := 298) hx hb dL_isLine_290 (by decide) (by have f1 := hl86; omega) (fun c_107 => ?_) (fun c_107 => ?_)
          · refine lv_sipush (v := (-7100)) hx hb dL_isLine_298 (by decide) ?_
            refine lv_icmp_ne (tgt := 324) hx hb dL_isLine_301 (by decide)  (fun c9 => absurd c9 (by decide)) (fun _ => ?_)
            refine lv_aload_n hx hb dL_isLine_304 rfl (lv_at hl 3 rfl) ?_
            refine lv_iload_n hx hb dL_isLine_305 rfl (lv_at hl 4 rfl) ?_
            refine lv_bipush (v := nI 11) hx hb dL_isLine_306 (by decide) ?_
            refine lv_iload hx hb dL_isLine_308 (lv_at hl 2 rfl) ?_
            refine n_iadd hx hb dL_isLine_310 (z := 11 + n9) rfl ?_
            refine va_calli (vx_runSW (As := [.ref h, .int (nI aw), .int (nI (11 + n9))]) (rest := []) ⟨hx, hb, hml, hown, hts⟩ (cw_lineChar l hst D cI cO cb eA mi st dO dT vF ws_99 hc_101 hM_106 hsI (nI aw) (nI (11 + n9))) (vx_cwSW 3 hts gL_isLine_L_lineChar rfl rfl rfl kd_L_lineChar ⟨Nat.le_of_ble_eq_true rfl, Nat.le_of_ble_eq_true rfl⟩) ⟨kB_blind, kB_pre hK hG hGT hN (fun q h9 => Or.inl h9) hS (fun q h9 => hA q (Nat.le_trans hS.1 h9)) hPw _⟩ rfl rfl hl.1 rfl (lv_room (Nat.le_of_ble_eq_true rfl)) dL_isLine_311 ⟨by show 47 + 4 ≤ 55; omega, by show 378 + 32 ≤ 442; omega⟩) hS (fun _ _ h9 => Or.inl h9) (fun _ h9 => Or.inl h9) (fun r_108 ws_109 U8 H_113 locs_114 ht hvm hu_112 hB hz1 hk1 hS1 => ?_)
            obtain ⟨hr_110, hc_111⟩ := hu_112
            replace hB : va_P D vwCl ws_109 U8.heap := hB
            rw [ht] at hB
            replace hPa := aP_keep hPa hdB hAB hk1
            clear hPw hS
            have hPw := hB
            have hS := hS1
            clear hB hS1 hz1 hk1 hvm ht U8
            have hk_115 : k_lineChar M_106 (nI aw) (nI (11 + n9)) = 1 := by exact hR_106.lchE hM_106 (by omega) (by omega) hn9 hl9 (by omega) (Or.inl (by omega))
            rw [hk_115] at hr_110
            replace hr_110 : r_108 = (-7100) := hr_110
            subst hr_110
            clear hk_115
            have hn_116 : ∀ f, f ∉ [33, 34] → (g_line M_106 (nI aw)) f = M_106 f := g_line_nf M_106 (nI aw)
            have hM_116 : MI (g_line M_106 (nI aw)) := MI_line hM_106 (nI aw)
            have hLB_116 : m_LB (g_line M_106 (nI aw)) := (LB_line (nI aw)).1 hLB_106
            have h15_116 : (g_line M_106 (nI aw)) 15 0 ≤ n15 := by rw [hn_116 15 (by decide)]; exact h15_106
            have hR_116 : LR (g_line M_106 (nI aw)) T := hR_106.ln hn_116
            have g4_116 := hR_116.1.2.2.2.2
            generalize g_line M_106 (nI aw) = M_116 at hn_116 hM_116 hLB_116 h15_116 hR_116 g4_116 hc_111
            have g3_116 : M_116 3 0 ≤ 2 := hR_116.1.2.2.1
            clear hn_116
            clear hc_101 hM_106 hLB_106 h15_106 hR_106 g4_106 g3_106 ws_99 M_106
            refine lv_sipush (v := (-7100)) hx hb dL_isLine_314 (by decide) ?_
            refine lv_icmp_ne (tgt := 324) hx hb dL_isLine_317 (by decide)  (fun c9 => absurd c9 (by decide)) (fun _ => ?_)
            refine lv_iconst (v := nI 1) hx hb dL_isLine_320 (by decide) ?_
            refine lv_goto (tgt := 325) hx hb dL_isLine_321 (by decide) ?_
            refine W.widen (k := 55) (n := 442) (by omega) (by omega) ?_
            exact W.zret (v := nI 1) hx hb hr rfl (fun U9 ht9 hW9 => ⟨⟨_, (ws_109, M_116), rfl, ⟨rfl, hc_111, hM_116, hLB_116, h15_116, hR_116⟩, by show va_P D vwCl _ U9.heap ∧ va_P D vwCl _ U9.heap; rw [ht9]; exact ⟨hPw, hPa⟩⟩, hS.F ht9⟩) hS.2.2 dL_isLine_325
          · exfalso; omega
        · refine lv_aload_n hx hb dL_isLine_106 rfl (lv_at hl 3 rfl) ?_
          refine lv_iload_n hx hb dL_isLine_107 rfl (lv_at hl 4 rfl) ?_
          refine lv_iconst (v := nI 1) hx hb dL_isLine_108 (by decide) ?_
          refine va_calli (vx_runSW (As := [.ref h, .int (nI aw), .int (nI 1)]) (rest := []) ⟨hx, hb, hml, hown, hts⟩ (cw_lineChar l hst D cI cO cb eA mi st dO dT vF ws_14 hc_16 hM_20 hsI (nI aw) (nI 1)) (vx_cwSW 3 hts gL_isLine_L_lineChar rfl rfl rfl kd_L_lineChar ⟨Nat.le_of_ble_eq_true rfl, Nat.le_of_ble_eq_true rfl⟩) ⟨kB_blind, kB_pre hK hG hGT hN (fun q h9 => Or.inl h9) hS (fun q h9 => hA q (Nat.le_trans hS.1 h9)) hPw _⟩ rfl rfl hl.1 rfl (lv_room (Nat.le_of_ble_eq_true rfl)) dL_isLine_109 ⟨by show 7 + 4 ≤ 55; omega, by show 58 + 32 ≤ 442; omega⟩) hS (fun _ _ h9 => Or.inl h9) (fun _ h9 => Or.inl h9) (fun r_117 ws_118 U8 H_122 locs_123 ht hvm hu_121 hB hz1 hk1 hS1 => ?_)
          obtain ⟨hr_119, hc_120⟩ := hu_121
          replace hB : va_P D vwCl ws_118 U8.heap := hB
          rw [ht] at hB
          replace hPa := aP_keep hPa hdB hAB hk1
          clear hPw hS
          have hPw := hB
          have hS := hS1
          clear hB hS1 hz1 hk1 hvm ht U8
          have hv9 : er (k_lineChar M_20 (nI aw) (nI 1)) (r_lineChar M_20 (nI aw) (nI 1)) = nI (48 + aw / 10) := by exact hR_20.lch9 hM_20 (by omega) (by omega) hn9 hl9 (by omega)
          rw [hv9] at hr_119
          clear hv9
          subst hr_119
          have hn_124 : ∀ f, f ∉ [33, 34] → (g_line M_20 (nI aw)) f = M_20 f := g_line_nf M_20 (nI aw)
          have hM_124 : MI (g_line M_20 (nI aw)) := MI_line hM_20 (nI aw)
          have hLB_124 : m_LB (g_line M_20 (nI aw)) := (LB_line (nI aw)).1 hLB_20
          have h15_124 : (g_line M_20 (nI aw)) 15 0 ≤ n15 := by rw [hn_124 15 (by decide)]; exact h15_20
          have hR_124 : LR (g_line M_20 (nI aw)) T := hR_20.ln hn_124
          have g4_124 := hR_124.1.2.2.2.2
          generalize g_line M_20 (nI aw) = M_124 at hn_124 hM_124 hLB_124 h15_124 hR_124 g4_124 hc_120
          have g3_124 : M_124 3 0 ≤ 2 := hR_124.1.2.2.1
          clear hn_124
          clear hc_16 hM_20 hLB_20 h15_20 hR_20 g4_20 g3_20 ws_14 M_20
          refine lv_bipush (v := nI 48) hx hb dL_isLine_112 (by decide) ?_
          refine lv_iload_n hx hb dL_isLine_114 rfl (lv_at hl 4 rfl) ?_
          refine lv_bipush (v := nI 10) hx hb dL_isLine_115 (by decide) ?_
          refine n_idiv hx hb dL_isLine_117 (z := aw / 10) (by have f1 := haw; omega) (by decide) (by decide) rfl ?_
          refine n_iadd hx hb dL_isLine_118 (z := 48 + (aw / 10)) rfl ?_
          refine n_icmp_ne (tgt := 169) hx hb dL_isLine_119 (by decide) (by have f1 := haw; have f2 := hT2.2.2.1; omega) (by have f1 := haw; omega) (fun c_125 => absurd (by omega) c_125) (fun c_125 => ?_)
          refine lv_aload_n hx hb dL_isLine_122 rfl (lv_at hl 3 rfl) ?_
          refine lv_iload_n hx hb dL_isLine_123 rfl (lv_at hl 4 rfl) ?_
          refine lv_iconst (v := nI 1) hx hb dL_isLine_124 (by decide) ?_
          refine lv_iload hx hb dL_isLine_125 (lv_at hl 2 rfl) ?_
          refine n_iadd hx hb dL_isLine_127 (z := 1 + n9) rfl ?_
          refine va_calli (vx_runSW (As := [.ref h, .int (nI aw), .int (nI (1 + n9))]) (rest := []) ⟨hx, hb, hml, hown, hts⟩ (cw_lineChar l hst D cI cO cb eA mi st dO dT vF ws_118 hc_120 hM_124 hsI (nI aw) (nI (1 + n9))) (vx_cwSW 3 hts gL_isLine_L_lineChar rfl rfl rfl kd_L_lineChar ⟨Nat.le_of_ble_eq_true rfl, Nat.le_of_ble_eq_true rfl⟩) ⟨kB_blind, kB_pre hK hG hGT hN (fun q h9 => Or.inl h9) hS (fun q h9 => hA q (Nat.le_trans hS.1 h9)) hPw _⟩ rfl rfl hl.1 rfl (lv_room (Nat.le_of_ble_eq_true rfl)) dL_isLine_128 ⟨by show 11 + 4 ≤ 55; omega, by show 90 + 32 ≤ 442; omega⟩) hS (fun _ _ h9 => Or.inl h9) (fun _ h9 => Or.inl h9) (fun r_126 ws_127 U8 H_131 locs_132 ht hvm hu_130 hB hz1 hk1 hS1 => ?_)
          obtain ⟨hr_128, hc_129⟩ := hu_130
          replace hB : va_P D vwCl ws_127 U8.heap := hB
          rw [ht] at hB
          replace hPa := aP_keep hPa hdB hAB hk1
          clear hPw hS
          have hPw := hB
          have hS := hS1
          clear hB hS1 hz1 hk1 hvm ht U8
          have hv9 : er (k_lineChar M_124 (nI aw) (nI (1 + n9))) (r_lineChar M_124 (nI aw) (nI (1 + n9))) = nI (48 + aw % 10) := by exact hR_124.lchK hM_124 (by omega) (by omega) hn9 hl9 (k := 0) (by decide) (by omega) rfl
          rw [hv9] at hr_128
          clear hv9
          subst hr_128
          have hn_133 : ∀ f, f ∉ [33, 34] → (g_line M_124 (nI aw)) f = M_124 f := g_line_nf M_124 (nI aw)
          have hM_133 : MI (g_line M_124 (nI aw)) := MI_line hM_124 (nI aw)
          have hLB_133 : m_LB (g_line M_124 (nI aw)) := (LB_line (nI aw)).1 hLB_124
          have h15_133 : (g_line M_124 (nI aw)) 15 0 ≤ n15 := by rw [hn_133 15 (by decide)]; exact h15_124
          have hR_133 : LR (g_line M_124 (nI aw)) T := hR_124.ln hn_133
          have g4_133 := hR_133.1.2.2.2.2
          generalize g_line M_124 (nI aw) = M_133 at hn_133 hM_133 hLB_133 h15_133 hR_133 g4_133 hc_129
          have g3_133 : M_133 3 0 ≤ 2 := hR_133.1.2.2.1
          clear hn_133
          clear hc_120 hM_124 hLB_124 h15_124 hR_124 g4_124 g3_124 ws_118 M_124
          refine lv_bipush (v := nI 48) hx hb dL_isLine_131 (by decide) ?_
          refine lv_iload_n hx hb dL_isLine_133 rfl (lv_at hl 4 rfl) ?_
          refine lv_bipush (v := nI 10) hx hb dL_isLine_134 (by decide) ?_
          refine n_irem hx hb dL_isLine_136 (z := aw % 10) (by have f1 := haw; omega) (by decide) (by decide) rfl ?_
          refine n_iadd hx hb dL_isLine_137 (z := 48 + (aw % 10)) rfl ?_
          refine n_icmp_ne (tgt := 169) hx hb dL_isLine_138 (by decide) (by have f1 := haw; have f2 := hT2.2.2.1; omega) (by have f1 := haw; omega) (fun c_134 => absurd (by omega) c_134) (fun c_134 => ?_)
          refine lv_aload_n hx hb dL_isLine_141 rfl (lv_at hl 3 rfl) ?_
          refine lv_iload_n hx hb dL_isLine_142 rfl (lv_at hl 4 rfl) ?_
          refine lv_iconst (v := nI 2) hx hb dL_isLine_143 (by decide) ?_
          refine lv_iload hx hb dL_isLine_144 (lv_at hl 2 rfl) ?_
          refine n_iadd hx hb dL_isLine_146 (z := 2 + n9) rfl ?_
          refine va_calli (vx_runSW (As := [.ref h, .int (nI aw), .int (nI (2 + n9))]) (rest := []) ⟨hx, hb, hml, hown, hts⟩ (cw_lineChar l hst D cI cO cb eA mi st dO dT vF ws_127 hc_129 hM_133 hsI (nI aw) (nI (2 + n9))) (vx_cwSW 3 hts gL_isLine_L_lineChar rfl rfl rfl kd_L_lineChar ⟨Nat.le_of_ble_eq_true rfl, Nat.le_of_ble_eq_true rfl⟩) ⟨kB_blind, kB_pre hK hG hGT hN (fun q h9 => Or.inl h9) hS (fun q h9 => hA q (Nat.le_trans hS.1 h9)) hPw _⟩ rfl rfl hl.1 rfl (lv_room (Nat.le_of_ble_eq_true rfl)) dL_isLine_147 ⟨by show 15 + 4 ≤ 55; omega, by show 122 + 32 ≤ 442; omega⟩) hS (fun _ _ h9 => Or.inl h9) (fun _ h9 => Or.inl h9) (fun r_135 ws_136 U8 H_140 locs_141 ht hvm hu_139 hB hz1 hk1 hS1 => ?_)
          obtain ⟨hr_137, hc_138⟩ := hu_139
          replace hB : va_P D vwCl ws_136 U8.heap := hB
          rw [ht] at hB
          replace hPa := aP_keep hPa hdB hAB hk1
          clear hPw hS
          have hPw := hB
          have hS := hS1
          clear hB hS1 hz1 hk1 hvm ht U8
          have hv9 : er (k_lineChar M_133 (nI aw) (nI (2 + n9))) (r_lineChar M_133 (nI aw) (nI (2 + n9))) = nI 32 := by exact hR_133.lchK hM_133 (by omega) (by omega) hn9 hl9 (k := 1) (by decide) (by omega) rfl
          rw [hv9] at hr_137
          clear hv9
          subst hr_137
          have hn_142 : ∀ f, f ∉ [33, 34] → (g_line M_133 (nI aw)) f = M_133 f := g_line_nf M_133 (nI aw)
          have hM_142 : MI (g_line M_133 (nI aw)) := MI_line hM_133 (nI aw)
          have hLB_142 : m_LB (g_line M_133 (nI aw)) := (LB_line (nI aw)).1 hLB_133
          have h15_142 : (g_line M_133 (nI aw)) 15 0 ≤ n15 := by rw [hn_142 15 (by decide)]; exact h15_133
          have hR_142 : LR (g_line M_133 (nI aw)) T := hR_133.ln hn_142
          have g4_142 := hR_142.1.2.2.2.2
          generalize g_line M_133 (nI aw) = M_142 at hn_142 hM_142 hLB_142 h15_142 hR_142 g4_142 hc_138
          have g3_142 : M_142 3 0 ≤ 2 := hR_142.1.2.2.1
          clear hn_142
          clear hc_129 hM_133 hLB_133 h15_133 hR_133 g4_133 g3_133 ws_127 M_133
          refine lv_bipush (v := nI 32) hx hb dL_isLine_150 (by decide) ?_
          refine n_icmp_ne (tgt := 169) hx hb dL_isLine_152 (by decide) (by decide) (by decide) (fun c9 => absurd c9 (by decide)) (fun _ => ?_)
          refine lv_aload_n hx hb dL_isLine_155 rfl (lv_at hl 3 rfl) ?_
          refine lv_iload_n hx hb dL_isLine_156 rfl (lv_at hl 4 rfl) ?_
          refine lv_iconst (v := nI 3) hx hb dL_isLine_157 (by decide) ?_
          refine lv_iload hx hb dL_isLine_158 (lv_at hl 2 rfl) ?_
          refine n_iadd hx hb dL_isLine_160 (z := 3 + n9) rfl ?_
          refine va_calli (vx_runSW (As := [.ref h, .int (nI aw), .int (nI (3 + n9))]) (rest := []) ⟨hx, hb, hml, hown, hts⟩ (cw_lineChar l hst D cI cO cb eA mi st dO dT vF ws_136 hc_138 hM_142 hsI (nI aw) (nI (3 + n9))) (vx_cwSW 3 hts gL_isLine_L_lineChar rfl rfl rfl kd_L_lineChar ⟨Nat.le_of_ble_eq_true rfl, Nat.le_of_ble_eq_true rfl⟩) ⟨kB_blind, kB_pre hK hG hGT hN (fun q h9 => Or.inl h9) hS (fun q h9 => hA q (Nat.le_trans hS.1 h9)) hPw _⟩ rfl rfl hl.1 rfl (lv_room (Nat.le_of_ble_eq_true rfl)) dL_isLine_161 ⟨by show 19 + 4 ≤ 55; omega, by show 154 + 32 ≤ 442; omega⟩) hS (fun _ _ h9 => Or.inl h9) (fun _ h9 => Or.inl h9) (fun r_143 ws_144 U8 H_148 locs_149 ht hvm hu_147 hB hz1 hk1 hS1 => ?_)
          obtain ⟨hr_145, hc_146⟩ := hu_147
          replace hB : va_P D vwCl ws_144 U8.heap := hB
          rw [ht] at hB
          replace hPa := aP_keep hPa hdB hAB hk1
          clear hPw hS
          have hPw := hB
          have hS := hS1
          clear hB hS1 hz1 hk1 hvm ht U8
          have hv9 : er (k_lineChar M_142 (nI aw) (nI (3 + n9))) (r_lineChar M_142 (nI aw) (nI (3 + n9))) = nI 84 := by exact hR_142.lchK hM_142 (by omega) (by omega) hn9 hl9 (k := 2) (by decide) (by omega) rfl
          rw [hv9] at hr_145
          clear hv9
          subst hr_145
          have hn_150 : ∀ f, f ∉ [33, 34] → (g_line M_142 (nI aw)) f = M_142 f := g_line_nf M_142 (nI aw)
          have hM_150 : MI (g_line M_142 (nI aw)) := MI_line hM_142 (nI aw)
          have hLB_150 : m_LB (g_line M_142 (nI aw)) := (LB_line (nI aw)).1 hLB_142
          have h15_150 : (g_line M_142 (nI aw)) 15 0 ≤ n15 := by rw [hn_150 15 (by decide)]; exact h15_142
          have hR_150 : LR (g_line M_142 (nI aw)) T := hR_142.ln hn_150
          have g4_150 := hR_150.1.2.2.2.2
          generalize g_line M_142 (nI aw) = M_150 at hn_150 hM_150 hLB_150 h15_150 hR_150 g4_150 hc_146
          have g3_150 : M_150 3 0 ≤ 2 := hR_150.1.2.2.1
          clear hn_150
          clear hc_138 hM_142 hLB_142 h15_142 hR_142 g4_142 g3_142 ws_136 M_142
          refine lv_bipush (v := nI 84) hx hb dL_isLine_164 (by decide) ?_
          refine n_icmp_eq (tgt := 171) hx hb dL_isLine_166 (by decide) (by decide) (by decide) (fun _ => ?_) (fun c9 => absurd c9 (by decide))
          refine lv_aload_n hx hb dL_isLine_171 rfl (lv_at hl 3 rfl) ?_
          refine lv_iload_n hx hb dL_isLine_172 rfl (lv_at hl 4 rfl) ?_
          refine lv_iconst (v := nI 4) hx hb dL_isLine_173 (by decide) ?_
          refine lv_iload hx hb dL_isLine_174 (lv_at hl 2 rfl) ?_
          refine n_iadd hx hb dL_isLine_176 (z := 4 + n9) rfl ?_
          refine va_calli (vx_runSW (As := [.ref h, .int (nI aw), .int (nI (4 + n9))]) (rest := []) ⟨hx, hb, hml, hown, hts⟩ (cw_lineChar l hst D cI cO cb eA mi st dO dT vF ws_144 hc_146 hM_150 hsI (nI aw) (nI (4 + n9))) (vx_cwSW 3 hts gL_isLine_L_lineChar rfl rfl rfl kd_L_lineChar ⟨Nat.le_of_ble_eq_true rfl, Nat.le_of_ble_eq_true rfl⟩) ⟨kB_blind, kB_pre hK hG hGT hN (fun q h9 => Or.inl h9) hS (fun q h9 => hA q (Nat.le_trans hS.1 h9)) hPw _⟩ rfl rfl hl.1 rfl (lv_room (Nat.le_of_ble_eq_true rfl)) dL_isLine_177 ⟨by show 23 + 4 ≤ 55; omega, by show 186 + 32 ≤ 442; omega⟩) hS (fun _ _ h9 => Or.inl h9) (fun _ h9 => Or.inl h9) (fun r_151 ws_152 U8 H_156 locs_157 ht hvm hu_155 hB hz1 hk1 hS1 => ?_)
          obtain ⟨hr_153, hc_154⟩ := hu_155
          replace hB : va_P D vwCl ws_152 U8.heap := hB
          rw [ht] at hB
          replace hPa := aP_keep hPa hdB hAB hk1
          clear hPw hS
          have hPw := hB
          have hS := hS1
          clear hB hS1 hz1 hk1 hvm ht U8
          have hv9 : er (k_lineChar M_150 (nI aw) (nI (4 + n9))) (r_lineChar M_150 (nI aw) (nI (4 + n9))) = nI (48 + T 7 aw % 4 / 2) := by exact hR_150.lchK hM_150 (by omega) (by omega) hn9 hl9 (k := 3) (by decide) (by omega) rfl
          rw [hv9] at hr_153
          clear hv9
          subst hr_153
          have hn_158 : ∀ f, f ∉ [33, 34] → (g_line M_150 (nI aw)) f = M_150 f := g_line_nf M_150 (nI aw)
          have hM_158 : MI (g_line M_150 (nI aw)) := MI_line hM_150 (nI aw)
          have hLB_158 : m_LB (g_line M_150 (nI aw)) := (LB_line (nI aw)).1 hLB_150
          have h15_158 : (g_line M_150 (nI aw)) 15 0 ≤ n15 := by rw [hn_158 15 (by decide)]; exact h15_150
          have hR_158 : LR (g_line M_150 (nI aw)) T := hR_150.ln hn_158
          have g4_158 := hR_158.1.2.2.2.2
          generalize g_line M_150 (nI aw) = M_158 at hn_158 hM_158 hLB_158 h15_158 hR_158 g4_158 hc_154
          have g3_158 : M_158 3 0 ≤ 2 := hR_158.1.2.2.1
          clear hn_158
          clear hc_146 hM_150 hLB_150 h15_150 hR_150 g4_150 g3_150 ws_144 M_150
          refine lv_bipush (v := nI 48) hx hb dL_isLine_180 (by decide) ?_
          refine lv_iload hx hb dL_isLine_182 (lv_at hl 1 rfl) ?_
          refine lv_iconst (v := nI 3) hx hb dL_isLine_184 (by decide) ?_
          refine lv_iand hx hb dL_isLine_185 ?_
          rw [show (nI (T 7 aw)) &&& (nI 3) = nI ((T 7 aw) % 4) from n_andK (k := 2) (by have f1 := haw; have f2 : T 7 aw ≤ 16777215 := hT.1 7 aw; omega) (by decide) (by decide) rfl]
          refine lv_iconst (v := nI 2) hx hb dL_isLine_186 (by decide) ?_
          refine n_idiv hx hb dL_isLine_187 (z := ((T 7 aw) % 4) / 2) (by have f1 := haw; have f2 : T 7 aw ≤ 16777215 := hT.1 7 aw; omega) (by decide) (by decide) rfl ?_
          refine n_iadd hx hb dL_isLine_188 (z := 48 + (((T 7 aw) % 4) / 2)) rfl ?_
          refine n_icmp_ne (tgt := 324) hx hb dL_isLine_189 (by decide) (by have f1 : T 7 aw ≤ 16777215 := hT.1 7 aw; omega) (by have f1 := haw; have f2 : T 7 aw ≤ 16777215 := hT.1 7 aw; omega) (fun c_159 => absurd (by omega) c_159) (fun c_159 => ?_)
          refine lv_aload_n hx hb dL_isLine_192 rfl (lv_at hl 3 rfl) ?_
          refine lv_iload_n hx hb dL_isLine_193 rfl (lv_at hl 4 rfl) ?_
          refine lv_iconst (v := nI 5) hx hb dL_isLine_194 (by decide) ?_
          refine lv_iload hx hb dL_isLine_195 (lv_at hl 2 rfl) ?_
          refine n_iadd hx hb dL_isLine_197 (z := 5 + n9) rfl ?_
          refine va_calli (vx_runSW (As := [.ref h, .int (nI aw), .int (nI (5 + n9))]) (rest := []) ⟨hx, hb, hml, hown, hts⟩ (cw_lineChar l hst D cI cO cb eA mi st dO dT vF ws_152 hc_154 hM_158 hsI (nI aw) (nI (5 + n9))) (vx_cwSW 3 hts gL_isLine_L_lineChar rfl rfl rfl kd_L_lineChar ⟨Nat.le_of_ble_eq_true rfl, Nat.le_of_ble_eq_true rfl⟩) ⟨kB_blind, kB_pre hK hG hGT hN (fun q h9 => Or.inl h9) hS (fun q h9 => hA q (Nat.le_trans hS.1 h9)) hPw _⟩ rfl rfl hl.1 rfl (lv_room (Nat.le_of_ble_eq_true rfl)) dL_isLine_198 ⟨by show 27 + 4 ≤ 55; omega, by show 218 + 32 ≤ 442; omega⟩) hS (fun _ _ h9 => Or.inl h9) (fun _ h9 => Or.inl h9) (fun r_160 ws_161 U8 H_165 locs_166 ht hvm hu_164 hB hz1 hk1 hS1 => ?_)
          obtain ⟨hr_162, hc_163⟩ := hu_164
          replace hB : va_P D vwCl ws_161 U8.heap := hB
          rw [ht] at hB
          replace hPa := aP_keep hPa hdB hAB hk1
          clear hPw hS
          have hPw := hB
          have hS := hS1
          clear hB hS1 hz1 hk1 hvm ht U8
          have hv9 : er (k_lineChar M_158 (nI aw) (nI (5 + n9))) (r_lineChar M_158 (nI aw) (nI (5 + n9))) = nI 76 := by exact hR_158.lchK hM_158 (by omega) (by omega) hn9 hl9 (k := 4) (by decide) (by omega) rfl
          rw [hv9] at hr_162
          clear hv9
          subst hr_162
          have hn_167 : ∀ f, f ∉ [33, 34] → (g_line M_158 (nI aw)) f = M_158 f := g_line_nf M_158 (nI aw)
          have hM_167 : MI (g_line M_158 (nI aw)) := MI_line hM_158 (nI aw)
          have hLB_167 : m_LB (g_line M_158 (nI aw)) := (LB_line (nI aw)).1 hLB_158
          have h15_167 : (g_line M_158 (nI aw)) 15 0 ≤ n15 := by rw [hn_167 15 (by decide)]; exact h15_158
          have hR_167 : LR (g_line M_158 (nI aw)) T := hR_158.ln hn_167
          have g4_167 := hR_167.1.2.2.2.2
          generalize g_line M_158 (nI aw) = M_167 at hn_167 hM_167 hLB_167 h15_167 hR_167 g4_167 hc_163
          have g3_167 : M_167 3 0 ≤ 2 := hR_167.1.2.2.1
          clear hn_167
          clear hc_154 hM_158 hLB_158 h15_158 hR_158 g4_158 g3_158 ws_152 M_158
          refine lv_bipush (v := nI 76) hx hb dL_isLine_201 (by decide) ?_
          refine n_icmp_ne (tgt := 324) hx hb dL_isLine_203 (by decide) (by decide) (by decide) (fun c9 => absurd c9 (by decide)) (fun _ => ?_)
          refine lv_aload_n hx hb dL_isLine_206 rfl (lv_at hl 3 rfl) ?_
          refine lv_iload_n hx hb dL_isLine_207 rfl (lv_at hl 4 rfl) ?_
          refine lv_bipush (v := nI 6) hx hb dL_isLine_208 (by decide) ?_
          refine lv_iload hx hb dL_isLine_210 (lv_at hl 2 rfl) ?_
          refine n_iadd hx hb dL_isLine_212 (z := 6 + n9) rfl ?_
          refine va_calli (vx_runSW (As := [.ref h, .int (nI aw), .int (nI (6 + n9))]) (rest := []) ⟨hx, hb, hml, hown, hts⟩ (cw_lineChar l hst D cI cO cb eA mi st dO dT vF ws_161 hc_163 hM_167 hsI (nI aw) (nI (6 + n9))) (vx_cwSW 3 hts gL_isLine_L_lineChar rfl rfl rfl kd_L_lineChar ⟨Nat.le_of_ble_eq_true rfl, Nat.le_of_ble_eq_true rfl⟩) ⟨kB_blind, kB_pre hK hG hGT hN (fun q h9 => Or.inl h9) hS (fun q h9 => hA q (Nat.le_trans hS.1 h9)) hPw _⟩ rfl rfl hl.1 rfl (lv_room (Nat.le_of_ble_eq_true rfl)) dL_isLine_213 ⟨by show 31 + 4 ≤ 55; omega, by show 250 + 32 ≤ 442; omega⟩) hS (fun _ _ h9 => Or.inl h9) (fun _ h9 => Or.inl h9) (fun r_168 ws_169 U8 H_173 locs_174 ht hvm hu_172 hB hz1 hk1 hS1 => ?_)
          obtain ⟨hr_170, hc_171⟩ := hu_172
          replace hB : va_P D vwCl ws_169 U8.heap := hB
          rw [ht] at hB
          replace hPa := aP_keep hPa hdB hAB hk1
          clear hPw hS
          have hPw := hB
          have hS := hS1
          clear hB hS1 hz1 hk1 hvm ht U8
          have hv9 : er (k_lineChar M_167 (nI aw) (nI (6 + n9))) (r_lineChar M_167 (nI aw) (nI (6 + n9))) = nI (48 + T 7 aw % 2) := by exact hR_167.lchK hM_167 (by omega) (by omega) hn9 hl9 (k := 5) (by decide) (by omega) rfl
          rw [hv9] at hr_170
          clear hv9
          subst hr_170
          have hn_175 : ∀ f, f ∉ [33, 34] → (g_line M_167 (nI aw)) f = M_167 f := g_line_nf M_167 (nI aw)
          have hM_175 : MI (g_line M_167 (nI aw)) := MI_line hM_167 (nI aw)
          have hLB_175 : m_LB (g_line M_167 (nI aw)) := (LB_line (nI aw)).1 hLB_167
          have h15_175 : (g_line M_167 (nI aw)) 15 0 ≤ n15 := by rw [hn_175 15 (by decide)]; exact h15_167
          have hR_175 : LR (g_line M_167 (nI aw)) T := hR_167.ln hn_175
          have g4_175 := hR_175.1.2.2.2.2
          generalize g_line M_167 (nI aw) = M_175 at hn_175 hM_175 hLB_175 h15_175 hR_175 g4_175 hc_171
          have g3_175 : M_175 3 0 ≤ 2 := hR_175.1.2.2.1
          clear hn_175
          clear hc_163 hM_167 hLB_167 h15_167 hR_167 g4_167 g3_167 ws_161 M_167
          refine lv_bipush (v := nI 48) hx hb dL_isLine_216 (by decide) ?_
          refine lv_iload hx hb dL_isLine_218 (lv_at hl 1 rfl) ?_
          refine lv_iconst (v := nI 1) hx hb dL_isLine_220 (by decide) ?_
          refine lv_iand hx hb dL_isLine_221 ?_
          rw [show (nI (T 7 aw)) &&& (nI 1) = nI ((T 7 aw) % 2) from n_andK (k := 1) (by have f1 := haw; have f2 : T 7 aw ≤ 16777215 := hT.1 7 aw; omega) (by decide) (by decide) rfl]
          refine n_iadd hx hb dL_isLine_222 (z := 48 + ((T 7 aw) % 2)) rfl ?_
          refine n_icmp_ne (tgt := 324) hx hb dL_isLine_223 (by decide) (by have f1 : T 7 aw ≤ 16777215 := hT.1 7 aw; omega) (by have f1 := haw; have f2 : T 7 aw ≤ 16777215 := hT.1 7 aw; omega) (fun c_176 => absurd (by omega) c_176) (fun c_176 => ?_)
          refine lv_aload_n hx hb dL_isLine_226 rfl (lv_at hl 3 rfl) ?_
          refine lv_iload_n hx hb dL_isLine_227 rfl (lv_at hl 4 rfl) ?_
          refine lv_bipush (v := nI 7) hx hb dL_isLine_228 (by decide) ?_
          refine lv_iload hx hb dL_isLine_230 (lv_at hl 2 rfl) ?_
          refine n_iadd hx hb dL_isLine_232 (z := 7 + n9) rfl ?_
          refine va_calli (vx_runSW (As := [.ref h, .int (nI aw), .int (nI (7 + n9))]) (rest := []) ⟨hx, hb, hml, hown, hts⟩ (cw_lineChar l hst D cI cO cb eA mi st dO dT vF ws_169 hc_171 hM_175 hsI (nI aw) (nI (7 + n9))) (vx_cwSW 3 hts gL_isLine_L_lineChar rfl rfl rfl kd_L_lineChar ⟨Nat.le_of_ble_eq_true rfl, Nat.le_of_ble_eq_true rfl⟩) ⟨kB_blind, kB_pre hK hG hGT hN (fun q h9 => Or.inl h9) hS (fun q h9 => hA q (Nat.le_trans hS.1 h9)) hPw _⟩ rfl rfl hl.1 rfl (lv_room (Nat.le_of_ble_eq_true rfl)) dL_isLine_233 ⟨by show 35 + 4 ≤ 55; omega, by show 282 + 32 ≤ 442; omega⟩) hS (fun _ _ h9 => Or.inl h9) (fun _ h9 => Or.inl h9) (fun r_177 ws_178 U8 H_182 locs_183 ht hvm hu_181 hB hz1 hk1 hS1 => ?_)
          obtain ⟨hr_179, hc_180⟩ := hu_181
          replace hB : va_P D vwCl ws_178 U8.heap := hB
          rw [ht] at hB
          replace hPa := aP_keep hPa hdB hAB hk1
          clear hPw hS
          have hPw := hB
          have hS := hS1
          clear hB hS1 hz1 hk1 hvm ht U8
          have hv9 : er (k_lineChar M_175 (nI aw) (nI (7 + n9))) (r_lineChar M_175 (nI aw) (nI (7 + n9))) = nI 32 := by exact hR_175.lchK hM_175 (by omega) (by omega) hn9 hl9 (k := 6) (by decide) (by omega) rfl
          rw [hv9] at hr_179
          clear hv9
          subst hr_179
          have hn_184 : ∀ f, f ∉ [33, 34] → (g_line M_175 (nI aw)) f = M_175 f := g_line_nf M_175 (nI aw)
          have hM_184 : MI (g_line M_175 (nI aw)) := MI_line hM_175 (nI aw)
          have hLB_184 : m_LB (g_line M_175 (nI aw)) := (LB_line (nI aw)).1 hLB_175
          have h15_184 : (g_line M_175 (nI aw)) 15 0 ≤ n15 := by rw [hn_184 15 (by decide)]; exact h15_175
          have hR_184 : LR (g_line M_175 (nI aw)) T := hR_175.ln hn_184
          have g4_184 := hR_184.1.2.2.2.2
          generalize g_line M_175 (nI aw) = M_184 at hn_184 hM_184 hLB_184 h15_184 hR_184 g4_184 hc_180
          have g3_184 : M_184 3 0 ≤ 2 := hR_184.1.2.2.1
          clear hn_184
          clear hc_171 hM_175 hLB_175 h15_175 hR_175 g4_175 g3_175 ws_169 M_175
          refine lv_bipush (v := nI 32) hx hb dL_isLine_236 (by decide) ?_
          refine n_icmp_ne (tgt := 324) hx hb dL_isLine_238 (by decide) (by decide) (by decide) (fun c9 => absurd c9 (by decide)) (fun _ => ?_)
          refine lv_aload_n hx hb dL_isLine_241 rfl (lv_at hl 3 rfl) ?_
          refine lv_iload_n hx hb dL_isLine_242 rfl (lv_at hl 4 rfl) ?_
          refine lv_bipush (v := nI 8) hx hb dL_isLine_243 (by decide) ?_
          refine lv_iload hx hb dL_isLine_245 (lv_at hl 2 rfl) ?_
          refine n_iadd hx hb dL_isLine_247 (z := 8 + n9) rfl ?_
          refine va_calli (vx_runSW (As := [.ref h, .int (nI aw), .int (nI (8 + n9))]) (rest := []) ⟨hx, hb, hml, hown, hts⟩ (cw_lineChar l hst D cI cO cb eA mi st dO dT vF ws_178 hc_180 hM_184 hsI (nI aw) (nI (8 + n9))) (vx_cwSW 3 hts gL_isLine_L_lineChar rfl rfl rfl kd_L_lineChar ⟨Nat.le_of_ble_eq_true rfl, Nat.le_of_ble_eq_true rfl⟩) ⟨kB_blind, kB_pre hK hG hGT hN (fun q h9 => Or.inl h9) hS (fun q h9 => hA q (Nat.le_trans hS.1 h9)) hPw _⟩ rfl rfl hl.1 rfl (lv_room (Nat.le_of_ble_eq_true rfl)) dL_isLine_248 ⟨by show 39 + 4 ≤ 55; omega, by show 314 + 32 ≤ 442; omega⟩) hS (fun _ _ h9 => Or.inl h9) (fun _ h9 => Or.inl h9) (fun r_185 ws_186 U8 H_190 locs_191 ht hvm hu_189 hB hz1 hk1 hS1 => ?_)
          obtain ⟨hr_187, hc_188⟩ := hu_189
          replace hB : va_P D vwCl ws_186 U8.heap := hB
          rw [ht] at hB
          replace hPa := aP_keep hPa hdB hAB hk1
          clear hPw hS
          have hPw := hB
          have hS := hS1
          clear hB hS1 hz1 hk1 hvm ht U8
          have hv9 : er (k_lineChar M_184 (nI aw) (nI (8 + n9))) (r_lineChar M_184 (nI aw) (nI (8 + n9))) = nI 66 := by exact hR_184.lchK hM_184 (by omega) (by omega) hn9 hl9 (k := 7) (by decide) (by omega) rfl
          rw [hv9] at hr_187
          clear hv9
          subst hr_187
          have hn_192 : ∀ f, f ∉ [33, 34] → (g_line M_184 (nI aw)) f = M_184 f := g_line_nf M_184 (nI aw)
          have hM_192 : MI (g_line M_184 (nI aw)) := MI_line hM_184 (nI aw)
          have hLB_192 : m_LB (g_line M_184 (nI aw)) := (LB_line (nI aw)).1 hLB_184
          have h15_192 : (g_line M_184 (nI aw)) 15 0 ≤ n15 := by rw [hn_192 15 (by decide)]; exact h15_184
          have hR_192 : LR (g_line M_184 (nI aw)) T := hR_184.ln hn_192
          have g4_192 := hR_192.1.2.2.2.2
          generalize g_line M_184 (nI aw) = M_192 at hn_192 hM_192 hLB_192 h15_192 hR_192 g4_192 hc_188
          have g3_192 : M_192 3 0 ≤ 2 := hR_192.1.2.2.1
          clear hn_192
          clear hc_180 hM_184 hLB_184 h15_184 hR_184 g4_184 g3_184 ws_178 M_184
          refine lv_bipush (v := nI 66) hx hb dL_isLine_251 (by decide) ?_
          refine n_icmp_ne (tgt := 324) hx hb dL_isLine_253 (by decide) (by decide) (by decide) (fun c9 => absurd c9 (by decide)) (fun _ => ?_)
          refine lv_aload_n hx hb dL_isLine_256 rfl (lv_at hl 3 rfl) ?_
          refine lv_iload_n hx hb dL_isLine_257 rfl (lv_at hl 4 rfl) ?_
          refine lv_bipush (v := nI 9) hx hb dL_isLine_258 (by decide) ?_
          refine lv_iload hx hb dL_isLine_260 (lv_at hl 2 rfl) ?_
          refine n_iadd hx hb dL_isLine_262 (z := 9 + n9) rfl ?_
          refine va_calli (vx_runSW (As := [.ref h, .int (nI aw), .int (nI (9 + n9))]) (rest := []) ⟨hx, hb, hml, hown, hts⟩ (cw_lineChar l hst D cI cO cb eA mi st dO dT vF ws_186 hc_188 hM_192 hsI (nI aw) (nI (9 + n9))) (vx_cwSW 3 hts gL_isLine_L_lineChar rfl rfl rfl kd_L_lineChar ⟨Nat.le_of_ble_eq_true rfl, Nat.le_of_ble_eq_true rfl⟩) ⟨kB_blind, kB_pre hK hG hGT hN (fun q h9 => Or.inl h9) hS (fun q h9 => hA q (Nat.le_trans hS.1 h9)) hPw _⟩ rfl rfl hl.1 rfl (lv_room (Nat.le_of_ble_eq_true rfl)) dL_isLine_263 ⟨by show 43 + 4 ≤ 55; omega, by show 346 + 32 ≤ 442; omega⟩) hS (fun _ _ h9 => Or.inl h9) (fun _ h9 => Or.inl h9) (fun r_193 ws_194 U8 H_198 locs_199 ht hvm hu_197 hB hz1 hk1 hS1 => ?_)
          obtain ⟨hr_195, hc_196⟩ := hu_197
          replace hB : va_P D vwCl ws_194 U8.heap := hB
          rw [ht] at hB
          replace hPa := aP_keep hPa hdB hAB hk1
          clear hPw hS
          have hPw := hB
          have hS := hS1
          clear hB hS1 hz1 hk1 hvm ht U8
          have hv9 : er (k_lineChar M_192 (nI aw) (nI (9 + n9))) (r_lineChar M_192 (nI aw) (nI (9 + n9))) = nI (48 + T 7 aw / 4 % 4) := by exact hR_192.lchK hM_192 (by omega) (by omega) hn9 hl9 (k := 8) (by decide) (by omega) rfl
          rw [hv9] at hr_195
          clear hv9
          subst hr_195
          have hn_200 : ∀ f, f ∉ [33, 34] → (g_line M_192 (nI aw)) f = M_192 f := g_line_nf M_192 (nI aw)
          have hM_200 : MI (g_line M_192 (nI aw)) := MI_line hM_192 (nI aw)
          have hLB_200 : m_LB (g_line M_192 (nI aw)) := (LB_line (nI aw)).1 hLB_192
          have h15_200 : (g_line M_192 (nI aw)) 15 0 ≤ n15 := by rw [hn_200 15 (by decide)]; exact h15_192
          have hR_200 : LR (g_line M_192 (nI aw)) T := hR_192.ln hn_200
          have g4_200 := hR_200.1.2.2.2.2
          generalize g_line M_192 (nI aw) = M_200 at hn_200 hM_200 hLB_200 h15_200 hR_200 g4_200 hc_196
          have g3_200 : M_200 3 0 ≤ 2 := hR_200.1.2.2.1
          clear hn_200
          clear hc_188 hM_192 hLB_192 h15_192 hR_192 g4_192 g3_192 ws_186 M_192
          refine lv_bipush (v := nI 48) hx hb dL_isLine_266 (by decide) ?_
          refine lv_iload hx hb dL_isLine_268 (lv_at hl 1 rfl) ?_
          refine lv_iconst (v := nI 2) hx hb dL_isLine_270 (by decide) ?_
          refine lv_ishr hx hb dL_isLine_271 ?_
          rw [show (nI (T 7 aw)) >>> ((nI 2) &&& 31) = nI ((T 7 aw) / 4) from n_shrK (by have f1 := haw; have f2 : T 7 aw ≤ 16777215 := hT.1 7 aw; omega) (by decide) rfl]
          refine lv_iconst (v := nI 3) hx hb dL_isLine_272 (by decide) ?_
          refine lv_iand hx hb dL_isLine_273 ?_
          rw [show (nI ((T 7 aw) / 4)) &&& (nI 3) = nI (((T 7 aw) / 4) % 4) from n_andK (k := 2) (by have f1 := haw; have f2 : T 7 aw ≤ 16777215 := hT.1 7 aw; omega) (by decide) (by decide) rfl]
          refine n_iadd hx hb dL_isLine_274 (z := 48 + (((T 7 aw) / 4) % 4)) rfl ?_
          refine n_icmp_ne (tgt := 324) hx hb dL_isLine_275 (by decide) (by have f1 : T 7 aw ≤ 16777215 := hT.1 7 aw; omega) (by have f1 := haw; have f2 : T 7 aw ≤ 16777215 := hT.1 7 aw; omega) (fun c_201 => absurd (by omega) c_201) (fun c_201 => ?_)
          refine lv_aload_n hx hb dL_isLine_278 rfl (lv_at hl 3 rfl) ?_
          refine lv_iload_n hx hb dL_isLine_279 rfl (lv_at hl 4 rfl) ?_
          refine lv_bipush (v := nI 10) hx hb dL_isLine_280 (by decide) ?_
          refine lv_iload hx hb dL_isLine_282 (lv_at hl 2 rfl) ?_
          refine n_iadd hx hb dL_isLine_284 (z := 10 + n9) rfl ?_
          refine va_calli (vx_runSW (As := [.ref h, .int (nI aw), .int (nI (10 + n9))]) (rest := []) ⟨hx, hb, hml, hown, hts⟩ (cw_lineChar l hst D cI cO cb eA mi st dO dT vF ws_194 hc_196 hM_200 hsI (nI aw) (nI (10 + n9))) (vx_cwSW 3 hts gL_isLine_L_lineChar rfl rfl rfl kd_L_lineChar ⟨Nat.le_of_ble_eq_true rfl, Nat.le_of_ble_eq_true rfl⟩) ⟨kB_blind, kB_pre hK hG hGT hN (fun q h9 => Or.inl h9) hS (fun q h9 => hA q (Nat.le_trans hS.1 h9)) hPw _⟩ rfl rfl hl.1 rfl (lv_room (Nat.le_of_ble_eq_true rfl)) dL_isLine_285 ⟨by show 47 + 4 ≤ 55; omega, by show 378 + 32 ≤ 442; omega⟩) hS (fun _ _ h9 => Or.inl h9) (fun _ h9 => Or.inl h9) (fun r_202 ws_203 U8 H_207 locs_208 ht hvm hu_206 hB hz1 hk1 hS1 => ?_)
          obtain ⟨hr_204, hc_205⟩ := hu_206
          replace hB : va_P D vwCl ws_203 U8.heap := hB
          rw [ht] at hB
          replace hPa := aP_keep hPa hdB hAB hk1
          clear hPw hS
          have hPw := hB
          have hS := hS1
          clear hB hS1 hz1 hk1 hvm ht U8
          have hk_209 : k_lineChar M_200 (nI aw) (nI (10 + n9)) = 1 := by exact hR_200.lchE hM_200 (by omega) (by omega) hn9 hl9 (by omega) (Or.inr ⟨hlz, by omega⟩)
          rw [hk_209] at hr_204
          replace hr_204 : r_202 = (-7100) := hr_204
          subst hr_204
          clear hk_209
          have hn_210 : ∀ f, f ∉ [33, 34] → (g_line M_200 (nI aw)) f = M_200 f := g_line_nf M_200 (nI aw)
          have hM_210 : MI (g_line M_200 (nI aw)) := MI_line hM_200 (nI aw)
          have hLB_210 : m_LB (g_line M_200 (nI aw)) := (LB_line (nI aw)).1 hLB_200
          have h15_210 : (g_line M_200 (nI aw)) 15 0 ≤ n15 := by rw [hn_210 15 (by decide)]; exact h15_200
          have hR_210 : LR (g_line M_200 (nI aw)) T := hR_200.ln hn_210
          have g4_210 := hR_210.1.2.2.2.2
          generalize g_line M_200 (nI aw) = M_210 at hn_210 hM_210 hLB_210 h15_210 hR_210 g4_210 hc_205
          have g3_210 : M_210 3 0 ≤ 2 := hR_210.1.2.2.1
          clear hn_210
          clear hc_196 hM_200 hLB_200 h15_200 hR_200 g4_200 g3_200 ws_194 M_200
          refine lv_iload hx hb dL_isLine_288 (lv_at hl 0 rfl) ?_
          refine n_if_le (tgt := 298) hx hb dL_isLine_290 (by decide) (by have f1 := hl86; omega) (fun c_211 => ?_) (fun c_211 => ?_)
          · refine lv_sipush (v := (-7100)) hx hb dL_isLine_298 (by decide) ?_
            refine lv_icmp_ne (tgt := 324) hx hb dL_isLine_301 (by decide)  (fun c9 => absurd c9 (by decide)) (fun _ => ?_)
            refine lv_aload_n hx hb dL_isLine_304 rfl (lv_at hl 3 rfl) ?_
            refine lv_iload_n hx hb dL_isLine_305 rfl (lv_at hl 4 rfl) ?_
            refine lv_bipush (v := nI 11) hx hb dL_isLine_306 (by decide) ?_
            refine lv_iload hx hb dL_isLine_308 (lv_at hl 2 rfl) ?_
            refine n_iadd hx hb dL_isLine_310 (z := 11 + n9) rfl ?_
            refine va_calli (vx_runSW (As := [.ref h, .int (nI aw), .int (nI (11 + n9))]) (rest := []) ⟨hx, hb, hml, hown, hts⟩ (cw_lineChar l hst D cI cO cb eA mi st dO dT vF ws_203 hc_205 hM_210 hsI (nI aw) (nI (11 + n9))) (vx_cwSW 3 hts gL_isLine_L_lineChar rfl rfl rfl kd_L_lineChar ⟨Nat.le_of_ble_eq_true rfl, Nat.le_of_ble_eq_true rfl⟩) ⟨kB_blind, kB_pre hK hG hGT hN (fun q h9 => Or.inl h9) hS (fun q h9 => hA q (Nat.le_trans hS.1 h9)) hPw _⟩ rfl rfl hl.1 rfl (lv_room (Nat.le_of_ble_eq_true rfl)) dL_isLine_311 ⟨by show 51 + 4 ≤ 55; omega, by show 410 + 32 ≤ 442; omega⟩) hS (fun _ _ h9 => Or.inl h9) (fun _ h9 => Or.inl h9) (fun r_212 ws_213 U8 H_217 locs_218 ht hvm hu_216 hB hz1 hk1 hS1 => ?_)
            obtain ⟨hr_214, hc_215⟩ := hu_216
            replace hB : va_P D vwCl ws_213 U8.heap := hB
            rw [ht] at hB
            replace hPa := aP_keep hPa hdB hAB hk1
            clear hPw hS
            have hPw := hB
            have hS := hS1
            clear hB hS1 hz1 hk1 hvm ht U8
            have hk_219 : k_lineChar M_210 (nI aw) (nI (11 + n9)) = 1 := by exact hR_210.lchE hM_210 (by omega) (by omega) hn9 hl9 (by omega) (Or.inl (by omega))
            rw [hk_219] at hr_214
            replace hr_214 : r_212 = (-7100) := hr_214
            subst hr_214
            clear hk_219
            have hn_220 : ∀ f, f ∉ [33, 34] → (g_line M_210 (nI aw)) f = M_210 f := g_line_nf M_210 (nI aw)
            have hM_220 : MI (g_line M_210 (nI aw)) := MI_line hM_210 (nI aw)
            have hLB_220 : m_LB (g_line M_210 (nI aw)) := (LB_line (nI aw)).1 hLB_210
            have h15_220 : (g_line M_210 (nI aw)) 15 0 ≤ n15 := by rw [hn_220 15 (by decide)]; exact h15_210
            have hR_220 : LR (g_line M_210 (nI aw)) T := hR_210.ln hn_220
            have g4_220 := hR_220.1.2.2.2.2
            generalize g_line M_210 (nI aw) = M_220 at hn_220 hM_220 hLB_220 h15_220 hR_220 g4_220 hc_215
            have g3_220 : M_220 3 0 ≤ 2 := hR_220.1.2.2.1
            clear hn_220
            clear hc_205 hM_210 hLB_210 h15_210 hR_210 g4_210 g3_210 ws_203 M_210
            refine lv_sipush (v := (-7100)) hx hb dL_isLine_314 (by decide) ?_
            refine lv_icmp_ne (tgt := 324) hx hb dL_isLine_317 (by decide)  (fun c9 => absurd c9 (by decide)) (fun _ => ?_)
            refine lv_iconst (v := nI 1) hx hb dL_isLine_320 (by decide) ?_
            refine lv_goto (tgt := 325) hx hb dL_isLine_321 (by decide) ?_
            refine W.widen (k := 55) (n := 442) (by omega) (by omega) ?_
            exact W.zret (v := nI 1) hx hb hr rfl (fun U9 ht9 hW9 => ⟨⟨_, (ws_213, M_220), rfl, ⟨rfl, hc_215, hM_220, hLB_220, h15_220, hR_220⟩, by show va_P D vwCl _ U9.heap ∧ va_P D vwCl _ U9.heap; rw [ht9]; exact ⟨hPw, hPa⟩⟩, hS.F ht9⟩) hS.2.2 dL_isLine_325
          · exfalso; omega
      · have hlp : 0 < l9 := by omega
        refine lv_iconst (v := nI 1) hx hb dL_isLine_80 (by decide) ?_
        refine lv_goto (tgt := 85) hx hb dL_isLine_81 (by decide) ?_
        refine n_iadd hx hb dL_isLine_85 (z := (10 + n9) + 1) rfl ?_
        refine n_icmp_ne (tgt := 169) hx hb dL_isLine_86 (by decide) (by have f1 := hn1; have f2 := hifl; omega) (by have f1 := hn1; omega) (fun c_221 => absurd (by first | (rw [if_pos hlp]; done) | (rw [if_neg hlz]; done) | (rw [if_neg hlz]; rfl)) c_221) (fun c_221 => ?_)
        refine lv_aload_n hx hb dL_isLine_89 rfl (lv_at hl 3 rfl) ?_
        refine lv_iload_n hx hb dL_isLine_90 rfl (lv_at hl 4 rfl) ?_
        refine lv_iconst (v := nI 0) hx hb dL_isLine_91 (by decide) ?_
        refine va_calli (vx_runSW (As := [.ref h, .int (nI aw), .int (nI 0)]) (rest := []) ⟨hx, hb, hml, hown, hts⟩ (cw_lineChar l hst D cI cO cb eA mi st dO dT vF ws_4 hc_6 hM_10 hsI (nI aw) (nI 0)) (vx_cwSW 3 hts gL_isLine_L_lineChar rfl rfl rfl kd_L_lineChar ⟨Nat.le_of_ble_eq_true rfl, Nat.le_of_ble_eq_true rfl⟩) ⟨kB_blind, kB_pre hK hG hGT hN (fun q h9 => Or.inl h9) hS (fun q h9 => hA q (Nat.le_trans hS.1 h9)) hPw _⟩ rfl rfl hl.1 rfl (lv_room (Nat.le_of_ble_eq_true rfl)) dL_isLine_92 ⟨by show 3 + 4 ≤ 55; omega, by show 26 + 32 ≤ 442; omega⟩) hS (fun _ _ h9 => Or.inl h9) (fun _ h9 => Or.inl h9) (fun r_222 ws_223 U8 H_227 locs_228 ht hvm hu_226 hB hz1 hk1 hS1 => ?_)
        obtain ⟨hr_224, hc_225⟩ := hu_226
        replace hB : va_P D vwCl ws_223 U8.heap := hB
        rw [ht] at hB
        replace hPa := aP_keep hPa hdB hAB hk1
        clear hPw hS
        have hPw := hB
        have hS := hS1
        clear hB hS1 hz1 hk1 hvm ht U8
        have hv9 : er (k_lineChar M_10 (nI aw) (nI 0)) (r_lineChar M_10 (nI aw) (nI 0)) = nI 35 := by exact hR_10.lch0 hM_10 (by omega) (by omega) hn9 hl9
        rw [hv9] at hr_224
        clear hv9
        subst hr_224
        have hn_229 : ∀ f, f ∉ [33, 34] → (g_line M_10 (nI aw)) f = M_10 f := g_line_nf M_10 (nI aw)
        have hM_229 : MI (g_line M_10 (nI aw)) := MI_line hM_10 (nI aw)
        have hLB_229 : m_LB (g_line M_10 (nI aw)) := (LB_line (nI aw)).1 hLB_10
        have h15_229 : (g_line M_10 (nI aw)) 15 0 ≤ n15 := by rw [hn_229 15 (by decide)]; exact h15_10
        have hR_229 : LR (g_line M_10 (nI aw)) T := hR_10.ln hn_229
        have g4_229 := hR_229.1.2.2.2.2
        generalize g_line M_10 (nI aw) = M_229 at hn_229 hM_229 hLB_229 h15_229 hR_229 g4_229 hc_225
        have g3_229 : M_229 3 0 ≤ 2 := hR_229.1.2.2.1
        clear hn_229
        clear hc_6 hM_10 hLB_10 h15_10 hR_10 g4_10 g3_10 ws_4 M_10
        refine lv_bipush (v := nI 35) hx hb dL_isLine_95 (by decide) ?_
        refine n_icmp_ne (tgt := 169) hx hb dL_isLine_97 (by decide) (by decide) (by decide) (fun c9 => absurd c9 (by decide)) (fun _ => ?_)
        refine lv_iload hx hb dL_isLine_100 (lv_at hl 2 rfl) ?_
        refine lv_iconst (v := nI 1) hx hb dL_isLine_102 (by decide) ?_
        refine n_icmp_ne (tgt := 122) hx hb dL_isLine_103 (by decide) (by have f1 := hn1; omega) (by decide) (fun c_230 => ?_) (fun c_230 => ?_)
        · refine lv_aload_n hx hb dL_isLine_122 rfl (lv_at hl 3 rfl) ?_
          refine lv_iload_n hx hb dL_isLine_123 rfl (lv_at hl 4 rfl) ?_
          refine lv_iconst (v := nI 1) hx hb dL_isLine_124 (by decide) ?_
          refine lv_iload hx hb dL_isLine_125 (lv_at hl 2 rfl) ?_
          refine n_iadd hx hb dL_isLine_127 (z := 1 + n9) rfl ?_
          refine va_calli (vx_runSW (As := [.ref h, .int (nI aw), .int (nI (1 + n9))]) (rest := []) ⟨hx, hb, hml, hown, hts⟩ (cw_lineChar l hst D cI cO cb eA mi st dO dT vF ws_223 hc_225 hM_229 hsI (nI aw) (nI (1 + n9))) (vx_cwSW 3 hts gL_isLine_L_lineChar rfl rfl rfl kd_L_lineChar ⟨Nat.le_of_ble_eq_true rfl, Nat.le_of_ble_eq_true rfl⟩) ⟨kB_blind, kB_pre hK hG hGT hN (fun q h9 => Or.inl h9) hS (fun q h9 => hA q (Nat.le_trans hS.1 h9)) hPw _⟩ rfl rfl hl.1 rfl (lv_room (Nat.le_of_ble_eq_true rfl)) dL_isLine_128 ⟨by show 7 + 4 ≤ 55; omega, by show 58 + 32 ≤ 442; omega⟩) hS (fun _ _ h9 => Or.inl h9) (fun _ h9 => Or.inl h9) (fun r_231 ws_232 U8 H_236 locs_237 ht hvm hu_235 hB hz1 hk1 hS1 => ?_)
          obtain ⟨hr_233, hc_234⟩ := hu_235
          replace hB : va_P D vwCl ws_232 U8.heap := hB
          rw [ht] at hB
          replace hPa := aP_keep hPa hdB hAB hk1
          clear hPw hS
          have hPw := hB
          have hS := hS1
          clear hB hS1 hz1 hk1 hvm ht U8
          have hv9 : er (k_lineChar M_229 (nI aw) (nI (1 + n9))) (r_lineChar M_229 (nI aw) (nI (1 + n9))) = nI (48 + aw % 10) := by exact hR_229.lchK hM_229 (by omega) (by omega) hn9 hl9 (k := 0) (by decide) (by omega) rfl
          rw [hv9] at hr_233
          clear hv9
          subst hr_233
          have hn_238 : ∀ f, f ∉ [33, 34] → (g_line M_229 (nI aw)) f = M_229 f := g_line_nf M_229 (nI aw)
          have hM_238 : MI (g_line M_229 (nI aw)) := MI_line hM_229 (nI aw)
          have hLB_238 : m_LB (g_line M_229 (nI aw)) := (LB_line (nI aw)).1 hLB_229
          have h15_238 : (g_line M_229 (nI aw)) 15 0 ≤ n15 := by rw [hn_238 15 (by decide)]; exact h15_229
          have hR_238 : LR (g_line M_229 (nI aw)) T := hR_229.ln hn_238
          have g4_238 := hR_238.1.2.2.2.2
          generalize g_line M_229 (nI aw) = M_238 at hn_238 hM_238 hLB_238 h15_238 hR_238 g4_238 hc_234
          have g3_238 : M_238 3 0 ≤ 2 := hR_238.1.2.2.1
          clear hn_238
          clear hc_225 hM_229 hLB_229 h15_229 hR_229 g4_229 g3_229 ws_223 M_229
          refine lv_bipush (v := nI 48) hx hb dL_isLine_131 (by decide) ?_
          refine lv_iload_n hx hb dL_isLine_133 rfl (lv_at hl 4 rfl) ?_
          refine lv_bipush (v := nI 10) hx hb dL_isLine_134 (by decide) ?_
          refine n_irem hx hb dL_isLine_136 (z := aw % 10) (by have f1 := haw; omega) (by decide) (by decide) rfl ?_
          refine n_iadd hx hb dL_isLine_137 (z := 48 + (aw % 10)) rfl ?_
          refine n_icmp_ne (tgt := 169) hx hb dL_isLine_138 (by decide) (by have f1 := haw; have f2 := hT2.2.2.1; omega) (by have f1 := haw; omega) (fun c_239 => absurd (by omega) c_239) (fun c_239 => ?_)
          refine lv_aload_n hx hb dL_isLine_141 rfl (lv_at hl 3 rfl) ?_
          refine lv_iload_n hx hb dL_isLine_142 rfl (lv_at hl 4 rfl) ?_
          refine lv_iconst (v := nI 2) hx hb dL_isLine_143 (by decide) ?_
          refine lv_iload hx hb dL_isLine_144 (lv_at hl 2 rfl) ?_
          refine n_iadd hx hb dL_isLine_146 (z := 2 + n9) rfl ?_
          refine va_calli (vx_runSW (As := [.ref h, .int (nI aw), .int (nI (2 + n9))]) (rest := []) ⟨hx, hb, hml, hown, hts⟩ (cw_lineChar l hst D cI cO cb eA mi st dO dT vF ws_232 hc_234 hM_238 hsI (nI aw) (nI (2 + n9))) (vx_cwSW 3 hts gL_isLine_L_lineChar rfl rfl rfl kd_L_lineChar ⟨Nat.le_of_ble_eq_true rfl, Nat.le_of_ble_eq_true rfl⟩) ⟨kB_blind, kB_pre hK hG hGT hN (fun q h9 => Or.inl h9) hS (fun q h9 => hA q (Nat.le_trans hS.1 h9)) hPw _⟩ rfl rfl hl.1 rfl (lv_room (Nat.le_of_ble_eq_true rfl)) dL_isLine_147 ⟨by show 11 + 4 ≤ 55; omega, by show 90 + 32 ≤ 442; omega⟩) hS (fun _ _ h9 => Or.inl h9) (fun _ h9 => Or.inl h9) (fun r_240 ws_241 U8 H_245 locs_246 ht hvm hu_244 hB hz1 hk1 hS1 => ?_)
          obtain ⟨hr_242, hc_243⟩ := hu_244
          replace hB : va_P D vwCl ws_241 U8.heap := hB
          rw [ht] at hB
          replace hPa := aP_keep hPa hdB hAB hk1
          clear hPw hS
          have hPw := hB
          have hS := hS1
          clear hB hS1 hz1 hk1 hvm ht U8
          have hv9 : er (k_lineChar M_238 (nI aw) (nI (2 + n9))) (r_lineChar M_238 (nI aw) (nI (2 + n9))) = nI 32 := by exact hR_238.lchK hM_238 (by omega) (by omega) hn9 hl9 (k := 1) (by decide) (by omega) rfl
          rw [hv9] at hr_242
          clear hv9
          subst hr_242
          have hn_247 : ∀ f, f ∉ [33, 34] → (g_line M_238 (nI aw)) f = M_238 f := g_line_nf M_238 (nI aw)
          have hM_247 : MI (g_line M_238 (nI aw)) := MI_line hM_238 (nI aw)
          have hLB_247 : m_LB (g_line M_238 (nI aw)) := (LB_line (nI aw)).1 hLB_238
          have h15_247 : (g_line M_238 (nI aw)) 15 0 ≤ n15 := by rw [hn_247 15 (by decide)]; exact h15_238
          have hR_247 : LR (g_line M_238 (nI aw)) T := hR_238.ln hn_247
          have g4_247 := hR_247.1.2.2.2.2
          generalize g_line M_238 (nI aw) = M_247 at hn_247 hM_247 hLB_247 h15_247 hR_247 g4_247 hc_243
          have g3_247 : M_247 3 0 ≤ 2 := hR_247.1.2.2.1
          clear hn_247
          clear hc_234 hM_238 hLB_238 h15_238 hR_238 g4_238 g3_238 ws_232 M_238
          refine lv_bipush (v := nI 32) hx hb dL_isLine_150 (by decide) ?_
          refine n_icmp_ne (tgt := 169) hx hb dL_isLine_152 (by decide) (by decide) (by decide) (fun c9 => absurd c9 (by decide)) (fun _ => ?_)
          refine lv_aload_n hx hb dL_isLine_155 rfl (lv_at hl 3 rfl) ?_
          refine lv_iload_n hx hb dL_isLine_156 rfl (lv_at hl 4 rfl) ?_
          refine lv_iconst (v := nI 3) hx hb dL_isLine_157 (by decide) ?_
          refine lv_iload hx hb dL_isLine_158 (lv_at hl 2 rfl) ?_
          refine n_iadd hx hb dL_isLine_160 (z := 3 + n9) rfl ?_
          refine va_calli (vx_runSW (As := [.ref h, .int (nI aw), .int (nI (3 + n9))]) (rest := []) ⟨hx, hb, hml, hown, hts⟩ (cw_lineChar l hst D cI cO cb eA mi st dO dT vF ws_241 hc_243 hM_247 hsI (nI aw) (nI (3 + n9))) (vx_cwSW 3 hts gL_isLine_L_lineChar rfl rfl rfl kd_L_lineChar ⟨Nat.le_of_ble_eq_true rfl, Nat.le_of_ble_eq_true rfl⟩) ⟨kB_blind, kB_pre hK hG hGT hN (fun q h9 => Or.inl h9) hS (fun q h9 => hA q (Nat.le_trans hS.1 h9)) hPw _⟩ rfl rfl hl.1 rfl (lv_room (Nat.le_of_ble_eq_true rfl)) dL_isLine_161 ⟨by show 15 + 4 ≤ 55; omega, by show 122 + 32 ≤ 442; omega⟩) hS (fun _ _ h9 => Or.inl h9) (fun _ h9 => Or.inl h9) (fun r_248 ws_249 U8 H_253 locs_254 ht hvm hu_252 hB hz1 hk1 hS1 => ?_)
          obtain ⟨hr_250, hc_251⟩ := hu_252
          replace hB : va_P D vwCl ws_249 U8.heap := hB
          rw [ht] at hB
          replace hPa := aP_keep hPa hdB hAB hk1
          clear hPw hS
          have hPw := hB
          have hS := hS1
          clear hB hS1 hz1 hk1 hvm ht U8
          have hv9 : er (k_lineChar M_247 (nI aw) (nI (3 + n9))) (r_lineChar M_247 (nI aw) (nI (3 + n9))) = nI 84 := by exact hR_247.lchK hM_247 (by omega) (by omega) hn9 hl9 (k := 2) (by decide) (by omega) rfl
          rw [hv9] at hr_250
          clear hv9
          subst hr_250
          have hn_255 : ∀ f, f ∉ [33, 34] → (g_line M_247 (nI aw)) f = M_247 f := g_line_nf M_247 (nI aw)
          have hM_255 : MI (g_line M_247 (nI aw)) := MI_line hM_247 (nI aw)
          have hLB_255 : m_LB (g_line M_247 (nI aw)) := (LB_line (nI aw)).1 hLB_247
          have h15_255 : (g_line M_247 (nI aw)) 15 0 ≤ n15 := by rw [hn_255 15 (by decide)]; exact h15_247
          have hR_255 : LR (g_line M_247 (nI aw)) T := hR_247.ln hn_255
          have g4_255 := hR_255.1.2.2.2.2
          generalize g_line M_247 (nI aw) = M_255 at hn_255 hM_255 hLB_255 h15_255 hR_255 g4_255 hc_251
          have g3_255 : M_255 3 0 ≤ 2 := hR_255.1.2.2.1
          clear hn_255
          clear hc_243 hM_247 hLB_247 h15_247 hR_247 g4_247 g3_247 ws_241 M_247
          refine lv_bipush (v := nI 84) hx hb dL_isLine_164 (by decide) ?_
          refine n_icmp_eq (tgt := 171) hx hb dL_isLine_166 (by decide) (by decide) (by decide) (fun _ => ?_) (fun c9 => absurd c9 (by decide))
          refine lv_aload_n hx hb dL_isLine_171 rfl (lv_at hl 3 rfl) ?_
          refine lv_iload_n hx hb dL_isLine_172 rfl (lv_at hl 4 rfl) ?_
          refine lv_iconst (v := nI 4) hx hb dL_isLine_173 (by decide) ?_
          refine lv_iload hx hb dL_isLine_174 (lv_at hl 2 rfl) ?_
          refine n_iadd hx hb dL_isLine_176 (z := 4 + n9) rfl ?_
          refine va_calli (vx_runSW (As := [.ref h, .int (nI aw), .int (nI (4 + n9))]) (rest := []) ⟨hx, hb, hml, hown, hts⟩ (cw_lineChar l hst D cI cO cb eA mi st dO dT vF ws_249 hc_251 hM_255 hsI (nI aw) (nI (4 + n9))) (vx_cwSW 3 hts gL_isLine_L_lineChar rfl rfl rfl kd_L_lineChar ⟨Nat.le_of_ble_eq_true rfl, Nat.le_of_ble_eq_true rfl⟩) ⟨kB_blind, kB_pre hK hG hGT hN (fun q h9 => Or.inl h9) hS (fun q h9 => hA q (Nat.le_trans hS.1 h9)) hPw _⟩ rfl rfl hl.1 rfl (lv_room (Nat.le_of_ble_eq_true rfl)) dL_isLine_177 ⟨by show 19 + 4 ≤ 55; omega, by show 154 + 32 ≤ 442; omega⟩) hS (fun _ _ h9 => Or.inl h9) (fun _ h9 => Or.inl h9) (fun r_256 ws_257 U8 H_261 locs_262 ht hvm hu_260 hB hz1 hk1 hS1 => ?_)
          obtain ⟨hr_258, hc_259⟩ := hu_260
          replace hB : va_P D vwCl ws_257 U8.heap := hB
          rw [ht] at hB
          replace hPa := aP_keep hPa hdB hAB hk1
          clear hPw hS
          have hPw := hB
          have hS := hS1
          clear hB hS1 hz1 hk1 hvm ht U8
          have hv9 : er (k_lineChar M_255 (nI aw) (nI (4 + n9))) (r_lineChar M_255 (nI aw) (nI (4 + n9))) = nI (48 + T 7 aw % 4 / 2) := by exact hR_255.lchK hM_255 (by omega) (by omega) hn9 hl9 (k := 3) (by decide) (by omega) rfl
          rw [hv9] at hr_258
          clear hv9
          subst hr_258
          have hn_263 : ∀ f, f ∉ [33, 34] → (g_line M_255 (nI aw)) f = M_255 f := g_line_nf M_255 (nI aw)
          have hM_263 : MI (g_line M_255 (nI aw)) := MI_line hM_255 (nI aw)
          have hLB_263 : m_LB (g_line M_255 (nI aw)) := (LB_line (nI aw)).1 hLB_255
          have h15_263 : (g_line M_255 (nI aw)) 15 0 ≤ n15 := by rw [hn_263 15 (by decide)]; exact h15_255
          have hR_263 : LR (g_line M_255 (nI aw)) T := hR_255.ln hn_263
          have g4_263 := hR_263.1.2.2.2.2
          generalize g_line M_255 (nI aw) = M_263 at hn_263 hM_263 hLB_263 h15_263 hR_263 g4_263 hc_259
          have g3_263 : M_263 3 0 ≤ 2 := hR_263.1.2.2.1
          clear hn_263
          clear hc_251 hM_255 hLB_255 h15_255 hR_255 g4_255 g3_255 ws_249 M_255
          refine lv_bipush (v := nI 48) hx hb dL_isLine_180 (by decide) ?_
          refine lv_iload hx hb dL_isLine_182 (lv_at hl 1 rfl) ?_
          refine lv_iconst (v := nI 3) hx hb dL_isLine_184 (by decide) ?_
          refine lv_iand hx hb dL_isLine_185 ?_
          rw [show (nI (T 7 aw)) &&& (nI 3) = nI ((T 7 aw) % 4) from n_andK (k := 2) (by have f1 := haw; have f2 : T 7 aw ≤ 16777215 := hT.1 7 aw; omega) (by decide) (by decide) rfl]
          refine lv_iconst (v := nI 2) hx hb dL_isLine_186 (by decide) ?_
          refine n_idiv hx hb dL_isLine_187 (z := ((T 7 aw) % 4) / 2) (by have f1 := haw; have f2 : T 7 aw ≤ 16777215 := hT.1 7 aw; omega) (by decide) (by decide) rfl ?_
          refine n_iadd hx hb dL_isLine_188 (z := 48 + (((T 7 aw) % 4) / 2)) rfl ?_
          refine n_icmp_ne (tgt := 324) hx hb dL_isLine_189 (by decide) (by have f1 : T 7 aw ≤ 16777215 := hT.1 7 aw; omega) (by have f1 := haw; have f2 : T 7 aw ≤ 16777215 := hT.1 7 aw; omega) (fun c_264 => absurd (by omega) c_264) (fun c_264 => ?_)
          refine lv_aload_n hx hb dL_isLine_192 rfl (lv_at hl 3 rfl) ?_
          refine lv_iload_n hx hb dL_isLine_193 rfl (lv_at hl 4 rfl) ?_
          refine lv_iconst (v := nI 5) hx hb dL_isLine_194 (by decide) ?_
          refine lv_iload hx hb dL_isLine_195 (lv_at hl 2 rfl) ?_
          refine n_iadd hx hb dL_isLine_197 (z := 5 + n9) rfl ?_
          refine va_calli (vx_runSW (As := [.ref h, .int (nI aw), .int (nI (5 + n9))]) (rest := []) ⟨hx, hb, hml, hown, hts⟩ (cw_lineChar l hst D cI cO cb eA mi st dO dT vF ws_257 hc_259 hM_263 hsI (nI aw) (nI (5 + n9))) (vx_cwSW 3 hts gL_isLine_L_lineChar rfl rfl rfl kd_L_lineChar ⟨Nat.le_of_ble_eq_true rfl, Nat.le_of_ble_eq_true rfl⟩) ⟨kB_blind, kB_pre hK hG hGT hN (fun q h9 => Or.inl h9) hS (fun q h9 => hA q (Nat.le_trans hS.1 h9)) hPw _⟩ rfl rfl hl.1 rfl (lv_room (Nat.le_of_ble_eq_true rfl)) dL_isLine_198 ⟨by show 23 + 4 ≤ 55; omega, by show 186 + 32 ≤ 442; omega⟩) hS (fun _ _ h9 => Or.inl h9) (fun _ h9 => Or.inl h9) (fun r_265 ws_266 U8 H_270 locs_271 ht hvm hu_269 hB hz1 hk1 hS1 => ?_)
          obtain ⟨hr_267, hc_268⟩ := hu_269
          replace hB : va_P D vwCl ws_266 U8.heap := hB
          rw [ht] at hB
          replace hPa := aP_keep hPa hdB hAB hk1
          clear hPw hS
          have hPw := hB
          have hS := hS1
          clear hB hS1 hz1 hk1 hvm ht U8
          have hv9 : er (k_lineChar M_263 (nI aw) (nI (5 + n9))) (r_lineChar M_263 (nI aw) (nI (5 + n9))) = nI 76 := by exact hR_263.lchK hM_263 (by omega) (by omega) hn9 hl9 (k := 4) (by decide) (by omega) rfl
          rw [hv9] at hr_267
          clear hv9
          subst hr_267
          have hn_272 : ∀ f, f ∉ [33, 34] → (g_line M_263 (nI aw)) f = M_263 f := g_line_nf M_263 (nI aw)
          have hM_272 : MI (g_line M_263 (nI aw)) := MI_line hM_263 (nI aw)
          have hLB_272 : m_LB (g_line M_263 (nI aw)) := (LB_line (nI aw)).1 hLB_263
          have h15_272 : (g_line M_263 (nI aw)) 15 0 ≤ n15 := by rw [hn_272 15 (by decide)]; exact h15_263
          have hR_272 : LR (g_line M_263 (nI aw)) T := hR_263.ln hn_272
          have g4_272 := hR_272.1.2.2.2.2
          generalize g_line M_263 (nI aw) = M_272 at hn_272 hM_272 hLB_272 h15_272 hR_272 g4_272 hc_268
          have g3_272 : M_272 3 0 ≤ 2 := hR_272.1.2.2.1
          clear hn_272
          clear hc_259 hM_263 hLB_263 h15_263 hR_263 g4_263 g3_263 ws_257 M_263
          refine lv_bipush (v := nI 76) hx hb dL_isLine_201 (by decide) ?_
          refine n_icmp_ne (tgt := 324) hx hb dL_isLine_203 (by decide) (by decide) (by decide) (fun c9 => absurd c9 (by decide)) (fun _ => ?_)
          refine lv_aload_n hx hb dL_isLine_206 rfl (lv_at hl 3 rfl) ?_
          refine lv_iload_n hx hb dL_isLine_207 rfl (lv_at hl 4 rfl) ?_
          refine lv_bipush (v := nI 6) hx hb dL_isLine_208 (by decide) ?_
          refine lv_iload hx hb dL_isLine_210 (lv_at hl 2 rfl) ?_
          refine n_iadd hx hb dL_isLine_212 (z := 6 + n9) rfl ?_
          refine va_calli (vx_runSW (As := [.ref h, .int (nI aw), .int (nI (6 + n9))]) (rest := []) ⟨hx, hb, hml, hown, hts⟩ (cw_lineChar l hst D cI cO cb eA mi st dO dT vF ws_266 hc_268 hM_272 hsI (nI aw) (nI (6 + n9))) (vx_cwSW 3 hts gL_isLine_L_lineChar rfl rfl rfl kd_L_lineChar ⟨Nat.le_of_ble_eq_true rfl, Nat.le_of_ble_eq_true rfl⟩) ⟨kB_blind, kB_pre hK hG hGT hN (fun q h9 => Or.inl h9) hS (fun q h9 => hA q (Nat.le_trans hS.1 h9)) hPw _⟩ rfl rfl hl.1 rfl (lv_room (Nat.le_of_ble_eq_true rfl)) dL_isLine_213 ⟨by show 27 + 4 ≤ 55; omega, by show 218 + 32 ≤ 442; omega⟩) hS (fun _ _ h9 => Or.inl h9) (fun _ h9 => Or.inl h9) (fun r_273 ws_274 U8 H_278 locs_279 ht hvm hu_277 hB hz1 hk1 hS1 => ?_)
          obtain ⟨hr_275, hc_276⟩ := hu_277
          replace hB : va_P D vwCl ws_274 U8.heap := hB
          rw [ht] at hB
          replace hPa := aP_keep hPa hdB hAB hk1
          clear hPw hS
          have hPw := hB
          have hS := hS1
          clear hB hS1 hz1 hk1 hvm ht U8
          have hv9 : er (k_lineChar M_272 (nI aw) (nI (6 + n9))) (r_lineChar M_272 (nI aw) (nI (6 + n9))) = nI (48 + T 7 aw % 2) := by exact hR_272.lchK hM_272 (by omega) (by omega) hn9 hl9 (k := 5) (by decide) (by omega) rfl
          rw [hv9] at hr_275
          clear hv9
          subst hr_275
          have hn_280 : ∀ f, f ∉ [33, 34] → (g_line M_272 (nI aw)) f = M_272 f := g_line_nf M_272 (nI aw)
          have hM_280 : MI (g_line M_272 (nI aw)) := MI_line hM_272 (nI aw)
          have hLB_280 : m_LB (g_line M_272 (nI aw)) := (LB_line (nI aw)).1 hLB_272
          have h15_280 : (g_line M_272 (nI aw)) 15 0 ≤ n15 := by rw [hn_280 15 (by decide)]; exact h15_272
          have hR_280 : LR (g_line M_272 (nI aw)) T := hR_272.ln hn_280
          have g4_280 := hR_280.1.2.2.2.2
          generalize g_line M_272 (nI aw) = M_280 at hn_280 hM_280 hLB_280 h15_280 hR_280 g4_280 hc_276
          have g3_280 : M_280 3 0 ≤ 2 := hR_280.1.2.2.1
          clear hn_280
          clear hc_268 hM_272 hLB_272 h15_272 hR_272 g4_272 g3_272 ws_266 M_272
          refine lv_bipush (v := nI 48) hx hb dL_isLine_216 (by decide) ?_
          refine lv_iload hx hb dL_isLine_218 (lv_at hl 1 rfl) ?_
          refine lv_iconst (v := nI 1) hx hb dL_isLine_220 (by decide) ?_
          refine lv_iand hx hb dL_isLine_221 ?_
          rw [show (nI (T 7 aw)) &&& (nI 1) = nI ((T 7 aw) % 2) from n_andK (k := 1) (by have f1 := haw; have f2 : T 7 aw ≤ 16777215 := hT.1 7 aw; omega) (by decide) (by decide) rfl]
          refine n_iadd hx hb dL_isLine_222 (z := 48 + ((T 7 aw) % 2)) rfl ?_
          refine n_icmp_ne (tgt := 324) hx hb dL_isLine_223 (by decide) (by have f1 : T 7 aw ≤ 16777215 := hT.1 7 aw; omega) (by have f1 := haw; have f2 : T 7 aw ≤ 16777215 := hT.1 7 aw; omega) (fun c_281 => absurd (by omega) c_281) (fun c_281 => ?_)
          refine lv_aload_n hx hb dL_isLine_226 rfl (lv_at hl 3 rfl) ?_
          refine lv_iload_n hx hb dL_isLine_227 rfl (lv_at hl 4 rfl) ?_
          refine lv_bipush (v := nI 7) hx hb dL_isLine_228 (by decide) ?_
          refine lv_iload hx hb dL_isLine_230 (lv_at hl 2 rfl) ?_
          refine n_iadd hx hb dL_isLine_232 (z := 7 + n9) rfl ?_
          refine va_calli (vx_runSW (As := [.ref h, .int (nI aw), .int (nI (7 + n9))]) (rest := []) ⟨hx, hb, hml, hown, hts⟩ (cw_lineChar l hst D cI cO cb eA mi st dO dT vF ws_274 hc_276 hM_280 hsI (nI aw) (nI (7 + n9))) (vx_cwSW 3 hts gL_isLine_L_lineChar rfl rfl rfl kd_L_lineChar ⟨Nat.le_of_ble_eq_true rfl, Nat.le_of_ble_eq_true rfl⟩) ⟨kB_blind, kB_pre hK hG hGT hN (fun q h9 => Or.inl h9) hS (fun q h9 => hA q (Nat.le_trans hS.1 h9)) hPw _⟩ rfl rfl hl.1 rfl (lv_room (Nat.le_of_ble_eq_true rfl)) dL_isLine_233 ⟨by show 31 + 4 ≤ 55; omega, by show 250 + 32 ≤ 442; omega⟩) hS (fun _ _ h9 => Or.inl h9) (fun _ h9 => Or.inl h9) (fun r_282 ws_283 U8 H_287 locs_288 ht hvm hu_286 hB hz1 hk1 hS1 => ?_)
          obtain ⟨hr_284, hc_285⟩ := hu_286
          replace hB : va_P D vwCl ws_283 U8.heap := hB
          rw [ht] at hB
          replace hPa := aP_keep hPa hdB hAB hk1
          clear hPw hS
          have hPw := hB
          have hS := hS1
          clear hB hS1 hz1 hk1 hvm ht U8
          have hv9 : er (k_lineChar M_280 (nI aw) (nI (7 + n9))) (r_lineChar M_280 (nI aw) (nI (7 + n9))) = nI 32 := by exact hR_280.lchK hM_280 (by omega) (by omega) hn9 hl9 (k := 6) (by decide) (by omega) rfl
          rw [hv9] at hr_284
          clear hv9
          subst hr_284
          have hn_289 : ∀ f, f ∉ [33, 34] → (g_line M_280 (nI aw)) f = M_280 f := g_line_nf M_280 (nI aw)
          have hM_289 : MI (g_line M_280 (nI aw)) := MI_line hM_280 (nI aw)
          have hLB_289 : m_LB (g_line M_280 (nI aw)) := (LB_line (nI aw)).1 hLB_280
          have h15_289 : (g_line M_280 (nI aw)) 15 0 ≤ n15 := by rw [hn_289 15 (by decide)]; exact h15_280
          have hR_289 : LR (g_line M_280 (nI aw)) T := hR_280.ln hn_289
          have g4_289 := hR_289.1.2.2.2.2
          generalize g_line M_280 (nI aw) = M_289 at hn_289 hM_289 hLB_289 h15_289 hR_289 g4_289 hc_285
          have g3_289 : M_289 3 0 ≤ 2 := hR_289.1.2.2.1
          clear hn_289
          clear hc_276 hM_280 hLB_280 h15_280 hR_280 g4_280 g3_280 ws_274 M_280
          refine lv_bipush (v := nI 32) hx hb dL_isLine_236 (by decide) ?_
          refine n_icmp_ne (tgt := 324) hx hb dL_isLine_238 (by decide) (by decide) (by decide) (fun c9 => absurd c9 (by decide)) (fun _ => ?_)
          refine lv_aload_n hx hb dL_isLine_241 rfl (lv_at hl 3 rfl) ?_
          refine lv_iload_n hx hb dL_isLine_242 rfl (lv_at hl 4 rfl) ?_
          refine lv_bipush (v := nI 8) hx hb dL_isLine_243 (by decide) ?_
          refine lv_iload hx hb dL_isLine_245 (lv_at hl 2 rfl) ?_
          refine n_iadd hx hb dL_isLine_247 (z := 8 + n9) rfl ?_
          refine va_calli (vx_runSW (As := [.ref h, .int (nI aw), .int (nI (8 + n9))]) (rest := []) ⟨hx, hb, hml, hown, hts⟩ (cw_lineChar l hst D cI cO cb eA mi st dO dT vF ws_283 hc_285 hM_289 hsI (nI aw) (nI (8 + n9))) (vx_cwSW 3 hts gL_isLine_L_lineChar rfl rfl rfl kd_L_lineChar ⟨Nat.le_of_ble_eq_true rfl, Nat.le_of_ble_eq_true rfl⟩) ⟨kB_blind, kB_pre hK hG hGT hN (fun q h9 => Or.inl h9) hS (fun q h9 => hA q (Nat.le_trans hS.1 h9)) hPw _⟩ rfl rfl hl.1 rfl (lv_room (Nat.le_of_ble_eq_true rfl)) dL_isLine_248 ⟨by show 35 + 4 ≤ 55; omega, by show 282 + 32 ≤ 442; omega⟩) hS (fun _ _ h9 => Or.inl h9) (fun _ h9 => Or.inl h9) (fun r_290 ws_291 U8 H_295 locs_296 ht hvm hu_294 hB hz1 hk1 hS1 => ?_)
          obtain ⟨hr_292, hc_293⟩ := hu_294
          replace hB : va_P D vwCl ws_291 U8.heap := hB
          rw [ht] at hB
          replace hPa := aP_keep hPa hdB hAB hk1
          clear hPw hS
          have hPw := hB
          have hS := hS1
          clear hB hS1 hz1 hk1 hvm ht U8
          have hv9 : er (k_lineChar M_289 (nI aw) (nI (8 + n9))) (r_lineChar M_289 (nI aw) (nI (8 + n9))) = nI 66 := by exact hR_289.lchK hM_289 (by omega) (by omega) hn9 hl9 (k := 7) (by decide) (by omega) rfl
          rw [hv9] at hr_292
          clear hv9
          subst hr_292
          have hn_297 : ∀ f, f ∉ [33, 34] → (g_line M_289 (nI aw)) f = M_289 f := g_line_nf M_289 (nI aw)
          have hM_297 : MI (g_line M_289 (nI aw)) := MI_line hM_289 (nI aw)
          have hLB_297 : m_LB (g_line M_289 (nI aw)) := (LB_line (nI aw)).1 hLB_289
          have h15_297 : (g_line M_289 (nI aw)) 15 0 ≤ n15 := by rw [hn_297 15 (by decide)]; exact h15_289
          have hR_297 : LR (g_line M_289 (nI aw)) T := hR_289.ln hn_297
          have g4_297 := hR_297.1.2.2.2.2
          generalize g_line M_289 (nI aw) = M_297 at hn_297 hM_297 hLB_297 h15_297 hR_297 g4_297 hc_293
          have g3_297 : M_297 3 0 ≤ 2 := hR_297.1.2.2.1
          clear hn_297
          clear hc_285 hM_289 hLB_289 h15_289 hR_289 g4_289 g3_289 ws_283 M_289
          refine lv_bipush (v := nI 66) hx hb dL_isLine_251 (by decide) ?_
          refine n_icmp_ne (tgt := 324) hx hb dL_isLine_253 (by decide) (by decide) (by decide) (fun c9 => absurd c9 (by decide)) (fun _ => ?_)
          refine lv_aload_n hx hb dL_isLine_256 rfl (lv_at hl 3 rfl) ?_
          refine lv_iload_n hx hb dL_isLine_257 rfl (lv_at hl 4 rfl) ?_
          refine lv_bipush (v := nI 9) hx hb dL_isLine_258 (by decide) ?_
          refine lv_iload hx hb dL_isLine_260 (lv_at hl 2 rfl) ?_
          refine n_iadd hx hb dL_isLine_262 (z := 9 + n9) rfl ?_
          refine va_calli (vx_runSW (As := [.ref h, .int (nI aw), .int (nI (9 + n9))]) (rest := []) ⟨hx, hb, hml, hown, hts⟩ (cw_lineChar l hst D cI cO cb eA mi st dO dT vF ws_291 hc_293 hM_297 hsI (nI aw) (nI (9 + n9))) (vx_cwSW 3 hts gL_isLine_L_lineChar rfl rfl rfl kd_L_lineChar ⟨Nat.le_of_ble_eq_true rfl, Nat.le_of_ble_eq_true rfl⟩) ⟨kB_blind, kB_pre hK hG hGT hN (fun q h9 => Or.inl h9) hS (fun q h9 => hA q (Nat.le_trans hS.1 h9)) hPw _⟩ rfl rfl hl.1 rfl (lv_room (Nat.le_of_ble_eq_true rfl)) dL_isLine_263 ⟨by show 39 + 4 ≤ 55; omega, by show 314 + 32 ≤ 442; omega⟩) hS (fun _ _ h9 => Or.inl h9) (fun _ h9 => Or.inl h9) (fun r_298 ws_299 U8 H_303 locs_304 ht hvm hu_302 hB hz1 hk1 hS1 => ?_)
          obtain ⟨hr_300, hc_301⟩ := hu_302
          replace hB : va_P D vwCl ws_299 U8.heap := hB
          rw [ht] at hB
          replace hPa := aP_keep hPa hdB hAB hk1
          clear hPw hS
          have hPw := hB
          have hS := hS1
          clear hB hS1 hz1 hk1 hvm ht U8
          have hv9 : er (k_lineChar M_297 (nI aw) (nI (9 + n9))) (r_lineChar M_297 (nI aw) (nI (9 + n9))) = nI (48 + T 7 aw / 4 % 4) := by exact hR_297.lchK hM_297 (by omega) (by omega) hn9 hl9 (k := 8) (by decide) (by omega) rfl
          rw [hv9] at hr_300
          clear hv9
          subst hr_300
          have hn_305 : ∀ f, f ∉ [33, 34] → (g_line M_297 (nI aw)) f = M_297 f := g_line_nf M_297 (nI aw)
          have hM_305 : MI (g_line M_297 (nI aw)) := MI_line hM_297 (nI aw)
          have hLB_305 : m_LB (g_line M_297 (nI aw)) := (LB_line (nI aw)).1 hLB_297
          have h15_305 : (g_line M_297 (nI aw)) 15 0 ≤ n15 := by rw [hn_305 15 (by decide)]; exact h15_297
          have hR_305 : LR (g_line M_297 (nI aw)) T := hR_297.ln hn_305
          have g4_305 := hR_305.1.2.2.2.2
          generalize g_line M_297 (nI aw) = M_305 at hn_305 hM_305 hLB_305 h15_305 hR_305 g4_305 hc_301
          have g3_305 : M_305 3 0 ≤ 2 := hR_305.1.2.2.1
          clear hn_305
          clear hc_293 hM_297 hLB_297 h15_297 hR_297 g4_297 g3_297 ws_291 M_297
          refine lv_bipush (v := nI 48) hx hb dL_isLine_266 (by decide) ?_
          refine lv_iload hx hb dL_isLine_268 (lv_at hl 1 rfl) ?_
          refine lv_iconst (v := nI 2) hx hb dL_isLine_270 (by decide) ?_
          refine lv_ishr hx hb dL_isLine_271 ?_
          rw [show (nI (T 7 aw)) >>> ((nI 2) &&& 31) = nI ((T 7 aw) / 4) from n_shrK (by have f1 := haw; have f2 : T 7 aw ≤ 16777215 := hT.1 7 aw; omega) (by decide) rfl]
          refine lv_iconst (v := nI 3) hx hb dL_isLine_272 (by decide) ?_
          refine lv_iand hx hb dL_isLine_273 ?_
          rw [show (nI ((T 7 aw) / 4)) &&& (nI 3) = nI (((T 7 aw) / 4) % 4) from n_andK (k := 2) (by have f1 := haw; have f2 : T 7 aw ≤ 16777215 := hT.1 7 aw; omega) (by decide) (by decide) rfl]
          refine n_iadd hx hb dL_isLine_274 (z := 48 + (((T 7 aw) / 4) % 4)) rfl ?_
          refine n_icmp_ne (tgt := 324) hx hb dL_isLine_275 (by decide) (by have f1 : T 7 aw ≤ 16777215 := hT.1 7 aw; omega) (by have f1 := haw; have f2 : T 7 aw ≤ 16777215 := hT.1 7 aw; omega) (fun c_306 => absurd (by omega) c_306) (fun c_306 => ?_)
          refine lv_aload_n hx hb dL_isLine_278 rfl (lv_at hl 3 rfl) ?_
          refine lv_iload_n hx hb dL_isLine_279 rfl (lv_at hl 4 rfl) ?_
          refine lv_bipush (v := nI 10) hx hb dL_isLine_280 (by decide) ?_
          refine lv_iload hx hb dL_isLine_282 (lv_at hl 2 rfl) ?_
          refine n_iadd hx hb dL_isLine_284 (z := 10 + n9) rfl ?_
          refine va_calli (vx_runSW (As := [.ref h, .int (nI aw), .int (nI (10 + n9))]) (rest := []) ⟨hx, hb, hml, hown, hts⟩ (cw_lineChar l hst D cI cO cb eA mi st dO dT vF ws_299 hc_301 hM_305 hsI (nI aw) (nI (10 + n9))) (vx_cwSW 3 hts gL_isLine_L_lineChar rfl rfl rfl kd_L_lineChar ⟨Nat.le_of_ble_eq_true rfl, Nat.le_of_ble_eq_true rfl⟩) ⟨kB_blind, kB_pre hK hG hGT hN (fun q h9 => Or.inl h9) hS (fun q h9 => hA q (Nat.le_trans hS.1 h9)) hPw _⟩ rfl rfl hl.1 rfl (lv_room (Nat.le_of_ble_eq_true rfl)) dL_isLine_285 ⟨by show 43 + 4 ≤ 55; omega, by show 346 + 32 ≤ 442; omega⟩) hS (fun _ _ h9 => Or.inl h9) (fun _ h9 => Or.inl h9) (fun r_307 ws_308 U8 H_312 locs_313 ht hvm hu_311 hB hz1 hk1 hS1 => ?_)
          obtain ⟨hr_309, hc_310⟩ := hu_311
          replace hB : va_P D vwCl ws_308 U8.heap := hB
          rw [ht] at hB
          replace hPa := aP_keep hPa hdB hAB hk1
          clear hPw hS
          have hPw := hB
          have hS := hS1
          clear hB hS1 hz1 hk1 hvm ht U8
          have hv9 : er (k_lineChar M_305 (nI aw) (nI (10 + n9))) (r_lineChar M_305 (nI aw) (nI (10 + n9))) = nI l9 := by exact hR_305.lchL hM_305 (by omega) (by omega) hn9 hl9 hlp
          rw [hv9] at hr_309
          clear hv9
          subst hr_309
          have hn_314 : ∀ f, f ∉ [33, 34] → (g_line M_305 (nI aw)) f = M_305 f := g_line_nf M_305 (nI aw)
          have hM_314 : MI (g_line M_305 (nI aw)) := MI_line hM_305 (nI aw)
          have hLB_314 : m_LB (g_line M_305 (nI aw)) := (LB_line (nI aw)).1 hLB_305
          have h15_314 : (g_line M_305 (nI aw)) 15 0 ≤ n15 := by rw [hn_314 15 (by decide)]; exact h15_305
          have hR_314 : LR (g_line M_305 (nI aw)) T := hR_305.ln hn_314
          have g4_314 := hR_314.1.2.2.2.2
          generalize g_line M_305 (nI aw) = M_314 at hn_314 hM_314 hLB_314 h15_314 hR_314 g4_314 hc_310
          have g3_314 : M_314 3 0 ≤ 2 := hR_314.1.2.2.1
          clear hn_314
          clear hc_301 hM_305 hLB_305 h15_305 hR_305 g4_305 g3_305 ws_299 M_305
          refine lv_iload hx hb dL_isLine_288 (lv_at hl 0 rfl) ?_
          refine n_if_le (tgt := 298) hx hb dL_isLine_290 (by decide) (by have f1 := hl86; omega) (fun c_315 => ?_) (fun c_315 => ?_)
          · exfalso; omega
          · refine lv_iload hx hb dL_isLine_293 (lv_at hl 0 rfl) ?_
            refine lv_goto (tgt := 301) hx hb dL_isLine_295 (by decide) ?_
            refine n_icmp_ne (tgt := 324) hx hb dL_isLine_301 (by decide) (by have f1 := hl86; omega) (by have f1 := hl86; omega) (fun c_316 => absurd (by omega) c_316) (fun c_316 => ?_)
            refine lv_aload_n hx hb dL_isLine_304 rfl (lv_at hl 3 rfl) ?_
            refine lv_iload_n hx hb dL_isLine_305 rfl (lv_at hl 4 rfl) ?_
            refine lv_bipush (v := nI 11) hx hb dL_isLine_306 (by decide) ?_
            refine lv_iload hx hb dL_isLine_308 (lv_at hl 2 rfl) ?_
            refine n_iadd hx hb dL_isLine_310 (z := 11 + n9) rfl ?_
            refine va_calli (vx_runSW (As := [.ref h, .int (nI aw), .int (nI (11 + n9))]) (rest := []) ⟨hx, hb, hml, hown, hts⟩ (cw_lineChar l hst D cI cO cb eA mi st dO dT vF ws_308 hc_310 hM_314 hsI (nI aw) (nI (11 + n9))) (vx_cwSW 3 hts gL_isLine_L_lineChar rfl rfl rfl kd_L_lineChar ⟨Nat.le_of_ble_eq_true rfl, Nat.le_of_ble_eq_true rfl⟩) ⟨kB_blind, kB_pre hK hG hGT hN (fun q h9 => Or.inl h9) hS (fun q h9 => hA q (Nat.le_trans hS.1 h9)) hPw _⟩ rfl rfl hl.1 rfl (lv_room (Nat.le_of_ble_eq_true rfl)) dL_isLine_311 ⟨by show 47 + 4 ≤ 55; omega, by show 378 + 32 ≤ 442; omega⟩) hS (fun _ _ h9 => Or.inl h9) (fun _ h9 => Or.inl h9) (fun r_317 ws_318 U8 H_322 locs_323 ht hvm hu_321 hB hz1 hk1 hS1 => ?_)
            obtain ⟨hr_319, hc_320⟩ := hu_321
            replace hB : va_P D vwCl ws_318 U8.heap := hB
            rw [ht] at hB
            replace hPa := aP_keep hPa hdB hAB hk1
            clear hPw hS
            have hPw := hB
            have hS := hS1
            clear hB hS1 hz1 hk1 hvm ht U8
            have hk_324 : k_lineChar M_314 (nI aw) (nI (11 + n9)) = 1 := by exact hR_314.lchE hM_314 (by omega) (by omega) hn9 hl9 (by omega) (Or.inl (by omega))
            rw [hk_324] at hr_319
            replace hr_319 : r_317 = (-7100) := hr_319
            subst hr_319
            clear hk_324
            have hn_325 : ∀ f, f ∉ [33, 34] → (g_line M_314 (nI aw)) f = M_314 f := g_line_nf M_314 (nI aw)
            have hM_325 : MI (g_line M_314 (nI aw)) := MI_line hM_314 (nI aw)
            have hLB_325 : m_LB (g_line M_314 (nI aw)) := (LB_line (nI aw)).1 hLB_314
            have h15_325 : (g_line M_314 (nI aw)) 15 0 ≤ n15 := by rw [hn_325 15 (by decide)]; exact h15_314
            have hR_325 : LR (g_line M_314 (nI aw)) T := hR_314.ln hn_325
            have g4_325 := hR_325.1.2.2.2.2
            generalize g_line M_314 (nI aw) = M_325 at hn_325 hM_325 hLB_325 h15_325 hR_325 g4_325 hc_320
            have g3_325 : M_325 3 0 ≤ 2 := hR_325.1.2.2.1
            clear hn_325
            clear hc_310 hM_314 hLB_314 h15_314 hR_314 g4_314 g3_314 ws_308 M_314
            refine lv_sipush (v := (-7100)) hx hb dL_isLine_314 (by decide) ?_
            refine lv_icmp_ne (tgt := 324) hx hb dL_isLine_317 (by decide)  (fun c9 => absurd c9 (by decide)) (fun _ => ?_)
            refine lv_iconst (v := nI 1) hx hb dL_isLine_320 (by decide) ?_
            refine lv_goto (tgt := 325) hx hb dL_isLine_321 (by decide) ?_
            refine W.widen (k := 55) (n := 442) (by omega) (by omega) ?_
            exact W.zret (v := nI 1) hx hb hr rfl (fun U9 ht9 hW9 => ⟨⟨_, (ws_318, M_325), rfl, ⟨rfl, hc_320, hM_325, hLB_325, h15_325, hR_325⟩, by show va_P D vwCl _ U9.heap ∧ va_P D vwCl _ U9.heap; rw [ht9]; exact ⟨hPw, hPa⟩⟩, hS.F ht9⟩) hS.2.2 dL_isLine_325
        · refine lv_aload_n hx hb dL_isLine_106 rfl (lv_at hl 3 rfl) ?_
          refine lv_iload_n hx hb dL_isLine_107 rfl (lv_at hl 4 rfl) ?_
          refine lv_iconst (v := nI 1) hx hb dL_isLine_108 (by decide) ?_
          refine va_calli (vx_runSW (As := [.ref h, .int (nI aw), .int (nI 1)]) (rest := []) ⟨hx, hb, hml, hown, hts⟩ (cw_lineChar l hst D cI cO cb eA mi st dO dT vF ws_223 hc_225 hM_229 hsI (nI aw) (nI 1)) (vx_cwSW 3 hts gL_isLine_L_lineChar rfl rfl rfl kd_L_lineChar ⟨Nat.le_of_ble_eq_true rfl, Nat.le_of_ble_eq_true rfl⟩) ⟨kB_blind, kB_pre hK hG hGT hN (fun q h9 => Or.inl h9) hS (fun q h9 => hA q (Nat.le_trans hS.1 h9)) hPw _⟩ rfl rfl hl.1 rfl (lv_room (Nat.le_of_ble_eq_true rfl)) dL_isLine_109 ⟨by show 7 + 4 ≤ 55; omega, by show 58 + 32 ≤ 442; omega⟩) hS (fun _ _ h9 => Or.inl h9) (fun _ h9 => Or.inl h9) (fun r_326 ws_327 U8 H_331 locs_332 ht hvm hu_330 hB hz1 hk1 hS1 => ?_)
          obtain ⟨hr_328, hc_329⟩ := hu_330
          replace hB : va_P D vwCl ws_327 U8.heap := hB
          rw [ht] at hB
          replace hPa := aP_keep hPa hdB hAB hk1
          clear hPw hS
          have hPw := hB
          have hS := hS1
          clear hB hS1 hz1 hk1 hvm ht U8
          have hv9 : er (k_lineChar M_229 (nI aw) (nI 1)) (r_lineChar M_229 (nI aw) (nI 1)) = nI (48 + aw / 10) := by exact hR_229.lch9 hM_229 (by omega) (by omega) hn9 hl9 (by omega)
          rw [hv9] at hr_328
          clear hv9
          subst hr_328
          have hn_333 : ∀ f, f ∉ [33, 34] → (g_line M_229 (nI aw)) f = M_229 f := g_line_nf M_229 (nI aw)
          have hM_333 : MI (g_line M_229 (nI aw)) := MI_line hM_229 (nI aw)
          have hLB_333 : m_LB (g_line M_229 (nI aw)) := (LB_line (nI aw)).1 hLB_229
          have h15_333 : (g_line M_229 (nI aw)) 15 0 ≤ n15 := by rw [hn_333 15 (by decide)]; exact h15_229
          have hR_333 : LR (g_line M_229 (nI aw)) T := hR_229.ln hn_333
          have g4_333 := hR_333.1.2.2.2.2
          generalize g_line M_229 (nI aw) = M_333 at hn_333 hM_333 hLB_333 h15_333 hR_333 g4_333 hc_329
          have g3_333 : M_333 3 0 ≤ 2 := hR_333.1.2.2.1
          clear hn_333
          clear hc_225 hM_229 hLB_229 h15_229 hR_229 g4_229 g3_229 ws_223 M_229
          refine lv_bipush (v := nI 48) hx hb dL_isLine_112 (by decide) ?_
          refine lv_iload_n hx hb dL_isLine_114 rfl (lv_at hl 4 rfl) ?_
          refine lv_bipush (v := nI 10) hx hb dL_isLine_115 (by decide) ?_
          refine n_idiv hx hb dL_isLine_117 (z := aw / 10) (by have f1 := haw; omega) (by decide) (by decide) rfl ?_
          refine n_iadd hx hb dL_isLine_118 (z := 48 + (aw / 10)) rfl ?_
          refine n_icmp_ne (tgt := 169) hx hb dL_isLine_119 (by decide) (by have f1 := haw; have f2 := hT2.2.2.1; omega) (by have f1 := haw; omega) (fun c_334 => absurd (by omega) c_334) (fun c_334 => ?_)
          refine lv_aload_n hx hb dL_isLine_122 rfl (lv_at hl 3 rfl) ?_
          refine lv_iload_n hx hb dL_isLine_123 rfl (lv_at hl 4 rfl) ?_
          refine lv_iconst (v := nI 1) hx hb dL_isLine_124 (by decide) ?_
          refine lv_iload hx hb dL_isLine_125 (lv_at hl 2 rfl) ?_
          refine n_iadd hx hb dL_isLine_127 (z := 1 + n9) rfl ?_
          refine va_calli (vx_runSW (As := [.ref h, .int (nI aw), .int (nI (1 + n9))]) (rest := []) ⟨hx, hb, hml, hown, hts⟩ (cw_lineChar l hst D cI cO cb eA mi st dO dT vF ws_327 hc_329 hM_333 hsI (nI aw) (nI (1 + n9))) (vx_cwSW 3 hts gL_isLine_L_lineChar rfl rfl rfl kd_L_lineChar ⟨Nat.le_of_ble_eq_true rfl, Nat.le_of_ble_eq_true rfl⟩) ⟨kB_blind, kB_pre hK hG hGT hN (fun q h9 => Or.inl h9) hS (fun q h9 => hA q (Nat.le_trans hS.1 h9)) hPw _⟩ rfl rfl hl.1 rfl (lv_room (Nat.le_of_ble_eq_true rfl)) dL_isLine_128 ⟨by show 11 + 4 ≤ 55; omega, by show 90 + 32 ≤ 442; omega⟩) hS (fun _ _ h9 => Or.inl h9) (fun _ h9 => Or.inl h9) (fun r_335 ws_336 U8 H_340 locs_341 ht hvm hu_339 hB hz1 hk1 hS1 => ?_)
          obtain ⟨hr_337, hc_338⟩ := hu_339
          replace hB : va_P D vwCl ws_336 U8.heap := hB
          rw [ht] at hB
          replace hPa := aP_keep hPa hdB hAB hk1
          clear hPw hS
          have hPw := hB
          have hS := hS1
          clear hB hS1 hz1 hk1 hvm ht U8
          have hv9 : er (k_lineChar M_333 (nI aw) (nI (1 + n9))) (r_lineChar M_333 (nI aw) (nI (1 + n9))) = nI (48 + aw % 10) := by exact hR_333.lchK hM_333 (by omega) (by omega) hn9 hl9 (k := 0) (by decide) (by omega) rfl
          rw [hv9] at hr_337
          clear hv9
          subst hr_337
          have hn_342 : ∀ f, f ∉ [33, 34] → (g_line M_333 (nI aw)) f = M_333 f := g_line_nf M_333 (nI aw)
          have hM_342 : MI (g_line M_333 (nI aw)) := MI_line hM_333 (nI aw)
          have hLB_342 : m_LB (g_line M_333 (nI aw)) := (LB_line (nI aw)).1 hLB_333
          have h15_342 : (g_line M_333 (nI aw)) 15 0 ≤ n15 := by rw [hn_342 15 (by decide)]; exact h15_333
          have hR_342 : LR (g_line M_333 (nI aw)) T := hR_333.ln hn_342
          have g4_342 := hR_342.1.2.2.2.2
          generalize g_line M_333 (nI aw) = M_342 at hn_342 hM_342 hLB_342 h15_342 hR_342 g4_342 hc_338
          have g3_342 : M_342 3 0 ≤ 2 := hR_342.1.2.2.1
          clear hn_342
          clear hc_329 hM_333 hLB_333 h15_333 hR_333 g4_333 g3_333 ws_327 M_333
          refine lv_bipush (v := nI 48) hx hb dL_isLine_131 (by decide) ?_
          refine lv_iload_n hx hb dL_isLine_133 rfl (lv_at hl 4 rfl) ?_
          refine lv_bipush (v := nI 10) hx hb dL_isLine_134 (by decide) ?_
          refine n_irem hx hb dL_isLine_136 (z := aw % 10) (by have f1 := haw; omega) (by decide) (by decide) rfl ?_
          refine n_iadd hx hb dL_isLine_137 (z := 48 + (aw % 10)) rfl ?_
          refine n_icmp_ne (tgt := 169) hx hb dL_isLine_138 (by decide) (by have f1 := haw; have f2 := hT2.2.2.1; omega) (by have f1 := haw; omega) (fun c_343 => absurd (by omega) c_343) (fun c_343 => ?_)
          refine lv_aload_n hx hb dL_isLine_141 rfl (lv_at hl 3 rfl) ?_
          refine lv_iload_n hx hb dL_isLine_142 rfl (lv_at hl 4 rfl) ?_
          refine lv_iconst (v := nI 2) hx hb dL_isLine_143 (by decide) ?_
          refine lv_iload hx hb dL_isLine_144 (lv_at hl 2 rfl) ?_
          refine n_iadd hx hb dL_isLine_146 (z := 2 + n9) rfl ?_
          refine va_calli (vx_runSW (As := [.ref h, .int (nI aw), .int (nI (2 + n9))]) (rest := []) ⟨hx, hb, hml, hown, hts⟩ (cw_lineChar l hst D cI cO cb eA mi st dO dT vF ws_336 hc_338 hM_342 hsI (nI aw) (nI (2 + n9))) (vx_cwSW 3 hts gL_isLine_L_lineChar rfl rfl rfl kd_L_lineChar ⟨Nat.le_of_ble_eq_true rfl, Nat.le_of_ble_eq_true rfl⟩) ⟨kB_blind, kB_pre hK hG hGT hN (fun q h9 => Or.inl h9) hS (fun q h9 => hA q (Nat.le_trans hS.1 h9)) hPw _⟩ rfl rfl hl.1 rfl (lv_room (Nat.le_of_ble_eq_true rfl)) dL_isLine_147 ⟨by show 15 + 4 ≤ 55; omega, by show 122 + 32 ≤ 442; omega⟩) hS (fun _ _ h9 => Or.inl h9) (fun _ h9 => Or.inl h9) (fun r_344 ws_345 U8 H_349 locs_350 ht hvm hu_348 hB hz1 hk1 hS1 => ?_)
          obtain ⟨hr_346, hc_347⟩ := hu_348
          replace hB : va_P D vwCl ws_345 U8.heap := hB
          rw [ht] at hB
          replace hPa := aP_keep hPa hdB hAB hk1
          clear hPw hS
          have hPw := hB
          have hS := hS1
          clear hB hS1 hz1 hk1 hvm ht U8
          have hv9 : er (k_lineChar M_342 (nI aw) (nI (2 + n9))) (r_lineChar M_342 (nI aw) (nI (2 + n9))) = nI 32 := by exact hR_342.lchK hM_342 (by omega) (by omega) hn9 hl9 (k := 1) (by decide) (by omega) rfl
          rw [hv9] at hr_346
          clear hv9
          subst hr_346
          have hn_351 : ∀ f, f ∉ [33, 34] → (g_line M_342 (nI aw)) f = M_342 f := g_line_nf M_342 (nI aw)
          have hM_351 : MI (g_line M_342 (nI aw)) := MI_line hM_342 (nI aw)
          have hLB_351 : m_LB (g_line M_342 (nI aw)) := (LB_line (nI aw)).1 hLB_342
          have h15_351 : (g_line M_342 (nI aw)) 15 0 ≤ n15 := by rw [hn_351 15 (by decide)]; exact h15_342
          have hR_351 : LR (g_line M_342 (nI aw)) T := hR_342.ln hn_351
          have g4_351 := hR_351.1.2.2.2.2
          generalize g_line M_342 (nI aw) = M_351 at hn_351 hM_351 hLB_351 h15_351 hR_351 g4_351 hc_347
          have g3_351 : M_351 3 0 ≤ 2 := hR_351.1.2.2.1
          clear hn_351
          clear hc_338 hM_342 hLB_342 h15_342 hR_342 g4_342 g3_342 ws_336 M_342
          refine lv_bipush (v := nI 32) hx hb dL_isLine_150 (by decide) ?_
          refine n_icmp_ne (tgt := 169) hx hb dL_isLine_152 (by decide) (by decide) (by decide) (fun c9 => absurd c9 (by decide)) (fun _ => ?_)
          refine lv_aload_n hx hb dL_isLine_155 rfl (lv_at hl 3 rfl) ?_
          refine lv_iload_n hx hb dL_isLine_156 rfl (lv_at hl 4 rfl) ?_
          refine lv_iconst (v := nI 3) hx hb dL_isLine_157 (by decide) ?_
          refine lv_iload hx hb dL_isLine_158 (lv_at hl 2 rfl) ?_
          refine n_iadd hx hb dL_isLine_160 (z := 3 + n9) rfl ?_
          refine va_calli (vx_runSW (As := [.ref h, .int (nI aw), .int (nI (3 + n9))]) (rest := []) ⟨hx, hb, hml, hown, hts⟩ (cw_lineChar l hst D cI cO cb eA mi st dO dT vF ws_345 hc_347 hM_351 hsI (nI aw) (nI (3 + n9))) (vx_cwSW 3 hts gL_isLine_L_lineChar rfl rfl rfl kd_L_lineChar ⟨Nat.le_of_ble_eq_true rfl, Nat.le_of_ble_eq_true rfl⟩) ⟨kB_blind, kB_pre hK hG hGT hN (fun q h9 => Or.inl h9) hS (fun q h9 => hA q (Nat.le_trans hS.1 h9)) hPw _⟩ rfl rfl hl.1 rfl (lv_room (Nat.le_of_ble_eq_true rfl)) dL_isLine_161 ⟨by show 19 + 4 ≤ 55; omega, by show 154 + 32 ≤ 442; omega⟩) hS (fun _ _ h9 => Or.inl h9) (fun _ h9 => Or.inl h9) (fun r_352 ws_353 U8 H_357 locs_358 ht hvm hu_356 hB hz1 hk1 hS1 => ?_)
          obtain ⟨hr_354, hc_355⟩ := hu_356
          replace hB : va_P D vwCl ws_353 U8.heap := hB
          rw [ht] at hB
          replace hPa := aP_keep hPa hdB hAB hk1
          clear hPw hS
          have hPw := hB
          have hS := hS1
          clear hB hS1 hz1 hk1 hvm ht U8
          have hv9 : er (k_lineChar M_351 (nI aw) (nI (3 + n9))) (r_lineChar M_351 (nI aw) (nI (3 + n9))) = nI 84 := by exact hR_351.lchK hM_351 (by omega) (by omega) hn9 hl9 (k := 2) (by decide) (by omega) rfl
          rw [hv9] at hr_354
          clear hv9
          subst hr_354
          have hn_359 : ∀ f, f ∉ [33, 34] → (g_line M_351 (nI aw)) f = M_351 f := g_line_nf M_351 (nI aw)
          have hM_359 : MI (g_line M_351 (nI aw)) := MI_line hM_351 (nI aw)
          have hLB_359 : m_LB (g_line M_351 (nI aw)) := (LB_line (nI aw)).1 hLB_351
          have h15_359 : (g_line M_351 (nI aw)) 15 0 ≤ n15 := by rw [hn_359 15 (by decide)]; exact h15_351
          have hR_359 : LR (g_line M_351 (nI aw)) T := hR_351.ln hn_359
          have g4_359 := hR_359.1.2.2.2.2
          generalize g_line M_351 (nI aw) = M_359 at hn_359 hM_359 hLB_359 h15_359 hR_359 g4_359 hc_355
          have g3_359 : M_359 3 0 ≤ 2 := hR_359.1.2.2.1
          clear hn_359
          clear hc_347 hM_351 hLB_351 h15_351 hR_351 g4_351 g3_351 ws_345 M_351
          refine lv_bipush (v := nI 84) hx hb dL_isLine_164 (by decide) ?_
          refine n_icmp_eq (tgt := 171) hx hb dL_isLine_166 (by decide) (by decide) (by decide) (fun _ => ?_) (fun c9 => absurd c9 (by decide))
          refine lv_aload_n hx hb dL_isLine_171 rfl (lv_at hl 3 rfl) ?_
          refine lv_iload_n hx hb dL_isLine_172 rfl (lv_at hl 4 rfl) ?_
          refine lv_iconst (v := nI 4) hx hb dL_isLine_173 (by decide) ?_
          refine lv_iload hx hb dL_isLine_174 (lv_at hl 2 rfl) ?_
          refine n_iadd hx hb dL_isLine_176 (z := 4 + n9) rfl ?_
          refine va_calli (vx_runSW (As := [.ref h, .int (nI aw), .int (nI (4 + n9))]) (rest := []) ⟨hx, hb, hml, hown, hts⟩ (cw_lineChar l hst D cI cO cb eA mi st dO dT vF ws_353 hc_355 hM_359 hsI (nI aw) (nI (4 + n9))) (vx_cwSW 3 hts gL_isLine_L_lineChar rfl rfl rfl kd_L_lineChar ⟨Nat.le_of_ble_eq_true rfl, Nat.le_of_ble_eq_true rfl⟩) ⟨kB_blind, kB_pre hK hG hGT hN (fun q h9 => Or.inl h9) hS (fun q h9 => hA q (Nat.le_trans hS.1 h9)) hPw _⟩ rfl rfl hl.1 rfl (lv_room (Nat.le_of_ble_eq_true rfl)) dL_isLine_177 ⟨by show 23 + 4 ≤ 55; omega, by show 186 + 32 ≤ 442; omega⟩) hS (fun _ _ h9 => Or.inl h9) (fun _ h9 => Or.inl h9) (fun r_360 ws_361 U8 H_365 locs_366 ht hvm hu_364 hB hz1 hk1 hS1 => ?_)
          obtain ⟨hr_362, hc_363⟩ := hu_364
          replace hB : va_P D vwCl ws_361 U8.heap := hB
          rw [ht] at hB
          replace hPa := aP_keep hPa hdB hAB hk1
          clear hPw hS
          have hPw := hB
          have hS := hS1
          clear hB hS1 hz1 hk1 hvm ht U8
          have hv9 : er (k_lineChar M_359 (nI aw) (nI (4 + n9))) (r_lineChar M_359 (nI aw) (nI (4 + n9))) = nI (48 + T 7 aw % 4 / 2) := by exact hR_359.lchK hM_359 (by omega) (by omega) hn9 hl9 (k := 3) (by decide) (by omega) rfl
          rw [hv9] at hr_362
          clear hv9
          subst hr_362
          have hn_367 : ∀ f, f ∉ [33, 34] → (g_line M_359 (nI aw)) f = M_359 f := g_line_nf M_359 (nI aw)
          have hM_367 : MI (g_line M_359 (nI aw)) := MI_line hM_359 (nI aw)
          have hLB_367 : m_LB (g_line M_359 (nI aw)) := (LB_line (nI aw)).1 hLB_359
          have h15_367 : (g_line M_359 (nI aw)) 15 0 ≤ n15 := by rw [hn_367 15 (by decide)]; exact h15_359
          have hR_367 : LR (g_line M_359 (nI aw)) T := hR_359.ln hn_367
          have g4_367 := hR_367.1.2.2.2.2
          generalize g_line M_359 (nI aw) = M_367 at hn_367 hM_367 hLB_367 h15_367 hR_367 g4_367 hc_363
          have g3_367 : M_367 3 0 ≤ 2 := hR_367.1.2.2.1
          clear hn_367
          clear hc_355 hM_359 hLB_359 h15_359 hR_359 g4_359 g3_359 ws_353 M_359
          refine lv_bipush (v := nI 48) hx hb dL_isLine_180 (by decide) ?_
          refine lv_iload hx hb dL_isLine_182 (lv_at hl 1 rfl) ?_
          refine lv_iconst (v := nI 3) hx hb dL_isLine_184 (by decide) ?_
          refine lv_iand hx hb dL_isLine_185 ?_
          rw [show (nI (T 7 aw)) &&& (nI 3) = nI ((T 7 aw) % 4) from n_andK (k := 2) (by have f1 := haw; have f2 : T 7 aw ≤ 16777215 := hT.1 7 aw; omega) (by decide) (by decide) rfl]
          refine lv_iconst (v := nI 2) hx hb dL_isLine_186 (by decide) ?_
          refine n_idiv hx hb dL_isLine_187 (z := ((T 7 aw) % 4) / 2) (by have f1 := haw; have f2 : T 7 aw ≤ 16777215 := hT.1 7 aw; omega) (by decide) (by decide) rfl ?_
          refine n_iadd hx hb dL_isLine_188 (z := 48 + (((T 7 aw) % 4) / 2)) rfl ?_
          refine n_icmp_ne (tgt := 324) hx hb dL_isLine_189 (by decide) (by have f1 : T 7 aw ≤ 16777215 := hT.1 7 aw; omega) (by have f1 := haw; have f2 : T 7 aw ≤ 16777215 := hT.1 7 aw; omega) (fun c_368 => absurd (by omega) c_368) (fun c_368 => ?_)
          refine lv_aload_n hx hb dL_isLine_192 rfl (lv_at hl 3 rfl) ?_
          refine lv_iload_n hx hb dL_isLine_193 rfl (lv_at hl 4 rfl) ?_
          refine lv_iconst (v := nI 5) hx hb dL_isLine_194 (by decide) ?_
          refine lv_iload hx hb dL_isLine_195 (lv_at hl 2 rfl) ?_
          refine n_iadd hx hb dL_isLine_197 (z := 5 + n9) rfl ?_
          refine va_calli (vx_runSW (As := [.ref h, .int (nI aw), .int (nI (5 + n9))]) (rest := []) ⟨hx, hb, hml, hown, hts⟩ (cw_lineChar l hst D cI cO cb eA mi st dO dT vF ws_361 hc_363 hM_367 hsI (nI aw) (nI (5 + n9))) (vx_cwSW 3 hts gL_isLine_L_lineChar rfl rfl rfl kd_L_lineChar ⟨Nat.le_of_ble_eq_true rfl, Nat.le_of_ble_eq_true rfl⟩) ⟨kB_blind, kB_pre hK hG hGT hN (fun q h9 => Or.inl h9) hS (fun q h9 => hA q (Nat.le_trans hS.1 h9)) hPw _⟩ rfl rfl hl.1 rfl (lv_room (Nat.le_of_ble_eq_true rfl)) dL_isLine_198 ⟨by show 27 + 4 ≤ 55; omega, by show 218 + 32 ≤ 442; omega⟩) hS (fun _ _ h9 => Or.inl h9) (fun _ h9 => Or.inl h9) (fun r_369 ws_370 U8 H_374 locs_375 ht hvm hu_373 hB hz1 hk1 hS1 => ?_)
          obtain ⟨hr_371, hc_372⟩ := hu_373
          replace hB : va_P D vwCl ws_370 U8.heap := hB
          rw [ht] at hB
          replace hPa := aP_keep hPa hdB hAB hk1
          clear hPw hS
          have hPw := hB
          have hS := hS1
          clear hB hS1 hz1 hk1 hvm ht U8
          have hv9 : er (k_lineChar M_367 (nI aw) (nI (5 + n9))) (r_lineChar M_367 (nI aw) (nI (5 + n9))) = nI 76 := by exact hR_367.lchK hM_367 (by omega) (by omega) hn9 hl9 (k := 4) (by decide) (by omega) rfl
          rw [hv9] at hr_371
          clear hv9
          subst hr_371
          have hn_376 : ∀ f, f ∉ [33, 34] → (g_line M_367 (nI aw)) f = M_367 f := g_line_nf M_367 (nI aw)
          have hM_376 : MI (g_line M_367 (nI aw)) := MI_line hM_367 (nI aw)
          have hLB_376 : m_LB (g_line M_367 (nI aw)) := (LB_line (nI aw)).1 hLB_367
          have h15_376 : (g_line M_367 (nI aw)) 15 0 ≤ n15 := by rw [hn_376 15 (by decide)]; exact h15_367
          have hR_376 : LR (g_line M_367 (nI aw)) T := hR_367.ln hn_376
          have g4_376 := hR_376.1.2.2.2.2
          generalize g_line M_367 (nI aw) = M_376 at hn_376 hM_376 hLB_376 h15_376 hR_376 g4_376 hc_372
          have g3_376 : M_376 3 0 ≤ 2 := hR_376.1.2.2.1
          clear hn_376
          clear hc_363 hM_367 hLB_367 h15_367 hR_367 g4_367 g3_367 ws_361 M_367
          refine lv_bipush (v := nI 76) hx hb dL_isLine_201 (by decide) ?_
          refine n_icmp_ne (tgt := 324) hx hb dL_isLine_203 (by decide) (by decide) (by decide) (fun c9 => absurd c9 (by decide)) (fun _ => ?_)
          refine lv_aload_n hx hb dL_isLine_206 rfl (lv_at hl 3 rfl) ?_
          refine lv_iload_n hx hb dL_isLine_207 rfl (lv_at hl 4 rfl) ?_
          refine lv_bipush (v := nI 6) hx hb dL_isLine_208 (by decide) ?_
          refine lv_iload hx hb dL_isLine_210 (lv_at hl 2 rfl) ?_
          refine n_iadd hx hb dL_isLine_212 (z := 6 + n9) rfl ?_
          refine va_calli (vx_runSW (As := [.ref h, .int (nI aw), .int (nI (6 + n9))]) (rest := []) ⟨hx, hb, hml, hown, hts⟩ (cw_lineChar l hst D cI cO cb eA mi st dO dT vF ws_370 hc_372 hM_376 hsI (nI aw) (nI (6 + n9))) (vx_cwSW 3 hts gL_isLine_L_lineChar rfl rfl rfl kd_L_lineChar ⟨Nat.le_of_ble_eq_true rfl, Nat.le_of_ble_eq_true rfl⟩) ⟨kB_blind, kB_pre hK hG hGT hN (fun q h9 => Or.inl h9) hS (fun q h9 => hA q (Nat.le_trans hS.1 h9)) hPw _⟩ rfl rfl hl.1 rfl (lv_room (Nat.le_of_ble_eq_true rfl)) dL_isLine_213 ⟨by show 31 + 4 ≤ 55; omega, by show 250 + 32 ≤ 442; omega⟩) hS (fun _ _ h9 => Or.inl h9) (fun _ h9 => Or.inl h9) (fun r_377 ws_378 U8 H_382 locs_383 ht hvm hu_381 hB hz1 hk1 hS1 => ?_)
          obtain ⟨hr_379, hc_380⟩ := hu_381
          replace hB : va_P D vwCl ws_378 U8.heap := hB
          rw [ht] at hB
          replace hPa := aP_keep hPa hdB hAB hk1
          clear hPw hS
          have hPw := hB
          have hS := hS1
          clear hB hS1 hz1 hk1 hvm ht U8
          have hv9 : er (k_lineChar M_376 (nI aw) (nI (6 + n9))) (r_lineChar M_376 (nI aw) (nI (6 + n9))) = nI (48 + T 7 aw % 2) := by exact hR_376.lchK hM_376 (by omega) (by omega) hn9 hl9 (k := 5) (by decide) (by omega) rfl
          rw [hv9] at hr_379
          clear hv9
          subst hr_379
          have hn_384 : ∀ f, f ∉ [33, 34] → (g_line M_376 (nI aw)) f = M_376 f := g_line_nf M_376 (nI aw)
          have hM_384 : MI (g_line M_376 (nI aw)) := MI_line hM_376 (nI aw)
          have hLB_384 : m_LB (g_line M_376 (nI aw)) := (LB_line (nI aw)).1 hLB_376
          have h15_384 : (g_line M_376 (nI aw)) 15 0 ≤ n15 := by rw [hn_384 15 (by decide)]; exact h15_376
          have hR_384 : LR (g_line M_376 (nI aw)) T := hR_376.ln hn_384
          have g4_384 := hR_384.1.2.2.2.2
          generalize g_line M_376 (nI aw) = M_384 at hn_384 hM_384 hLB_384 h15_384 hR_384 g4_384 hc_380
          have g3_384 : M_384 3 0 ≤ 2 := hR_384.1.2.2.1
          clear hn_384
          clear hc_372 hM_376 hLB_376 h15_376 hR_376 g4_376 g3_376 ws_370 M_376
          refine lv_bipush (v := nI 48) hx hb dL_isLine_216 (by decide) ?_
          refine lv_iload hx hb dL_isLine_218 (lv_at hl 1 rfl) ?_
          refine lv_iconst (v := nI 1) hx hb dL_isLine_220 (by decide) ?_
          refine lv_iand hx hb dL_isLine_221 ?_
          rw [show (nI (T 7 aw)) &&& (nI 1) = nI ((T 7 aw) % 2) from n_andK (k := 1) (by have f1 := haw; have f2 : T 7 aw ≤ 16777215 := hT.1 7 aw; omega) (by decide) (by decide) rfl]
          refine n_iadd hx hb dL_isLine_222 (z := 48 + ((T 7 aw) % 2)) rfl ?_
          refine n_icmp_ne (tgt := 324) hx hb dL_isLine_223 (by decide) (by have f1 : T 7 aw ≤ 16777215 := hT.1 7 aw; omega) (by have f1 := haw; have f2 : T 7 aw ≤ 16777215 := hT.1 7 aw; omega) (fun c_385 => absurd (by omega) c_385) (fun c_385 => ?_)
          refine lv_aload_n hx hb dL_isLine_226 rfl (lv_at hl 3 rfl) ?_
          refine lv_iload_n hx hb dL_isLine_227 rfl (lv_at hl 4 rfl) ?_
          refine lv_bipush (v := nI 7) hx hb dL_isLine_228 (by decide) ?_
          refine lv_iload hx hb dL_isLine_230 (lv_at hl 2 rfl) ?_
          refine n_iadd hx hb dL_isLine_232 (z := 7 + n9) rfl ?_
          refine va_calli (vx_runSW (As := [.ref h, .int (nI aw), .int (nI (7 + n9))]) (rest := []) ⟨hx, hb, hml, hown, hts⟩ (cw_lineChar l hst D cI cO cb eA mi st dO dT vF ws_378 hc_380 hM_384 hsI (nI aw) (nI (7 + n9))) (vx_cwSW 3 hts gL_isLine_L_lineChar rfl rfl rfl kd_L_lineChar ⟨Nat.le_of_ble_eq_true rfl, Nat.le_of_ble_eq_true rfl⟩) ⟨kB_blind, kB_pre hK hG hGT hN (fun q h9 => Or.inl h9) hS (fun q h9 => hA q (Nat.le_trans hS.1 h9)) hPw _⟩ rfl rfl hl.1 rfl (lv_room (Nat.le_of_ble_eq_true rfl)) dL_isLine_233 ⟨by show 35 + 4 ≤ 55; omega, by show 282 + 32 ≤ 442; omega⟩) hS (fun _ _ h9 => Or.inl h9) (fun _ h9 => Or.inl h9) (fun r_386 ws_387 U8 H_391 locs_392 ht hvm hu_390 hB hz1 hk1 hS1 => ?_)
          obtain ⟨hr_388, hc_389⟩ := hu_390
          replace hB : va_P D vwCl ws_387 U8.heap := hB
          rw [ht] at hB
          replace hPa := aP_keep hPa hdB hAB hk1
          clear hPw hS
          have hPw := hB
          have hS := hS1
          clear hB hS1 hz1 hk1 hvm ht U8
          have hv9 : er (k_lineChar M_384 (nI aw) (nI (7 + n9))) (r_lineChar M_384 (nI aw) (nI (7 + n9))) = nI 32 := by exact hR_384.lchK hM_384 (by omega) (by omega) hn9 hl9 (k := 6) (by decide) (by omega) rfl
          rw [hv9] at hr_388
          clear hv9
          subst hr_388
          have hn_393 : ∀ f, f ∉ [33, 34] → (g_line M_384 (nI aw)) f = M_384 f := g_line_nf M_384 (nI aw)
          have hM_393 : MI (g_line M_384 (nI aw)) := MI_line hM_384 (nI aw)
          have hLB_393 : m_LB (g_line M_384 (nI aw)) := (LB_line (nI aw)).1 hLB_384
          have h15_393 : (g_line M_384 (nI aw)) 15 0 ≤ n15 := by rw [hn_393 15 (by decide)]; exact h15_384
          have hR_393 : LR (g_line M_384 (nI aw)) T := hR_384.ln hn_393
          have g4_393 := hR_393.1.2.2.2.2
          generalize g_line M_384 (nI aw) = M_393 at hn_393 hM_393 hLB_393 h15_393 hR_393 g4_393 hc_389
          have g3_393 : M_393 3 0 ≤ 2 := hR_393.1.2.2.1
          clear hn_393
          clear hc_380 hM_384 hLB_384 h15_384 hR_384 g4_384 g3_384 ws_378 M_384
          refine lv_bipush (v := nI 32) hx hb dL_isLine_236 (by decide) ?_
          refine n_icmp_ne (tgt := 324) hx hb dL_isLine_238 (by decide) (by decide) (by decide) (fun c9 => absurd c9 (by decide)) (fun _ => ?_)
          refine lv_aload_n hx hb dL_isLine_241 rfl (lv_at hl 3 rfl) ?_
          refine lv_iload_n hx hb dL_isLine_242 rfl (lv_at hl 4 rfl) ?_
          refine lv_bipush (v := nI 8) hx hb dL_isLine_243 (by decide) ?_
          refine lv_iload hx hb dL_isLine_245 (lv_at hl 2 rfl) ?_
          refine n_iadd hx hb dL_isLine_247 (z := 8 + n9) rfl ?_
          refine va_calli (vx_runSW (As := [.ref h, .int (nI aw), .int (nI (8 + n9))]) (rest := []) ⟨hx, hb, hml, hown, hts⟩ (cw_lineChar l hst D cI cO cb eA mi st dO dT vF ws_387 hc_389 hM_393 hsI (nI aw) (nI (8 + n9))) (vx_cwSW 3 hts gL_isLine_L_lineChar rfl rfl rfl kd_L_lineChar ⟨Nat.le_of_ble_eq_true rfl, Nat.le_of_ble_eq_true rfl⟩) ⟨kB_blind, kB_pre hK hG hGT hN (fun q h9 => Or.inl h9) hS (fun q h9 => hA q (Nat.le_trans hS.1 h9)) hPw _⟩ rfl rfl hl.1 rfl (lv_room (Nat.le_of_ble_eq_true rfl)) dL_isLine_248 ⟨by show 39 + 4 ≤ 55; omega, by show 314 + 32 ≤ 442; omega⟩) hS (fun _ _ h9 => Or.inl h9) (fun _ h9 => Or.inl h9) (fun r_394 ws_395 U8 H_399 locs_400 ht hvm hu_398 hB hz1 hk1 hS1 => ?_)
          obtain ⟨hr_396, hc_397⟩ := hu_398
          replace hB : va_P D vwCl ws_395 U8.heap := hB
          rw [ht] at hB
          replace hPa := aP_keep hPa hdB hAB hk1
          clear hPw hS
          have hPw := hB
          have hS := hS1
          clear hB hS1 hz1 hk1 hvm ht U8
          have hv9 : er (k_lineChar M_393 (nI aw) (nI (8 + n9))) (r_lineChar M_393 (nI aw) (nI (8 + n9))) = nI 66 := by exact hR_393.lchK hM_393 (by omega) (by omega) hn9 hl9 (k := 7) (by decide) (by omega) rfl
          rw [hv9] at hr_396
          clear hv9
          subst hr_396
          have hn_401 : ∀ f, f ∉ [33, 34] → (g_line M_393 (nI aw)) f = M_393 f := g_line_nf M_393 (nI aw)
          have hM_401 : MI (g_line M_393 (nI aw)) := MI_line hM_393 (nI aw)
          have hLB_401 : m_LB (g_line M_393 (nI aw)) := (LB_line (nI aw)).1 hLB_393
          have h15_401 : (g_line M_393 (nI aw)) 15 0 ≤ n15 := by rw [hn_401 15 (by decide)]; exact h15_393
          have hR_401 : LR (g_line M_393 (nI aw)) T := hR_393.ln hn_401
          have g4_401 := hR_401.1.2.2.2.2
          generalize g_line M_393 (nI aw) = M_401 at hn_401 hM_401 hLB_401 h15_401 hR_401 g4_401 hc_397
          have g3_401 : M_401 3 0 ≤ 2 := hR_401.1.2.2.1
          clear hn_401
          clear hc_389 hM_393 hLB_393 h15_393 hR_393 g4_393 g3_393 ws_387 M_393
          refine lv_bipush (v := nI 66) hx hb dL_isLine_251 (by decide) ?_
          refine n_icmp_ne (tgt := 324) hx hb dL_isLine_253 (by decide) (by decide) (by decide) (fun c9 => absurd c9 (by decide)) (fun _ => ?_)
          refine lv_aload_n hx hb dL_isLine_256 rfl (lv_at hl 3 rfl) ?_
          refine lv_iload_n hx hb dL_isLine_257 rfl (lv_at hl 4 rfl) ?_
          refine lv_bipush (v := nI 9) hx hb dL_isLine_258 (by decide) ?_
          refine lv_iload hx hb dL_isLine_260 (lv_at hl 2 rfl) ?_
          refine n_iadd hx hb dL_isLine_262 (z := 9 + n9) rfl ?_
          refine va_calli (vx_runSW (As := [.ref h, .int (nI aw), .int (nI (9 + n9))]) (rest := []) ⟨hx, hb, hml, hown, hts⟩ (cw_lineChar l hst D cI cO cb eA mi st dO dT vF ws_395 hc_397 hM_401 hsI (nI aw) (nI (9 + n9))) (vx_cwSW 3 hts gL_isLine_L_lineChar rfl rfl rfl kd_L_lineChar ⟨Nat.le_of_ble_eq_true rfl, Nat.le_of_ble_eq_true rfl⟩) ⟨kB_blind, kB_pre hK hG hGT hN (fun q h9 => Or.inl h9) hS (fun q h9 => hA q (Nat.le_trans hS.1 h9)) hPw _⟩ rfl rfl hl.1 rfl (lv_room (Nat.le_of_ble_eq_true rfl)) dL_isLine_263 ⟨by show 43 + 4 ≤ 55; omega, by show 346 + 32 ≤ 442; omega⟩) hS (fun _ _ h9 => Or.inl h9) (fun _ h9 => Or.inl h9) (fun r_402 ws_403 U8 H_407 locs_408 ht hvm hu_406 hB hz1 hk1 hS1 => ?_)
          obtain ⟨hr_404, hc_405⟩ := hu_406
          replace hB : va_P D vwCl ws_403 U8.heap := hB
          rw [ht] at hB
          replace hPa := aP_keep hPa hdB hAB hk1
          clear hPw hS
          have hPw := hB
          have hS := hS1
          clear hB hS1 hz1 hk1 hvm ht U8
          have hv9 : er (k_lineChar M_401 (nI aw) (nI (9 + n9))) (r_lineChar M_401 (nI aw) (nI (9 + n9))) = nI (48 + T 7 aw / 4 % 4) := by exact hR_401.lchK hM_401 (by omega) (by omega) hn9 hl9 (k := 8) (by decide) (by omega) rfl
          rw [hv9] at hr_404
          clear hv9
          subst hr_404
          have hn_409 : ∀ f, f ∉ [33, 34] → (g_line M_401 (nI aw)) f = M_401 f := g_line_nf M_401 (nI aw)
          have hM_409 : MI (g_line M_401 (nI aw)) := MI_line hM_401 (nI aw)
          have hLB_409 : m_LB (g_line M_401 (nI aw)) := (LB_line (nI aw)).1 hLB_401
          have h15_409 : (g_line M_401 (nI aw)) 15 0 ≤ n15 := by rw [hn_409 15 (by decide)]; exact h15_401
          have hR_409 : LR (g_line M_401 (nI aw)) T := hR_401.ln hn_409
          have g4_409 := hR_409.1.2.2.2.2
          generalize g_line M_401 (nI aw) = M_409 at hn_409 hM_409 hLB_409 h15_409 hR_409 g4_409 hc_405
          have g3_409 : M_409 3 0 ≤ 2 := hR_409.1.2.2.1
          clear hn_409
          clear hc_397 hM_401 hLB_401 h15_401 hR_401 g4_401 g3_401 ws_395 M_401
          refine lv_bipush (v := nI 48) hx hb dL_isLine_266 (by decide) ?_
          refine lv_iload hx hb dL_isLine_268 (lv_at hl 1 rfl) ?_
          refine lv_iconst (v := nI 2) hx hb dL_isLine_270 (by decide) ?_
          refine lv_ishr hx hb dL_isLine_271 ?_
          rw [show (nI (T 7 aw)) >>> ((nI 2) &&& 31) = nI ((T 7 aw) / 4) from n_shrK (by have f1 := haw; have f2 : T 7 aw ≤ 16777215 := hT.1 7 aw; omega) (by decide) rfl]
          refine lv_iconst (v := nI 3) hx hb dL_isLine_272 (by decide) ?_
          refine lv_iand hx hb dL_isLine_273 ?_
          rw [show (nI ((T 7 aw) / 4)) &&& (nI 3) = nI (((T 7 aw) / 4) % 4) from n_andK (k := 2) (by have f1 := haw; have f2 : T 7 aw ≤ 16777215 := hT.1 7 aw; omega) (by decide) (by decide) rfl]
          refine n_iadd hx hb dL_isLine_274 (z := 48 + (((T 7 aw) / 4) % 4)) rfl ?_
          refine n_icmp_ne (tgt := 324) hx hb dL_isLine_275 (by decide) (by have f1 : T 7 aw ≤ 16777215 := hT.1 7 aw; omega) (by have f1 := haw; have f2 : T 7 aw ≤ 16777215 := hT.1 7 aw; omega) (fun c_410 => absurd (by omega) c_410) (fun c_410 => ?_)
          refine lv_aload_n hx hb dL_isLine_278 rfl (lv_at hl 3 rfl) ?_
          refine lv_iload_n hx hb dL_isLine_279 rfl (lv_at hl 4 rfl) ?_
          refine lv_bipush (v := nI 10) hx hb dL_isLine_280 (by decide) ?_
          refine lv_iload hx hb dL_isLine_282 (lv_at hl 2 rfl) ?_
          refine n_iadd hx hb dL_isLine_284 (z := 10 + n9) rfl ?_
          refine va_calli (vx_runSW (As := [.ref h, .int (nI aw), .int (nI (10 + n9))]) (rest := []) ⟨hx, hb, hml, hown, hts⟩ (cw_lineChar l hst D cI cO cb eA mi st dO dT vF ws_403 hc_405 hM_409 hsI (nI aw) (nI (10 + n9))) (vx_cwSW 3 hts gL_isLine_L_lineChar rfl rfl rfl kd_L_lineChar ⟨Nat.le_of_ble_eq_true rfl, Nat.le_of_ble_eq_true rfl⟩) ⟨kB_blind, kB_pre hK hG hGT hN (fun q h9 => Or.inl h9) hS (fun q h9 => hA q (Nat.le_trans hS.1 h9)) hPw _⟩ rfl rfl hl.1 rfl (lv_room (Nat.le_of_ble_eq_true rfl)) dL_isLine_285 ⟨by show 47 + 4 ≤ 55; omega, by show 378 + 32 ≤ 442; omega⟩) hS (fun _ _ h9 => Or.inl h9) (fun _ h9 => Or.inl h9) (fun r_411 ws_412 U8 H_416 locs_417 ht hvm hu_415 hB hz1 hk1 hS1 => ?_)
          obtain ⟨hr_413, hc_414⟩ := hu_415
          replace hB : va_P D vwCl ws_412 U8.heap := hB
          rw [ht] at hB
          replace hPa := aP_keep hPa hdB hAB hk1
          clear hPw hS
          have hPw := hB
          have hS := hS1
          clear hB hS1 hz1 hk1 hvm ht U8
          have hv9 : er (k_lineChar M_409 (nI aw) (nI (10 + n9))) (r_lineChar M_409 (nI aw) (nI (10 + n9))) = nI l9 := by exact hR_409.lchL hM_409 (by omega) (by omega) hn9 hl9 hlp
          rw [hv9] at hr_413
          clear hv9
          subst hr_413
          have hn_418 : ∀ f, f ∉ [33, 34] → (g_line M_409 (nI aw)) f = M_409 f := g_line_nf M_409 (nI aw)
          have hM_418 : MI (g_line M_409 (nI aw)) := MI_line hM_409 (nI aw)
          have hLB_418 : m_LB (g_line M_409 (nI aw)) := (LB_line (nI aw)).1 hLB_409
          have h15_418 : (g_line M_409 (nI aw)) 15 0 ≤ n15 := by rw [hn_418 15 (by decide)]; exact h15_409
          have hR_418 : LR (g_line M_409 (nI aw)) T := hR_409.ln hn_418
          have g4_418 := hR_418.1.2.2.2.2
          generalize g_line M_409 (nI aw) = M_418 at hn_418 hM_418 hLB_418 h15_418 hR_418 g4_418 hc_414
          have g3_418 : M_418 3 0 ≤ 2 := hR_418.1.2.2.1
          clear hn_418
          clear hc_405 hM_409 hLB_409 h15_409 hR_409 g4_409 g3_409 ws_403 M_409
          refine lv_iload hx hb dL_isLine_288 (lv_at hl 0 rfl) ?_
          refine n_if_le (tgt := 298) hx hb dL_isLine_290 (by decide) (by have f1 := hl86; omega) (fun c_419 => ?_) (fun c_419 => ?_)
          · exfalso; omega
          · refine lv_iload hx hb dL_isLine_293 (lv_at hl 0 rfl) ?_
            refine lv_goto (tgt := 301) hx hb dL_isLine_295 (by decide) ?_
            refine n_icmp_ne (tgt := 324) hx hb dL_isLine_301 (by decide) (by have f1 := hl86; omega) (by have f1 := hl86; omega) (fun c_420 => absurd (by omega) c_420) (fun c_420 => ?_)
            refine lv_aload_n hx hb dL_isLine_304 rfl (lv_at hl 3 rfl) ?_
            refine lv_iload_n hx hb dL_isLine_305 rfl (lv_at hl 4 rfl) ?_
            refine lv_bipush (v := nI 11) hx hb dL_isLine_306 (by decide) ?_
            refine lv_iload hx hb dL_isLine_308 (lv_at hl 2 rfl) ?_
            refine n_iadd hx hb dL_isLine_310 (z := 11 + n9) rfl ?_
            refine va_calli (vx_runSW (As := [.ref h, .int (nI aw), .int (nI (11 + n9))]) (rest := []) ⟨hx, hb, hml, hown, hts⟩ (cw_lineChar l hst D cI cO cb eA mi st dO dT vF ws_412 hc_414 hM_418 hsI (nI aw) (nI (11 + n9))) (vx_cwSW 3 hts gL_isLine_L_lineChar rfl rfl rfl kd_L_lineChar ⟨Nat.le_of_ble_eq_true rfl, Nat.le_of_ble_eq_true rfl⟩) ⟨kB_blind, kB_pre hK hG hGT hN (fun q h9 => Or.inl h9) hS (fun q h9 => hA q (Nat.le_trans hS.1 h9)) hPw _⟩ rfl rfl hl.1 rfl (lv_room (Nat.le_of_ble_eq_true rfl)) dL_isLine_311 ⟨by show 51 + 4 ≤ 55; omega, by show 410 + 32 ≤ 442; omega⟩) hS (fun _ _ h9 => Or.inl h9) (fun _ h9 => Or.inl h9) (fun r_421 ws_422 U8 H_426 locs_427 ht hvm hu_425 hB hz1 hk1 hS1 => ?_)
            obtain ⟨hr_423, hc_424⟩ := hu_425
            replace hB : va_P D vwCl ws_422 U8.heap := hB
            rw [ht] at hB
            replace hPa := aP_keep hPa hdB hAB hk1
            clear hPw hS
            have hPw := hB
            have hS := hS1
            clear hB hS1 hz1 hk1 hvm ht U8
            have hk_428 : k_lineChar M_418 (nI aw) (nI (11 + n9)) = 1 := by exact hR_418.lchE hM_418 (by omega) (by omega) hn9 hl9 (by omega) (Or.inl (by omega))
            rw [hk_428] at hr_423
            replace hr_423 : r_421 = (-7100) := hr_423
            subst hr_423
            clear hk_428
            have hn_429 : ∀ f, f ∉ [33, 34] → (g_line M_418 (nI aw)) f = M_418 f := g_line_nf M_418 (nI aw)
            have hM_429 : MI (g_line M_418 (nI aw)) := MI_line hM_418 (nI aw)
            have hLB_429 : m_LB (g_line M_418 (nI aw)) := (LB_line (nI aw)).1 hLB_418
            have h15_429 : (g_line M_418 (nI aw)) 15 0 ≤ n15 := by rw [hn_429 15 (by decide)]; exact h15_418
            have hR_429 : LR (g_line M_418 (nI aw)) T := hR_418.ln hn_429
            have g4_429 := hR_429.1.2.2.2.2
            generalize g_line M_418 (nI aw) = M_429 at hn_429 hM_429 hLB_429 h15_429 hR_429 g4_429 hc_424
            have g3_429 : M_429 3 0 ≤ 2 := hR_429.1.2.2.1
            clear hn_429
            clear hc_414 hM_418 hLB_418 h15_418 hR_418 g4_418 g3_418 ws_412 M_418
            refine lv_sipush (v := (-7100)) hx hb dL_isLine_314 (by decide) ?_
            refine lv_icmp_ne (tgt := 324) hx hb dL_isLine_317 (by decide)  (fun c9 => absurd c9 (by decide)) (fun _ => ?_)
            refine lv_iconst (v := nI 1) hx hb dL_isLine_320 (by decide) ?_
            refine lv_goto (tgt := 325) hx hb dL_isLine_321 (by decide) ?_
            refine W.widen (k := 55) (n := 442) (by omega) (by omega) ?_
            exact W.zret (v := nI 1) hx hb hr rfl (fun U9 ht9 hW9 => ⟨⟨_, (ws_422, M_429), rfl, ⟨rfl, hc_424, hM_429, hLB_429, h15_429, hR_429⟩, by show va_P D vwCl _ U9.heap ∧ va_P D vwCl _ U9.heap; rw [ht9]; exact ⟨hPw, hPa⟩⟩, hS.F ht9⟩) hS.2.2 dL_isLine_325
    · have hk9 := hk_2
      refine lv_aload_n hx hb dL_isLine_18 rfl (lv_at hl 5 rfl) ?_
      refine lv_iload_n hx hb dL_isLine_19 rfl (lv_at hl 3 rfl) ?_
      refine vp_callSi (W.runS (As := [.ref (ad 7), .int (nI aw)]) (rest := []) ⟨hx, hb, hml, hown, hts⟩ (ch_gone l D ad cI T hT aw (by have f1 := haw; omega)) (va_cwS 2 hts gL_isLine_L_gone rfl rfl rfl kd_L_gone ⟨Nat.le_of_ble_eq_true rfl, Nat.le_of_ble_eq_true rfl⟩) ⟨aB_blind, a_pre hKa hPa _⟩ rfl rfl hl.1 rfl (lv_room (Nat.le_of_ble_eq_true rfl)) dL_isLine_20 ⟨Nat.le_of_ble_eq_true rfl, Nat.le_of_ble_eq_true rfl⟩) (fun r_430 hr_430 => ?_)
      subst hr_430
      refine b_if_eq (tgt := 31) hx hb dL_isLine_23 (by decide)  (fun c_431 => ?_) (fun c_431 => ?_)
      · refine lv_iload hx hb dL_isLine_31 (lv_at hl 0 rfl) ?_
        refine lv_bipush (v := nI 17) hx hb dL_isLine_33 (by decide) ?_
        refine lv_ishr hx hb dL_isLine_35 ?_
        rw [show (nI (T 7 aw)) >>> ((nI 17) &&& 31) = nI ((T 7 aw) / 131072) from n_shrK (by have f1 := haw; have f2 : T 7 aw ≤ 16777215 := hT.1 7 aw; omega) (by decide) rfl]
        refine n_if_le (tgt := 44) hx hb dL_isLine_36 (by decide) (by have f1 := haw; have f2 : T 7 aw ≤ 16777215 := hT.1 7 aw; omega) (fun c_432 => ?_) (fun c_432 => ?_)
        · refine lv_aload_n hx hb dL_isLine_44 rfl (lv_at hl 4 rfl) ?_
          refine lv_aload_n hx hb dL_isLine_45 rfl (lv_at hl 5 rfl) ?_
          refine lv_aload hx hb dL_isLine_46 (lv_at hl 6 rfl) ?_
          refine lv_aload hx hb dL_isLine_48 (lv_at hl 7 rfl) ?_
          refine lv_iload_n hx hb dL_isLine_50 rfl (lv_at hl 3 rfl) ?_
          refine vp_callSi (W.runS (As := [.ref (ad 1), .ref (ad 7), .ref (ad 8), .ref (ad 11), .int (nI aw)]) (rest := []) ⟨hx, hb, hml, hown, hts⟩ (ch_settled l D ad cI T hT aw (by have f1 := haw; omega)) (va_cwS 5 hts gL_isLine_L_settled rfl rfl rfl kd_L_settled ⟨Nat.le_of_ble_eq_true rfl, Nat.le_of_ble_eq_true rfl⟩) ⟨aB_blind, a_pre hKa hPa _⟩ rfl rfl hl.1 rfl (lv_room (Nat.le_of_ble_eq_true rfl)) dL_isLine_51 ⟨Nat.le_of_ble_eq_true rfl, Nat.le_of_ble_eq_true rfl⟩) (fun r_433 hr_433 => ?_)
          subst hr_433
          refine b_if_eq (tgt := 62) hx hb dL_isLine_54 (by decide)  (fun c_434 => ?_) (fun c_434 => ?_)
          · refine lv_iconst (v := nI 0) hx hb dL_isLine_62 (by decide) ?_
            refine lv_istore (lv' := [(8, .int (nI 0)), (7, .int (nI (T 7 aw))), (6, .int (nI n9)), (0, .ref h), (1, .int (nI aw)), (2, .ref (ad 1)), (3, .ref (ad 7)), (4, .ref (ad 8)), (5, .ref (ad 11))]) hx hb dL_isLine_63 hl (by decide) rfl (fun ls hl => ?_)
            exact hk_2 0 (by first | (simp [t_la, c_431, c_432, c_434]; done) | (simp [t_la, c_431, c_432, c_434]; omega)) ls (lv_sub hl [0, 1, 2, 3, 4, 5, 6, 7, 8] rfl)
          · refine lv_bipush (v := nI 70) hx hb dL_isLine_57 (by decide) ?_
            refine lv_goto (tgt := 63) hx hb dL_isLine_59 (by decide) ?_
            refine lv_istore (lv' := [(8, .int (nI 70)), (7, .int (nI (T 7 aw))), (6, .int (nI n9)), (0, .ref h), (1, .int (nI aw)), (2, .ref (ad 1)), (3, .ref (ad 7)), (4, .ref (ad 8)), (5, .ref (ad 11))]) hx hb dL_isLine_63 hl (by decide) rfl (fun ls hl => ?_)
            exact hk_2 70 (by first | (simp [t_la, c_431, c_432, c_434]; done) | (simp [t_la, c_431, c_432, c_434]; omega)) ls (lv_sub hl [0, 1, 2, 3, 4, 5, 6, 7, 8] rfl)
        · refine lv_bipush (v := nI 83) hx hb dL_isLine_39 (by decide) ?_
          refine lv_goto (tgt := 63) hx hb dL_isLine_41 (by decide) ?_
          refine lv_istore (lv' := [(8, .int (nI 83)), (7, .int (nI (T 7 aw))), (6, .int (nI n9)), (0, .ref h), (1, .int (nI aw)), (2, .ref (ad 1)), (3, .ref (ad 7)), (4, .ref (ad 8)), (5, .ref (ad 11))]) hx hb dL_isLine_63 hl (by decide) rfl (fun ls hl => ?_)
          exact hk_2 83 (by first | (simp [t_la, c_431, c_432]; done) | (simp [t_la, c_431, c_432]; omega)) ls (lv_sub hl [0, 1, 2, 3, 4, 5, 6, 7, 8] rfl)
      · refine lv_bipush (v := nI 86) hx hb dL_isLine_26 (by decide) ?_
        refine lv_goto (tgt := 63) hx hb dL_isLine_28 (by decide) ?_
        refine lv_istore (lv' := [(8, .int (nI 86)), (7, .int (nI (T 7 aw))), (6, .int (nI n9)), (0, .ref h), (1, .int (nI aw)), (2, .ref (ad 1)), (3, .ref (ad 7)), (4, .ref (ad 8)), (5, .ref (ad 11))]) hx hb dL_isLine_63 hl (by decide) rfl (fun ls hl => ?_)
        exact hk_2 86 (by first | (simp [t_la, c_431]; done) | (simp [t_la, c_431]; omega)) ls (lv_sub hl [0, 1, 2, 3, 4, 5, 6, 7, 8] rfl)
  · have hk9 := hk_1
    refine lv_iload_n hx hb dL_isLine_0 rfl (lv_at hl 1 rfl) ?_
    refine lv_bipush (v := nI 9) hx hb dL_isLine_1 (by decide) ?_
    refine n_icmp_le (tgt := 10) hx hb dL_isLine_3 (by decide) (by have f1 := haw; omega) (by decide) (fun c_435 => ?_) (fun c_435 => ?_)
    · refine lv_iconst (v := nI 0) hx hb dL_isLine_10 (by decide) ?_
      refine lv_istore (lv' := [(6, .int (nI 0)), (0, .ref h), (1, .int (nI aw)), (2, .ref (ad 1)), (3, .ref (ad 7)), (4, .ref (ad 8)), (5, .ref (ad 11))]) hx hb dL_isLine_11 hl (by decide) rfl (fun ls hl => ?_)
      exact hk_1 0 (by first | exact (if_pos (by omega)).symm | exact (if_neg (by omega)).symm) ls (lv_sub hl [0, 1, 2, 3, 4, 5, 6] rfl)
    · refine lv_iconst (v := nI 1) hx hb dL_isLine_6 (by decide) ?_
      refine lv_goto (tgt := 11) hx hb dL_isLine_7 (by decide) ?_
      refine lv_istore (lv' := [(6, .int (nI 1)), (0, .ref h), (1, .int (nI aw)), (2, .ref (ad 1)), (3, .ref (ad 7)), (4, .ref (ad 8)), (5, .ref (ad 11))]) hx hb dL_isLine_11 hl (by decide) rfl (fun ls hl => ?_)
      exact hk_1 1 (by first | exact (if_pos (by omega)).symm | exact (if_neg (by omega)).symm) ls (lv_sub hl [0, 1, 2, 3, 4, 5, 6] rfl)
