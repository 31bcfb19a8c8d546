/-! the law's own body -/
def xB (b L : Nat) (xs : Nat → Int32) : State → Prop := fun U => va_X b L xs U U.heap ∧ b < U.heap.size
theorem xB_blind {b L : Nat} {xs : Nat → Int32} {av : List Value} : FrameBlind (va_Pc av (xB b L xs)) := fun a U g mk q => ⟨q.1, va_X.moved (u := U) (U := U.calling g mk a) (Vm.Alike.refl U.vm) q.2.1, q.2.2⟩
theorem xB_pre {b L : Nat} {xs : Nat → Int32} {A : Nat → Prop} {s : State} {H : Heap} {locs : List Loc} (hX : va_X b L xs s s.heap) (hbl : b < s.heap.size) (hbA : ¬ A b) (hS : va_S A s.heap H locs) (av : List Value) : ∀ U : State, U.heap = H → s.WarmedH U.vm → va_Pc av (xB b L xs) av.toArray U :=
  fun U hU hW => ⟨rfl, by rw [hU]; exact (hX.kept (hS.2.1 b hbl hbA)).moved hW.alike, by rw [hU]; exact Nat.lt_of_lt_of_le hbl hS.1⟩
set_option maxRecDepth 100000 in
theorem ch_cell (l : Launch) (b L : Nat) (xs : Nat → Int32) (hL : L < 2 ^ 31) (k : Nat) (hk : k < 2 ^ 31) : Met l yL_cell wsL_cell ({ frames := 0, cells := 0, slots := 0, locals := 0 }) (va_Pc [.ref b, .int (nI k)] (xB b L xs)) (vp_Si (fun _ => True)) 0 0 (fun _ => False) := by
  refine Met.ofW (cc := cL_cell) (maxL := 2) (ret := (some .int)) (by decide) rfl ?_
  intro p e s m args below meth c s₁ B hml hv
  obtain ⟨rfl, hX, hbl⟩ := hv
  have hx := B.exec
  have hb := B.bytes
  have hr := B.returns
  have hts := atoms_spec (ws := wsL_cell) B.pre
  have hown : s.vm.findClass RL = some m.cls := findClass_of_methodNamed B.named
  have hl := lv_entry ([.ref b, .int (nI k)]) (n := 2) (Nat.le_of_ble_eq_true rfl)
  rw [lg_entry_eq]
  generalize (lg_sl ([.ref b, .int (nI k)]) ++ List.replicate (2 - (lg_sl ([.ref b, .int (nI k)])).length) Slot.unset).toArray = ls at hl ⊢
  have hl : lv_has ls 2 [(0, .ref b), (1, .int (nI k))] := hl
  refine lv_iload_n hx hb dL_cell_0 rfl (lv_at hl 1 rfl) ?_
  refine lv_aload_n hx hb dL_cell_1 rfl (lv_at hl 0 rfl) ?_
  refine va_slen (A := fun _ => False) hx hb hX hbl (fun z => z) va_S.rf dL_cell_2 ?_
  refine n_icmp_ge (a := k) (b := L) (tgt := 12) hx hb dL_cell_3 (by decide) (by omega) (by omega) (fun c9 => ?_) (fun c9 => ?_)
  · refine lv_ldc (v := nI 1205586915) hx hb hown (hts (.constant RL 7 (1205586915)) (List.mem_of_getElem? (i := 1) rfl)) dL_cell_12 ?_
    refine lv_iload_n hx hb dL_cell_14 rfl (lv_at hl 1 rfl) ?_
    refine lv_bipush (v := nI 8) hx hb dL_cell_15 (by decide) ?_
    refine lv_iadd hx hb dL_cell_17 ?_
    refine lv_imul hx hb dL_cell_18 ?_
    exact W.iret hx hb hr (fun U9 ht hW => ⟨_, rfl, trivial, ht⟩) (fun _ h => by cases h) dL_cell_19
  · refine lv_aload_n hx hb dL_cell_6 rfl (lv_at hl 0 rfl) ?_
    refine lv_iload_n hx hb dL_cell_7 rfl (lv_at hl 1 rfl) ?_
    refine va_sld (A := fun _ => False) hx hb hX hbl (fun z => z) va_S.rf (vp_in_nI (by omega) (by omega)) dL_cell_8 ?_
    refine lv_goto (tgt := 19) hx hb dL_cell_9 (by decide) ?_
    exact W.iret hx hb hr (fun U9 ht hW => ⟨_, rfl, trivial, ht⟩) (fun _ h => by cases h) dL_cell_19
set_option maxHeartbeats 8000000 in
set_option maxRecDepth 100000 in
theorem law_run {p : Program} {e : Env} {s : State} {m : MethodId} {args : Array Value} {below : List Frame} {meth : Method} {c : Code} {Q : State → Prop} (l : Launch) (hst : l.stackTraces = false) (D : va_G) (ad : Nat → Nat) (cI cO cb : ClassId) (eA mi : Nat) (st : Nat → Nat) (dO dT : Nat) (vF : Value) {A B : Nat → Prop} (hAB : ∀ q, A q → ¬ B q) (hsI : sInj st) (hdB : aDis B ad) (hx : p.tables.exec = Jvm.exec) (hb : c.code = cL_law) (hml : c.maxLocals = 20) (hown : s.vm.findClass RL = some m.cls) (hts : ∀ w ∈ wsL_law, w.before args s = true) {b L : Nat} {xs : Nat → Int32} (hX : va_X b L xs s s.heap) (hbl : b < s.heap.size) (hL : L ≤ 260) (hK : va_K D vwCl (cty cI cO cb) s) (hKa : va_K D vwCl [(cI, .int)] s) (hG : gS eA mi st (fun q => A q ∨ B q) s s.heap) (hGT : gT dO dT vF (fun q => A q ∨ B q) s s.heap) (hN : lNc s) (hAn : ∀ q : Nat, (A q ∨ B q) → s.heap.size ≤ q) (hfr : ∀ (T : MS) (H : Heap) (locs : List Loc), va_P D vwCl (aws ad cI T) H → va_S (fun q => A q ∨ B q) s.heap H locs → ∀ q : Nat, H.size ≤ q → A q) (kend : ∀ (H : Heap) (locs : List Loc) (cells slots pc : Nat) (ls : Array Slot), va_S (fun q => A q ∨ B q) s.heap H locs → cells ≤ 852110 → slots ≤ 6545367 → decode cL_law pc = .ok (.ireturn, 1) → W p l e room_1 s m args below meth c H locs cells slots Q (F0 m pc ls [.int (nI 1)])) {h : Nat} {ws : va_W} {M : MS} (hc : cSt cI cO eA st A h M ws) (hM : MI M) (hLB : m_LB M) (h15 : M 15 0 ≤ 0) (hR : LR M (t_z 4)) (hT : LT (t_z 4)) {H : Heap} {locs : List Loc} (hPw : va_P D vwCl ws H) (hPa : va_P D vwCl (aws ad cI (t_z 0)) H) (hS : va_S (fun q => A q ∨ B q) s.heap H locs) : ∀ ls, lv_has ls 20 [(0, .ref b), (1, .ref h), (2, .ref (ad 0)), (3, .ref (ad 1)), (4, .ref (ad 2)), (5, .ref (ad 3)), (6, .ref (ad 4)), (7, .ref (ad 5)), (8, .ref (ad 6)), (9, .ref (ad 7)), (10, .ref (ad 8)), (11, .ref (ad 9)), (12, .ref (ad 10)), (13, .ref (ad 11)), (14, .int (nI 0))] → W p l e room_1 s m args below meth c H locs 18 311 Q (F0 m 78 ls []) := by
  intro ls hl
  refine b_loop (D := D) (ad := ad) (cI := cI) (A := fun q => A q ∨ B q) (ws := ws) (n := 4) (nL := 20) (fun k => [(0, .ref b), (1, .ref h), (2, .ref (ad 0)), (3, .ref (ad 1)), (4, .ref (ad 2)), (5, .ref (ad 3)), (6, .ref (ad 4)), (7, .ref (ad 5)), (8, .ref (ad 6)), (9, .ref (ad 7)), (10, .ref (ad 8)), (11, .ref (ad 9)), (12, .ref (ad 10)), (13, .ref (ad 11)), (14, .int (nI k))]) (fun k => t_z k) (fun k hb_1 ih_2 H_3 locs_4 ls hPa9 hPw9 hS9 hl => ?_) 0 (by omega) _ _ ls hPa hPw hS (lv_sub hl [0, 1, 2, 3, 4, 5, 6, 7, 8, 9, 10, 11, 12, 13, 14] rfl)
  clear hPa hPw hS
  have hPa := hPa9; have hPw := hPw9; have hS := hS9; clear hPa9 hPw9 hS9
  refine lv_iload hx hb dL_law_78 (lv_at hl 14 rfl) ?_
  refine lv_iconst (v := nI 4) hx hb dL_law_80 (by decide) ?_
  refine n_icmp_ge (tgt := 96) hx hb dL_law_81 (by decide) (by omega) (by decide) (fun c_5 => ?_) (fun c_5 => ?_)
  · obtain rfl : 4 = k := by omega
    refine lv_aload_n hx hb dL_law_96 rfl (lv_at hl 1 rfl) ?_
    refine lv_iconst (v := nI 0) hx hb dL_law_97 (by decide) ?_
    refine lv_aload_n hx hb dL_law_98 rfl (lv_at hl 3 rfl) ?_
    refine lv_aload hx hb dL_law_99 (lv_at hl 4 rfl) ?_
    refine lv_aload hx hb dL_law_101 (lv_at hl 5 rfl) ?_
    refine lv_aload hx hb dL_law_103 (lv_at hl 6 rfl) ?_
    refine lv_aload hx hb dL_law_105 (lv_at hl 7 rfl) ?_
    refine lv_aload hx hb dL_law_107 (lv_at hl 8 rfl) ?_
    refine lv_aload hx hb dL_law_109 (lv_at hl 9 rfl) ?_
    refine lv_aload hx hb dL_law_111 (lv_at hl 10 rfl) ?_
    refine lv_aload hx hb dL_law_113 (lv_at hl 11 rfl) ?_
    refine lv_aload hx hb dL_law_115 (lv_at hl 12 rfl) ?_
    refine lv_aload hx hb dL_law_117 (lv_at hl 13 rfl) ?_
    refine va_calli (va_runS (As := [.ref h, .int (nI 0), .ref (ad 1), .ref (ad 2), .ref (ad 3), .ref (ad 4), .ref (ad 5), .ref (ad 6), .ref (ad 7), .ref (ad 8), .ref (ad 9), .ref (ad 10), .ref (ad 11)]) (rest := []) ⟨hx, hb, hml, hown, hts⟩ (cb_isTold l hst D ad cI cO cb eA mi st dO dT vF hAB hsI hdB ws hc hM hLB h15 hR hT (nI 0)) (va_cwS 13 hts gL_law_L_isTold rfl rfl rfl kd_L_isTold ⟨Nat.le_of_ble_eq_true rfl, Nat.le_of_ble_eq_true rfl⟩) ⟨bB_blind, bB_pre hK hKa hG hGT hN (fun q h9 => h9) hS (hfr _ _ _ hPa hS) hPw hPa _⟩ rfl rfl hl.1 rfl (lv_room (Nat.le_of_ble_eq_true rfl)) dL_law_119 ⟨by show 18 + 1000 ≤ 852110; omega, by show 311 + 21000 ≤ 6545367; omega⟩) hS (fun _ _ h9 => h9) (fun _ h9 => h9) (fun r_6 u9 U8 H_8 locs_9 ht hvm hu_7 hB hz1 hk1 hS1 => ?_)
    obtain ⟨ws_10, M_10⟩ := u9
    obtain ⟨hr_10, hc_10, hM_10, hLB_10, h15_10, hR_10⟩ := hu_7
    replace hB : va_P D vwCl ws_10 U8.heap ∧ va_P D vwCl (aws ad cI (t_z 4)) U8.heap := hB
    rw [ht] at hB
    clear hPw hPa hS
    obtain ⟨hPw, hPa⟩ := hB
    have hS := hS1
    clear hS1 hz1 hk1 hvm ht U8
    subst hr_10
    replace hc_10 : cSt cI cO eA st A h M_10 ws_10 := hc_10
    replace hM_10 : MI M_10 := hM_10
    replace hLB_10 : m_LB M_10 := hLB_10
    replace h15_10 : M_10 15 0 ≤ 0 := h15_10
    replace hR_10 : LR M_10 (t_z 4) := hR_10
    refine n_if_ne (tgt := 127) hx hb dL_law_122 (by decide) (by decide) (fun _ => ?_) (fun c9 => absurd c9 (by decide))
    refine lv_iconst (v := nI 0) hx hb dL_law_127 (by decide) ?_
    refine lv_istore (lv' := [(14, .int (nI 0)), (0, .ref b), (1, .ref h), (2, .ref (ad 0)), (3, .ref (ad 1)), (4, .ref (ad 2)), (5, .ref (ad 3)), (6, .ref (ad 4)), (7, .ref (ad 5)), (8, .ref (ad 6)), (9, .ref (ad 7)), (10, .ref (ad 8)), (11, .ref (ad 9)), (12, .ref (ad 10)), (13, .ref (ad 11))]) hx hb dL_law_128 hl (by decide) rfl (fun ls hl => ?_)
    refine W.widen (k := 1018 + 1243 * 0) (n := 21311 + 33138 * 0) (by omega) (by omega) ?_
    refine w_loopX (σ := va_W × MS × MS) (n := 150) (nL := 20) (fun turn _ => [(0, .ref b), (1, .ref h), (2, .ref (ad 0)), (3, .ref (ad 1)), (4, .ref (ad 2)), (5, .ref (ad 3)), (6, .ref (ad 4)), (7, .ref (ad 5)), (8, .ref (ad 6)), (9, .ref (ad 7)), (10, .ref (ad 8)), (11, .ref (ad 9)), (12, .ref (ad 10)), (13, .ref (ad 11)), (14, .int (nI turn))]) (fun turn u9 H9 locs9 => LQ cI cO eA st A h turn u9 ∧ va_P D vwCl u9.1 H9 ∧ va_P D vwCl (aws ad cI u9.2.2) H9 ∧ va_S (fun q => A q ∨ B q) s.heap H9 locs9) (fun turn => 1018 + 1243 * turn) (fun turn => 21311 + 33138 * turn) (fun turn hb9 u9 H9 locs9 hJ ih ls hl => ?_) 0 (Nat.zero_le _) (ws_10, M_10, t_z 4) _ _ ⟨⟨hc_10, hM_10, hLB_10, h15_10, hR_10, hT⟩, hPw, hPa, hS⟩ ls (lv_sub hl [1, 2, 3, 4, 5, 6, 7, 8, 9, 10, 11, 12, 13, 14, 0] rfl)
    clear hPw hPa hS
    obtain ⟨ws9, M9, T9⟩ := u9
    obtain ⟨⟨hc9, hM9, hLB9, h159, hR9, hT9⟩, hPw, hPa, hS⟩ := hJ
    replace hc9 : cSt cI cO eA st A h M9 ws9 := hc9
    replace hM9 : MI M9 := hM9
    replace hLB9 : m_LB M9 := hLB9
    replace h159 : M9 15 0 ≤ turn := h159
    replace hR9 : LR M9 T9 := hR9
    replace hT9 : LT T9 := hT9
    replace hPw : va_P D vwCl ws9 H9 := hPw
    replace hPa : va_P D vwCl (aws ad cI T9) H9 := hPa
    show W _ _ _ _ _ _ _ _ _ _ _ _ (1018 + 1243 * turn) (21311 + 33138 * turn) _ _
    refine lv_iload hx hb dL_law_130 (lv_at hl 14 rfl) ?_
    refine lv_sipush (v := nI 150) hx hb dL_law_132 (by decide) ?_
    refine n_icmp_ge (tgt := 430) hx hb dL_law_135 (by decide) (by omega) (by decide) (fun c_11 => ?_) (fun c_11 => ?_)
    · refine lv_iconst (v := nI 1) hx hb dL_law_430 (by decide) ?_
      exact kend _ _ _ _ _ ls hS (by omega) (by omega) dL_law_431
    · refine lv_aload_n hx hb dL_law_138 rfl (lv_at hl 0 rfl) ?_
      refine lv_iconst (v := nI 3) hx hb dL_law_139 (by decide) ?_
      refine lv_iload hx hb dL_law_140 (lv_at hl 14 rfl) ?_
      refine n_imul hx hb dL_law_142 (z := 3 * turn) rfl ?_
      refine vp_callSi (W.runS (As := [.ref b, .int (nI (3 * turn))]) (rest := []) ⟨hx, hb, hml, hown, hts⟩ (ch_cell l b L xs (by omega) (3 * turn) (by omega)) (va_cwS 2 hts gL_law_L_cell rfl rfl rfl kd_L_cell ⟨Nat.le_of_ble_eq_true rfl, Nat.le_of_ble_eq_true rfl⟩) ⟨xB_blind, xB_pre hX hbl (fun z => absurd (hAn b z) (Nat.not_le.mpr hbl)) hS _⟩ rfl rfl hl.1 rfl (lv_room (Nat.le_of_ble_eq_true rfl)) dL_law_143 ⟨by show (1018 + 1243 * turn) + 0 ≤ 852110; omega, by show (21311 + 33138 * turn) + 0 ≤ 6545367; omega⟩) (fun v_12 _ => ?_)
      refine lv_istore (lv' := [(15, .int v_12), (0, .ref b), (1, .ref h), (2, .ref (ad 0)), (3, .ref (ad 1)), (4, .ref (ad 2)), (5, .ref (ad 3)), (6, .ref (ad 4)), (7, .ref (ad 5)), (8, .ref (ad 6)), (9, .ref (ad 7)), (10, .ref (ad 8)), (11, .ref (ad 9)), (12, .ref (ad 10)), (13, .ref (ad 11)), (14, .int (nI turn))]) hx hb dL_law_146 hl (by decide) rfl (fun ls hl => ?_)
      refine lv_aload_n hx hb dL_law_148 rfl (lv_at hl 1 rfl) ?_
      refine lv_iconst (v := nI 3) hx hb dL_law_149 (by decide) ?_
      refine lv_iload hx hb dL_law_150 (lv_at hl 15 rfl) ?_
      refine n_imul hx hb dL_law_152 (z := 3 * turn) rfl ?_
      refine lv_iconst (v := nI 1) hx hb dL_law_153 (by decide) ?_
      refine n_iadd hx hb dL_law_154 (z := (3 * turn) + 1) rfl ?_
      refine vp_callSi (W.runS (As := [.ref b, .int (nI ((3 * turn) + 1))]) (rest := []) ⟨hx, hb, hml, hown, hts⟩ (ch_cell l b L xs (by omega) ((3 * turn) + 1) (by omega)) (va_cwS 2 hts gL_law_L_cell rfl rfl rfl kd_L_cell ⟨Nat.le_of_ble_eq_true rfl, Nat.le_of_ble_eq_true rfl⟩) ⟨xB_blind, xB_pre hX hbl (fun z => absurd (hAn b z) (Nat.not_le.mpr hbl)) hS _⟩ rfl rfl hl.1 rfl (lv_room (Nat.le_of_ble_eq_true rfl)) dL_law_155 ⟨by show (1018 + 1243 * turn) + 0 ≤ 852110; omega, by show (21311 + 33138 * turn) + 0 ≤ 6545367; omega⟩) (fun v_13 _ => ?_)
      refine lv_istore (lv' := [(16, .int v_13), (15, .int v_12), (0, .ref b), (1, .ref h), (2, .ref (ad 0)), (3, .ref (ad 1)), (4, .ref (ad 2)), (5, .ref (ad 3)), (6, .ref (ad 4)), (7, .ref (ad 5)), (8, .ref (ad 6)), (9, .ref (ad 7)), (10, .ref (ad 8)), (11, .ref (ad 9)), (12, .ref (ad 10)), (13, .ref (ad 11)), (14, .int (nI turn))]) hx hb dL_law_158 hl (by decide) rfl (fun ls hl => ?_)
      refine lv_aload_n hx hb dL_law_160 rfl (lv_at hl 2 rfl) ?_
      refine lv_iconst (v := nI 3) hx hb dL_law_161 (by decide) ?_
      refine lv_iload hx hb dL_law_162 (lv_at hl 16 rfl) ?_
      refine n_imul hx hb dL_law_164 (z := 3 * turn) rfl ?_
      refine lv_iconst (v := nI 2) hx hb dL_law_165 (by decide) ?_
      refine n_iadd hx hb dL_law_166 (z := (3 * turn) + 2) rfl ?_
      refine vp_callSi (W.runS (As := [.ref b, .int (nI ((3 * turn) + 2))]) (rest := []) ⟨hx, hb, hml, hown, hts⟩ (ch_cell l b L xs (by omega) ((3 * turn) + 2) (by omega)) (va_cwS 2 hts gL_law_L_cell rfl rfl rfl kd_L_cell ⟨Nat.le_of_ble_eq_true rfl, Nat.le_of_ble_eq_true rfl⟩) ⟨xB_blind, xB_pre hX hbl (fun z => absurd (hAn b z) (Nat.not_le.mpr hbl)) hS _⟩ rfl rfl hl.1 rfl (lv_room (Nat.le_of_ble_eq_true rfl)) dL_law_167 ⟨by show (1018 + 1243 * turn) + 0 ≤ 852110; omega, by show (21311 + 33138 * turn) + 0 ≤ 6545367; omega⟩) (fun v_14 _ => ?_)
      refine lv_istore (lv' := [(17, .int v_14), (16, .int v_13), (15, .int v_12), (0, .ref b), (1, .ref h), (2, .ref (ad 0)), (3, .ref (ad 1)), (4, .ref (ad 2)), (5, .ref (ad 3)), (6, .ref (ad 4)), (7, .ref (ad 5)), (8, .ref (ad 6)), (9, .ref (ad 7)), (10, .ref (ad 8)), (11, .ref (ad 9)), (12, .ref (ad 10)), (13, .ref (ad 11)), (14, .int (nI turn))]) hx hb dL_law_170 hl (by decide) rfl (fun ls hl => ?_)
      refine lv_aload hx hb dL_law_172 (lv_at hl 16 rfl) ?_
      refine lv_iconst (v := nI 4) hx hb dL_law_174 (by decide) ?_
      refine a_iald (f := 11) (n := 7) hx hb hKa hPa rfl (by decide) (by decide) dL_law_175 ?_
      refine lv_bipush (v := nI 22) hx hb dL_law_176 (by decide) ?_
      refine n_icmp_gt (tgt := 219) hx hb dL_law_178 (by decide) (by have f1 : T9 11 4 ≤ 2000 := hT9.1 11 4; have f2 : T9 11 4 ≤ 32 := hT9.2.2.2.1; omega) (by decide) (fun c_15 => ?_) (fun c_15 => ?_)
      · refine lv_iconst (v := nI 1) hx hb dL_law_219 (by decide) ?_
        exact kend _ _ _ _ _ ls hS (by omega) (by omega) dL_law_220
      · refine lv_aload hx hb dL_law_181 (lv_at hl 16 rfl) ?_
        refine lv_iconst (v := nI 5) hx hb dL_law_183 (by decide) ?_
        refine a_iald (f := 11) (n := 7) hx hb hKa hPa rfl (by decide) (by decide) dL_law_184 ?_
        refine lv_bipush (v := nI 30) hx hb dL_law_185 (by decide) ?_
        refine n_icmp_gt (tgt := 219) hx hb dL_law_187 (by decide) (by have f1 : T9 11 5 ≤ 2000 := hT9.1 11 5; have f2 : T9 11 5 ≤ 32 := hT9.2.2.2.2.1; omega) (by decide) (fun c_16 => ?_) (fun c_16 => ?_)
        · refine lv_iconst (v := nI 1) hx hb dL_law_219 (by decide) ?_
          exact kend _ _ _ _ _ ls hS (by omega) (by omega) dL_law_220
        · refine lv_aload hx hb dL_law_190 (lv_at hl 16 rfl) ?_
          refine lv_bipush (v := nI 6) hx hb dL_law_192 (by decide) ?_
          refine a_iald (f := 11) (n := 7) hx hb hKa hPa rfl (by decide) (by decide) dL_law_194 ?_
          refine lv_bipush (v := nI 30) hx hb dL_law_195 (by decide) ?_
          refine n_icmp_gt (tgt := 219) hx hb dL_law_197 (by decide) (by have f1 : T9 11 6 ≤ 2000 := hT9.1 11 6; have f2 : T9 11 6 ≤ 32 := hT9.2.2.2.2.2; omega) (by decide) (fun c_17 => ?_) (fun c_17 => ?_)
          · refine lv_iconst (v := nI 1) hx hb dL_law_219 (by decide) ?_
            exact kend _ _ _ _ _ ls hS (by omega) (by omega) dL_law_220
          · refine lv_aload hx hb dL_law_200 (lv_at hl 16 rfl) ?_
            refine lv_iconst (v := nI 3) hx hb dL_law_202 (by decide) ?_
            refine a_iald (f := 11) (n := 7) hx hb hKa hPa rfl (by decide) (by decide) dL_law_203 ?_
            refine lv_bipush (v := nI 50) hx hb dL_law_204 (by decide) ?_
            refine n_icmp_gt (tgt := 219) hx hb dL_law_206 (by decide) (by have f1 : T9 11 3 ≤ 2000 := hT9.1 11 3; have f2 : T9 11 3 ≤ 60 := hT9.2.2.1; omega) (by decide) (fun c_18 => ?_) (fun c_18 => ?_)
            · refine lv_iconst (v := nI 1) hx hb dL_law_219 (by decide) ?_
              exact kend _ _ _ _ _ ls hS (by omega) (by omega) dL_law_220
            · refine lv_aload hx hb dL_law_209 (lv_at hl 16 rfl) ?_
              refine lv_iconst (v := nI 0) hx hb dL_law_211 (by decide) ?_
              refine a_iald (f := 11) (n := 7) hx hb hKa hPa rfl (by decide) (by decide) dL_law_212 ?_
              refine lv_sipush (v := nI 900) hx hb dL_law_213 (by decide) ?_
              refine n_icmp_le (tgt := 221) hx hb dL_law_216 (by decide) (by have f1 : T9 11 0 ≤ 2000 := hT9.1 11 0; omega) (by decide) (fun c_19 => ?_) (fun c_19 => ?_)
              · have hC : LC T9 := ⟨by omega, by omega, by omega, by omega, by omega⟩
                refine w_join (nL := 20) (pc1 := 262) (sk1 := []) (fun ac9 => [(18, .int (nI ac9)), (17, .int v_14), (16, .int v_13), (15, .int v_12), (0, .ref b), (1, .ref h), (2, .ref (ad 0)), (3, .ref (ad 1)), (4, .ref (ad 2)), (5, .ref (ad 3)), (6, .ref (ad 4)), (7, .ref (ad 5)), (8, .ref (ad 6)), (9, .ref (ad 7)), (10, .ref (ad 8)), (11, .ref (ad 9)), (12, .ref (ad 10)), (13, .ref (ad 11)), (14, .int (nI turn))]) (fun ac9 => ac9 < 48) (fun ac9 hac9 ls hl => ?_) (fun hk_20 => ?_)
                · have h9_ac9 := hac9
                  refine lv_iload hx hb dL_law_262 (lv_at hl 0 rfl) ?_
                  refine lv_bipush (v := nI 15) hx hb dL_law_264 (by decide) ?_
                  refine n_icmp_ge (tgt := 292) hx hb dL_law_266 (by decide) (by have f1 := hac9; omega) (by decide) (fun c_21 => ?_) (fun c_21 => ?_)
                  · refine lv_iload hx hb dL_law_292 (lv_at hl 0 rfl) ?_
                    refine lv_bipush (v := nI 25) hx hb dL_law_294 (by decide) ?_
                    refine n_icmp_ge (tgt := 348) hx hb dL_law_296 (by decide) (by have f1 := hac9; omega) (by decide) (fun c_22 => ?_) (fun c_22 => ?_)
                    · refine lv_aload_n hx hb dL_law_348 rfl (lv_at hl 5 rfl) ?_
                      refine lv_iload hx hb dL_law_349 (lv_at hl 0 rfl) ?_
                      refine lv_bipush (v := nI 25) hx hb dL_law_351 (by decide) ?_
                      refine n_isub hx hb dL_law_353 (z := ac9 - 25) (by have f1 := hac9; omega) rfl ?_
                      refine lv_iload hx hb dL_law_354 (lv_at hl 2 rfl) ?_
                      refine lv_iload hx hb dL_law_356 (lv_at hl 1 rfl) ?_
                      refine lv_aload_n hx hb dL_law_358 rfl (lv_at hl 7 rfl) ?_
                      refine lv_aload hx hb dL_law_359 (lv_at hl 8 rfl) ?_
                      refine lv_aload hx hb dL_law_361 (lv_at hl 9 rfl) ?_
                      refine lv_aload hx hb dL_law_363 (lv_at hl 10 rfl) ?_
                      refine lv_aload hx hb dL_law_365 (lv_at hl 11 rfl) ?_
                      refine lv_aload hx hb dL_law_367 (lv_at hl 12 rfl) ?_
                      refine lv_aload hx hb dL_law_369 (lv_at hl 13 rfl) ?_
                      refine lv_aload hx hb dL_law_371 (lv_at hl 14 rfl) ?_
                      refine lv_aload hx hb dL_law_373 (lv_at hl 15 rfl) ?_
                      refine lv_aload hx hb dL_law_375 (lv_at hl 17 rfl) ?_
                      refine va_calli (va_runS (As := [.ref h, .int (nI (ac9 - 25)), .int v_13, .int v_14, .ref (ad 1), .ref (ad 2), .ref (ad 3), .ref (ad 4), .ref (ad 5), .ref (ad 6), .ref (ad 7), .ref (ad 8), .ref (ad 9), .ref (ad 11)]) (rest := []) ⟨hx, hb, hml, hown, hts⟩ (cb_halls l hst D ad cI cO cb eA mi st dO dT vF hAB hsI hdB ws9 hc9 hM9 hLB9 h159 hR9 hT9 (ac9 - 25) v_13 v_14 (by have f1 := hac9; omega) (by exact hC)) (va_cwS 14 hts gL_law_L_halls rfl rfl rfl kd_L_halls ⟨Nat.le_of_ble_eq_true rfl, Nat.le_of_ble_eq_true rfl⟩) ⟨bB_blind, bB_pre hK hKa hG hGT hN (fun q h9 => h9) hS (hfr _ _ _ hPa hS) hPw hPa _⟩ rfl rfl hl.1 rfl (lv_room (Nat.le_of_ble_eq_true rfl)) dL_law_377 ⟨by show (1018 + 1243 * turn) + 40 ≤ 852110; omega, by show (21311 + 33138 * turn) + 1000 ≤ 6545367; omega⟩) hS (fun _ _ h9 => h9) (fun _ h9 => h9) (fun r_23 u9 U8 H_25 locs_26 ht hvm hu_24 hB hz1 hk1 hS1 => ?_)
                      obtain ⟨ws_27, M_27, T_27⟩ := u9
                      obtain ⟨hr_27, hc_27, hM_27, hLB_27, h15_27, hR_27, hT_27⟩ := hu_24
                      replace hT_27 : LT T_27 := hT_27
                      replace hB : va_P D vwCl ws_27 U8.heap ∧ va_P D vwCl (aws ad cI T_27) U8.heap := hB
                      rw [ht] at hB
                      clear hPw hPa hS
                      obtain ⟨hPw, hPa⟩ := hB
                      have hS := hS1
                      clear hS1 hz1 hk1 hvm ht U8
                      subst hr_27
                      replace hc_27 : cSt cI cO eA st A h M_27 ws_27 := hc_27
                      replace hM_27 : MI M_27 := hM_27
                      replace hLB_27 : m_LB M_27 := hLB_27
                      replace h15_27 : M_27 15 0 ≤ turn + 1 := h15_27
                      replace hR_27 : LR M_27 T_27 := hR_27
                      refine lv_istore (lv' := [(19, .int (nI 1)), (18, .int (nI ac9)), (17, .int v_14), (16, .int v_13), (15, .int v_12), (0, .ref b), (1, .ref h), (2, .ref (ad 0)), (3, .ref (ad 1)), (4, .ref (ad 2)), (5, .ref (ad 3)), (6, .ref (ad 4)), (7, .ref (ad 5)), (8, .ref (ad 6)), (9, .ref (ad 7)), (10, .ref (ad 8)), (11, .ref (ad 9)), (12, .ref (ad 10)), (13, .ref (ad 11)), (14, .int (nI turn))]) hx hb dL_law_380 hl (by decide) rfl (fun ls hl => ?_)
                      refine lv_iload hx hb dL_law_382 (lv_at hl 0 rfl) ?_
                      refine n_if_eq (tgt := 422) hx hb dL_law_384 (by decide) (by decide) (fun c9 => absurd c9 (by decide)) (fun _ => ?_)
                      refine lv_aload_n hx hb dL_law_387 rfl (lv_at hl 6 rfl) ?_
                      refine lv_iload hx hb dL_law_388 (lv_at hl 4 rfl) ?_
                      refine lv_iconst (v := nI 5) hx hb dL_law_390 (by decide) ?_
                      refine lv_ishr hx hb dL_law_391 ?_
                      refine lv_iload hx hb dL_law_392 (lv_at hl 3 rfl) ?_
                      refine lv_ixor hx hb dL_law_394 ?_
                      refine lv_aload_n hx hb dL_law_395 rfl (lv_at hl 8 rfl) ?_
                      refine lv_aload hx hb dL_law_396 (lv_at hl 9 rfl) ?_
                      refine lv_aload hx hb dL_law_398 (lv_at hl 10 rfl) ?_
                      refine lv_aload hx hb dL_law_400 (lv_at hl 11 rfl) ?_
                      refine lv_aload hx hb dL_law_402 (lv_at hl 12 rfl) ?_
                      refine lv_aload hx hb dL_law_404 (lv_at hl 13 rfl) ?_
                      refine lv_aload hx hb dL_law_406 (lv_at hl 14 rfl) ?_
                      refine lv_aload hx hb dL_law_408 (lv_at hl 15 rfl) ?_
                      refine lv_aload hx hb dL_law_410 (lv_at hl 16 rfl) ?_
                      refine lv_aload hx hb dL_law_412 (lv_at hl 17 rfl) ?_
                      refine lv_aload hx hb dL_law_414 (lv_at hl 18 rfl) ?_
                      refine va_calli (va_runS (As := [.ref h, .int ((v_12 >>> ((nI 5) &&& 31)) ^^^ v_13), .ref (ad 1), .ref (ad 2), .ref (ad 3), .ref (ad 4), .ref (ad 5), .ref (ad 6), .ref (ad 7), .ref (ad 8), .ref (ad 9), .ref (ad 10), .ref (ad 11)]) (rest := []) ⟨hx, hb, hml, hown, hts⟩ (cb_isTold l hst D ad cI cO cb eA mi st dO dT vF hAB hsI hdB ws_27 hc_27 hM_27 hLB_27 h15_27 hR_27 hT_27 ((v_12 >>> ((nI 5) &&& 31)) ^^^ v_13)) (va_cwS 13 hts gL_law_L_isTold rfl rfl rfl kd_L_isTold ⟨Nat.le_of_ble_eq_true rfl, Nat.le_of_ble_eq_true rfl⟩) ⟨bB_blind, bB_pre hK hKa hG hGT hN (fun q h9 => h9) hS (hfr _ _ _ hPa hS) hPw hPa _⟩ rfl rfl hl.1 rfl (lv_room (Nat.le_of_ble_eq_true rfl)) dL_law_416 ⟨by show ((1018 + 1243 * turn) + 40) + 1000 ≤ 852110; omega, by show ((21311 + 33138 * turn) + 1000) + 21000 ≤ 6545367; omega⟩) hS (fun _ _ h9 => h9) (fun _ h9 => h9) (fun r_28 u9 U8 H_30 locs_31 ht hvm hu_29 hB hz1 hk1 hS1 => ?_)
                      obtain ⟨ws_32, M_32⟩ := u9
                      obtain ⟨hr_32, hc_32, hM_32, hLB_32, h15_32, hR_32⟩ := hu_29
                      replace hB : va_P D vwCl ws_32 U8.heap ∧ va_P D vwCl (aws ad cI T_27) U8.heap := hB
                      rw [ht] at hB
                      clear hPw hPa hS
                      obtain ⟨hPw, hPa⟩ := hB
                      have hS := hS1
                      clear hS1 hz1 hk1 hvm ht U8
                      subst hr_32
                      replace hc_32 : cSt cI cO eA st A h M_32 ws_32 := hc_32
                      replace hM_32 : MI M_32 := hM_32
                      replace hLB_32 : m_LB M_32 := hLB_32
                      replace h15_32 : M_32 15 0 ≤ turn + 1 := h15_32
                      replace hR_32 : LR M_32 T_27 := hR_32
                      refine n_if_ne (tgt := 424) hx hb dL_law_419 (by decide) (by decide) (fun _ => ?_) (fun c9 => absurd c9 (by decide))
                      refine n_iinc (k := 19) (lv' := [(14, .int (nI (turn + 1))), (19, .int (nI 1)), (18, .int (nI ac9)), (17, .int v_14), (16, .int v_13), (15, .int v_12), (0, .ref b), (1, .ref h), (2, .ref (ad 0)), (3, .ref (ad 1)), (4, .ref (ad 2)), (5, .ref (ad 3)), (6, .ref (ad 4)), (7, .ref (ad 5)), (8, .ref (ad 6)), (9, .ref (ad 7)), (10, .ref (ad 8)), (11, .ref (ad 9)), (12, .ref (ad 10)), (13, .ref (ad 11))]) hx hb dL_law_424 hl rfl (by decide) rfl (fun ls hl => ?_)
                      refine lv_goto (tgt := 130) hx hb dL_law_427 (by decide) ?_
                      refine W.widen (k := 1018 + 1243 * (turn + 1)) (n := 21311 + 33138 * (turn + 1)) (by omega) (by omega) ?_
                      exact ih (by omega) (ws_32, M_32, T_27) _ _ ⟨⟨hc_32, hM_32, hLB_32, h15_32, hR_32, hT_27⟩, hPw, hPa, hS⟩ ls (lv_sub hl [6, 7, 8, 9, 10, 11, 12, 13, 14, 15, 16, 17, 18, 19, 0] rfl)
                    · refine lv_aload_n hx hb dL_law_299 rfl (lv_at hl 5 rfl) ?_
                      refine lv_iconst (v := nI 1) hx hb dL_law_300 (by decide) ?_
                      refine lv_iload hx hb dL_law_301 (lv_at hl 2 rfl) ?_
                      refine lv_iload hx hb dL_law_303 (lv_at hl 1 rfl) ?_
                      refine lv_sipush (v := nI 768) hx hb dL_law_305 (by decide) ?_
                      refine lv_iand hx hb dL_law_308 ?_
                      refine lv_if_ne (tgt := 317) hx hb dL_law_309 (by decide)  (fun c_33 => ?_) (fun c_33 => ?_)
                      · refine lv_iconst (v := nI 4) hx hb dL_law_317 (by decide) ?_
                        refine vp_callSi (W.runS (As := [.int v_13, .int (nI 4)]) (rest := [.int (nI 1), .ref h]) ⟨hx, hb, hml, hown, hts⟩ (ch_low l v_13 4 (by omega) (by omega)) (va_cwS 2 hts gL_law_L_low rfl rfl rfl kd_L_low ⟨Nat.le_of_ble_eq_true rfl, Nat.le_of_ble_eq_true rfl⟩) ⟨fun _ _ _ _ q => q, fun U hU hW => ⟨rfl, trivial⟩⟩ rfl rfl hl.1 rfl (lv_room (Nat.le_of_ble_eq_true rfl)) dL_law_318 ⟨by show (1018 + 1243 * turn) + 0 ≤ 852110; omega, by show (21311 + 33138 * turn) + 0 ≤ 6545367; omega⟩) (fun r_34 hr_34 => ?_)
                        subst hr_34
                        have hw8 : lowN v_13 4 < 4 := lowN_lt _ (by decide)
                        generalize lowN v_13 4 = w8 at hw8 ⊢
                        refine n_iadd hx hb dL_law_321 (z := 1 + w8) rfl ?_
                        refine lv_aload_n hx hb dL_law_322 rfl (lv_at hl 6 rfl) ?_
                        refine lv_aload_n hx hb dL_law_323 rfl (lv_at hl 7 rfl) ?_
                        refine lv_aload hx hb dL_law_324 (lv_at hl 8 rfl) ?_
                        refine lv_aload hx hb dL_law_326 (lv_at hl 9 rfl) ?_
                        refine lv_aload hx hb dL_law_328 (lv_at hl 10 rfl) ?_
                        refine lv_aload hx hb dL_law_330 (lv_at hl 11 rfl) ?_
                        refine lv_aload hx hb dL_law_332 (lv_at hl 12 rfl) ?_
                        refine lv_aload hx hb dL_law_334 (lv_at hl 13 rfl) ?_
                        refine lv_aload hx hb dL_law_336 (lv_at hl 14 rfl) ?_
                        refine lv_aload hx hb dL_law_338 (lv_at hl 16 rfl) ?_
                        refine lv_aload hx hb dL_law_340 (lv_at hl 17 rfl) ?_
                        refine va_calli (va_runS (As := [.ref h, .int (nI (1 + w8)), .ref (ad 0), .ref (ad 1), .ref (ad 2), .ref (ad 3), .ref (ad 4), .ref (ad 5), .ref (ad 6), .ref (ad 7), .ref (ad 8), .ref (ad 10), .ref (ad 11)]) (rest := []) ⟨hx, hb, hml, hown, hts⟩ (cb_days l hst D ad cI cO cb eA mi st dO dT vF hAB hsI hdB ws9 hc9 hM9 hLB9 h159 hR9 hT9 (1 + w8) (by exact hC) (by have f1 := hw8; omega) (by have f1 := hw8; omega)) (va_cwS 13 hts gL_law_L_days rfl rfl rfl kd_L_days ⟨Nat.le_of_ble_eq_true rfl, Nat.le_of_ble_eq_true rfl⟩) ⟨bB_blind, bB_pre hK hKa hG hGT hN (fun q h9 => h9) hS (hfr _ _ _ hPa hS) hPw hPa _⟩ rfl rfl hl.1 rfl (lv_room (Nat.le_of_ble_eq_true rfl)) dL_law_342 ⟨by show (1018 + 1243 * turn) + 243 ≤ 852110; omega, by show (21311 + 33138 * turn) + 12138 ≤ 6545367; omega⟩) hS (fun _ _ h9 => h9) (fun _ h9 => h9) (fun r_35 u9 U8 H_37 locs_38 ht hvm hu_36 hB hz1 hk1 hS1 => ?_)
                        obtain ⟨ws_39, M_39, T_39⟩ := u9
                        obtain ⟨hr_39, hc_39, hM_39, hLB_39, h15_39, hR_39, hT_39⟩ := hu_36
                        replace hT_39 : LT T_39 := hT_39
                        replace hB : va_P D vwCl ws_39 U8.heap ∧ va_P D vwCl (aws ad cI T_39) U8.heap := hB
                        rw [ht] at hB
                        clear hPw hPa hS
                        obtain ⟨hPw, hPa⟩ := hB
                        have hS := hS1
                        clear hS1 hz1 hk1 hvm ht U8
                        subst hr_39
                        replace hc_39 : cSt cI cO eA st A h M_39 ws_39 := hc_39
                        replace hM_39 : MI M_39 := hM_39
                        replace hLB_39 : m_LB M_39 := hLB_39
                        replace h15_39 : M_39 15 0 ≤ turn + 1 := h15_39
                        replace hR_39 : LR M_39 T_39 := hR_39
                        refine lv_goto (tgt := 380) hx hb dL_law_345 (by decide) ?_
                        refine lv_istore (lv' := [(19, .int (nI 1)), (18, .int (nI ac9)), (17, .int v_14), (16, .int v_13), (15, .int v_12), (0, .ref b), (1, .ref h), (2, .ref (ad 0)), (3, .ref (ad 1)), (4, .ref (ad 2)), (5, .ref (ad 3)), (6, .ref (ad 4)), (7, .ref (ad 5)), (8, .ref (ad 6)), (9, .ref (ad 7)), (10, .ref (ad 8)), (11, .ref (ad 9)), (12, .ref (ad 10)), (13, .ref (ad 11)), (14, .int (nI turn))]) hx hb dL_law_380 hl (by decide) rfl (fun ls hl => ?_)
                        refine lv_iload hx hb dL_law_382 (lv_at hl 0 rfl) ?_
                        refine n_if_eq (tgt := 422) hx hb dL_law_384 (by decide) (by decide) (fun c9 => absurd c9 (by decide)) (fun _ => ?_)
                        refine lv_aload_n hx hb dL_law_387 rfl (lv_at hl 6 rfl) ?_
                        refine lv_iload hx hb dL_law_388 (lv_at hl 4 rfl) ?_
                        refine lv_iconst (v := nI 5) hx hb dL_law_390 (by decide) ?_
                        refine lv_ishr hx hb dL_law_391 ?_
                        refine lv_iload hx hb dL_law_392 (lv_at hl 3 rfl) ?_
                        refine lv_ixor hx hb dL_law_394 ?_
                        refine lv_aload_n hx hb dL_law_395 rfl (lv_at hl 8 rfl) ?_
                        refine lv_aload hx hb dL_law_396 (lv_at hl 9 rfl) ?_
                        refine lv_aload hx hb dL_law_398 (lv_at hl 10 rfl) ?_
                        refine lv_aload hx hb dL_law_400 (lv_at hl 11 rfl) ?_
                        refine lv_aload hx hb dL_law_402 (lv_at hl 12 rfl) ?_
                        refine lv_aload hx hb dL_law_404 (lv_at hl 13 rfl) ?_
                        refine lv_aload hx hb dL_law_406 (lv_at hl 14 rfl) ?_
                        refine lv_aload hx hb dL_law_408 (lv_at hl 15 rfl) ?_
                        refine lv_aload hx hb dL_law_410 (lv_at hl 16 rfl) ?_
                        refine lv_aload hx hb dL_law_412 (lv_at hl 17 rfl) ?_
                        refine lv_aload hx hb dL_law_414 (lv_at hl 18 rfl) ?_
                        refine va_calli (va_runS (As := [.ref h, .int ((v_12 >>> ((nI 5) &&& 31)) ^^^ v_13), .ref (ad 1), .ref (ad 2), .ref (ad 3), .ref (ad 4), .ref (ad 5), .ref (ad 6), .ref (ad 7), .ref (ad 8), .ref (ad 9), .ref (ad 10), .ref (ad 11)]) (rest := []) ⟨hx, hb, hml, hown, hts⟩ (cb_isTold l hst D ad cI cO cb eA mi st dO dT vF hAB hsI hdB ws_39 hc_39 hM_39 hLB_39 h15_39 hR_39 hT_39 ((v_12 >>> ((nI 5) &&& 31)) ^^^ v_13)) (va_cwS 13 hts gL_law_L_isTold rfl rfl rfl kd_L_isTold ⟨Nat.le_of_ble_eq_true rfl, Nat.le_of_ble_eq_true rfl⟩) ⟨bB_blind, bB_pre hK hKa hG hGT hN (fun q h9 => h9) hS (hfr _ _ _ hPa hS) hPw hPa _⟩ rfl rfl hl.1 rfl (lv_room (Nat.le_of_ble_eq_true rfl)) dL_law_416 ⟨by show ((1018 + 1243 * turn) + 243) + 1000 ≤ 852110; omega, by show ((21311 + 33138 * turn) + 12138) + 21000 ≤ 6545367; omega⟩) hS (fun _ _ h9 => h9) (fun _ h9 => h9) (fun r_40 u9 U8 H_42 locs_43 ht hvm hu_41 hB hz1 hk1 hS1 => ?_)
                        obtain ⟨ws_44, M_44⟩ := u9
                        obtain ⟨hr_44, hc_44, hM_44, hLB_44, h15_44, hR_44⟩ := hu_41
                        replace hB : va_P D vwCl ws_44 U8.heap ∧ va_P D vwCl (aws ad cI T_39) U8.heap := hB
                        rw [ht] at hB
                        clear hPw hPa hS
                        obtain ⟨hPw, hPa⟩ := hB
                        have hS := hS1
                        clear hS1 hz1 hk1 hvm ht U8
                        subst hr_44
                        replace hc_44 : cSt cI cO eA st A h M_44 ws_44 := hc_44
                        replace hM_44 : MI M_44 := hM_44
                        replace hLB_44 : m_LB M_44 := hLB_44
                        replace h15_44 : M_44 15 0 ≤ turn + 1 := h15_44
                        replace hR_44 : LR M_44 T_39 := hR_44
                        refine n_if_ne (tgt := 424) hx hb dL_law_419 (by decide) (by decide) (fun _ => ?_) (fun c9 => absurd c9 (by decide))
                        refine n_iinc (k := 19) (lv' := [(14, .int (nI (turn + 1))), (19, .int (nI 1)), (18, .int (nI ac9)), (17, .int v_14), (16, .int v_13), (15, .int v_12), (0, .ref b), (1, .ref h), (2, .ref (ad 0)), (3, .ref (ad 1)), (4, .ref (ad 2)), (5, .ref (ad 3)), (6, .ref (ad 4)), (7, .ref (ad 5)), (8, .ref (ad 6)), (9, .ref (ad 7)), (10, .ref (ad 8)), (11, .ref (ad 9)), (12, .ref (ad 10)), (13, .ref (ad 11))]) hx hb dL_law_424 hl rfl (by decide) rfl (fun ls hl => ?_)
                        refine lv_goto (tgt := 130) hx hb dL_law_427 (by decide) ?_
                        refine W.widen (k := 1018 + 1243 * (turn + 1)) (n := 21311 + 33138 * (turn + 1)) (by omega) (by omega) ?_
                        exact ih (by omega) (ws_44, M_44, T_39) _ _ ⟨⟨hc_44, hM_44, hLB_44, h15_44, hR_44, hT_39⟩, hPw, hPa, hS⟩ ls (lv_sub hl [6, 7, 8, 9, 10, 11, 12, 13, 14, 15, 16, 17, 18, 19, 0] rfl)
                      · refine lv_bipush (v := nI 40) hx hb dL_law_312 (by decide) ?_
                        refine lv_goto (tgt := 318) hx hb dL_law_314 (by decide) ?_
                        refine vp_callSi (W.runS (As := [.int v_13, .int (nI 40)]) (rest := [.int (nI 1), .ref h]) ⟨hx, hb, hml, hown, hts⟩ (ch_low l v_13 40 (by omega) (by omega)) (va_cwS 2 hts gL_law_L_low rfl rfl rfl kd_L_low ⟨Nat.le_of_ble_eq_true rfl, Nat.le_of_ble_eq_true rfl⟩) ⟨fun _ _ _ _ q => q, fun U hU hW => ⟨rfl, trivial⟩⟩ rfl rfl hl.1 rfl (lv_room (Nat.le_of_ble_eq_true rfl)) dL_law_318 ⟨by show (1018 + 1243 * turn) + 0 ≤ 852110; omega, by show (21311 + 33138 * turn) + 0 ≤ 6545367; omega⟩) (fun r_45 hr_45 => ?_)
                        subst hr_45
                        have hw8 : lowN v_13 40 < 40 := lowN_lt _ (by decide)
                        generalize lowN v_13 40 = w8 at hw8 ⊢
                        refine n_iadd hx hb dL_law_321 (z := 1 + w8) rfl ?_
                        refine lv_aload_n hx hb dL_law_322 rfl (lv_at hl 6 rfl) ?_
                        refine lv_aload_n hx hb dL_law_323 rfl (lv_at hl 7 rfl) ?_
                        refine lv_aload hx hb dL_law_324 (lv_at hl 8 rfl) ?_
                        refine lv_aload hx hb dL_law_326 (lv_at hl 9 rfl) ?_
                        refine lv_aload hx hb dL_law_328 (lv_at hl 10 rfl) ?_
                        refine lv_aload hx hb dL_law_330 (lv_at hl 11 rfl) ?_
                        refine lv_aload hx hb dL_law_332 (lv_at hl 12 rfl) ?_
                        refine lv_aload hx hb dL_law_334 (lv_at hl 13 rfl) ?_
                        refine lv_aload hx hb dL_law_336 (lv_at hl 14 rfl) ?_
                        refine lv_aload hx hb dL_law_338 (lv_at hl 16 rfl) ?_
                        refine lv_aload hx hb dL_law_340 (lv_at hl 17 rfl) ?_
                        refine va_calli (va_runS (As := [.ref h, .int (nI (1 + w8)), .ref (ad 0), .ref (ad 1), .ref (ad 2), .ref (ad 3), .ref (ad 4), .ref (ad 5), .ref (ad 6), .ref (ad 7), .ref (ad 8), .ref (ad 10), .ref (ad 11)]) (rest := []) ⟨hx, hb, hml, hown, hts⟩ (cb_days l hst D ad cI cO cb eA mi st dO dT vF hAB hsI hdB ws9 hc9 hM9 hLB9 h159 hR9 hT9 (1 + w8) (by exact hC) (by have f1 := hw8; omega) (by have f1 := hw8; omega)) (va_cwS 13 hts gL_law_L_days rfl rfl rfl kd_L_days ⟨Nat.le_of_ble_eq_true rfl, Nat.le_of_ble_eq_true rfl⟩) ⟨bB_blind, bB_pre hK hKa hG hGT hN (fun q h9 => h9) hS (hfr _ _ _ hPa hS) hPw hPa _⟩ rfl rfl hl.1 rfl (lv_room (Nat.le_of_ble_eq_true rfl)) dL_law_342 ⟨by show (1018 + 1243 * turn) + 243 ≤ 852110; omega, by show (21311 + 33138 * turn) + 12138 ≤ 6545367; omega⟩) hS (fun _ _ h9 => h9) (fun _ h9 => h9) (fun r_46 u9 U8 H_48 locs_49 ht hvm hu_47 hB hz1 hk1 hS1 => ?_)
                        obtain ⟨ws_50, M_50, T_50⟩ := u9
                        obtain ⟨hr_50, hc_50, hM_50, hLB_50, h15_50, hR_50, hT_50⟩ := hu_47
                        replace hT_50 : LT T_50 := hT_50
                        replace hB : va_P D vwCl ws_50 U8.heap ∧ va_P D vwCl (aws ad cI T_50) U8.heap := hB
                        rw [ht] at hB
                        clear hPw hPa hS
                        obtain ⟨hPw, hPa⟩ := hB
                        have hS := hS1
                        clear hS1 hz1 hk1 hvm ht U8
                        subst hr_50
                        replace hc_50 : cSt cI cO eA st A h M_50 ws_50 := hc_50
                        replace hM_50 : MI M_50 := hM_50
                        replace hLB_50 : m_LB M_50 := hLB_50
                        replace h15_50 : M_50 15 0 ≤ turn + 1 := h15_50
                        replace hR_50 : LR M_50 T_50 := hR_50
                        refine lv_goto (tgt := 380) hx hb dL_law_345 (by decide) ?_
                        refine lv_istore (lv' := [(19, .int (nI 1)), (18, .int (nI ac9)), (17, .int v_14), (16, .int v_13), (15, .int v_12), (0, .ref b), (1, .ref h), (2, .ref (ad 0)), (3, .ref (ad 1)), (4, .ref (ad 2)), (5, .ref (ad 3)), (6, .ref (ad 4)), (7, .ref (ad 5)), (8, .ref (ad 6)), (9, .ref (ad 7)), (10, .ref (ad 8)), (11, .ref (ad 9)), (12, .ref (ad 10)), (13, .ref (ad 11)), (14, .int (nI turn))]) hx hb dL_law_380 hl (by decide) rfl (fun ls hl => ?_)
                        refine lv_iload hx hb dL_law_382 (lv_at hl 0 rfl) ?_
                        refine n_if_eq (tgt := 422) hx hb dL_law_384 (by decide) (by decide) (fun c9 => absurd c9 (by decide)) (fun _ => ?_)
                        refine lv_aload_n hx hb dL_law_387 rfl (lv_at hl 6 rfl) ?_
                        refine lv_iload hx hb dL_law_388 (lv_at hl 4 rfl) ?_
                        refine lv_iconst (v := nI 5) hx hb dL_law_390 (by decide) ?_
                        refine lv_ishr hx hb dL_law_391 ?_
                        refine lv_iload hx hb dL_law_392 (lv_at hl 3 rfl) ?_
                        refine lv_ixor hx hb dL_law_394 ?_
                        refine lv_aload_n hx hb dL_law_395 rfl (lv_at hl 8 rfl) ?_
                        refine lv_aload hx hb dL_law_396 (lv_at hl 9 rfl) ?_
                        refine lv_aload hx hb dL_law_398 (lv_at hl 10 rfl) ?_
                        refine lv_aload hx hb dL_law_400 (lv_at hl 11 rfl) ?_
                        refine lv_aload hx hb dL_law_402 (lv_at hl 12 rfl) ?_
                        refine lv_aload hx hb dL_law_404 (lv_at hl 13 rfl) ?_
                        refine lv_aload hx hb dL_law_406 (lv_at hl 14 rfl) ?_
                        refine lv_aload hx hb dL_law_408 (lv_at hl 15 rfl) ?_
                        refine lv_aload hx hb dL_law_410 (lv_at hl 16 rfl) ?_
                        refine lv_aload hx hb dL_law_412 (lv_at hl 17 rfl) ?_
                        refine lv_aload hx hb dL_law_414 (lv_at hl 18 rfl) ?_
                        refine va_calli (va_runS (As := [.ref h, .int ((v_12 >>> ((nI 5) &&& 31)) ^^^ v_13), .ref (ad 1), .ref (ad 2), .ref (ad 3), .ref (ad 4), .ref (ad 5), .ref (ad 6), .ref (ad 7), .ref (ad 8), .ref (ad 9), .ref (ad 10), .ref (ad 11)]) (rest := []) ⟨hx, hb, hml, hown, hts⟩ (cb_isTold l hst D ad cI cO cb eA mi st dO dT vF hAB hsI hdB ws_50 hc_50 hM_50 hLB_50 h15_50 hR_50 hT_50 ((v_12 >>> ((nI 5) &&& 31)) ^^^ v_13)) (va_cwS 13 hts gL_law_L_isTold rfl rfl rfl kd_L_isTold ⟨Nat.le_of_ble_eq_true rfl, Nat.le_of_ble_eq_true rfl⟩) ⟨bB_blind, bB_pre hK hKa hG hGT hN (fun q h9 => h9) hS (hfr _ _ _ hPa hS) hPw hPa _⟩ rfl rfl hl.1 rfl (lv_room (Nat.le_of_ble_eq_true rfl)) dL_law_416 ⟨by show ((1018 + 1243 * turn) + 243) + 1000 ≤ 852110; omega, by show ((21311 + 33138 * turn) + 12138) + 21000 ≤ 6545367; omega⟩) hS (fun _ _ h9 => h9) (fun _ h9 => h9) (fun r_51 u9 U8 H_53 locs_54 ht hvm hu_52 hB hz1 hk1 hS1 => ?_)
                        obtain ⟨ws_55, M_55⟩ := u9
                        obtain ⟨hr_55, hc_55, hM_55, hLB_55, h15_55, hR_55⟩ := hu_52
                        replace hB : va_P D vwCl ws_55 U8.heap ∧ va_P D vwCl (aws ad cI T_50) U8.heap := hB
                        rw [ht] at hB
                        clear hPw hPa hS
                        obtain ⟨hPw, hPa⟩ := hB
                        have hS := hS1
                        clear hS1 hz1 hk1 hvm ht U8
                        subst hr_55
                        replace hc_55 : cSt cI cO eA st A h M_55 ws_55 := hc_55
                        replace hM_55 : MI M_55 := hM_55
                        replace hLB_55 : m_LB M_55 := hLB_55
                        replace h15_55 : M_55 15 0 ≤ turn + 1 := h15_55
                        replace hR_55 : LR M_55 T_50 := hR_55
                        refine n_if_ne (tgt := 424) hx hb dL_law_419 (by decide) (by decide) (fun _ => ?_) (fun c9 => absurd c9 (by decide))
                        refine n_iinc (k := 19) (lv' := [(14, .int (nI (turn + 1))), (19, .int (nI 1)), (18, .int (nI ac9)), (17, .int v_14), (16, .int v_13), (15, .int v_12), (0, .ref b), (1, .ref h), (2, .ref (ad 0)), (3, .ref (ad 1)), (4, .ref (ad 2)), (5, .ref (ad 3)), (6, .ref (ad 4)), (7, .ref (ad 5)), (8, .ref (ad 6)), (9, .ref (ad 7)), (10, .ref (ad 8)), (11, .ref (ad 9)), (12, .ref (ad 10)), (13, .ref (ad 11))]) hx hb dL_law_424 hl rfl (by decide) rfl (fun ls hl => ?_)
                        refine lv_goto (tgt := 130) hx hb dL_law_427 (by decide) ?_
                        refine W.widen (k := 1018 + 1243 * (turn + 1)) (n := 21311 + 33138 * (turn + 1)) (by omega) (by omega) ?_
                        exact ih (by omega) (ws_55, M_55, T_50) _ _ ⟨⟨hc_55, hM_55, hLB_55, h15_55, hR_55, hT_50⟩, hPw, hPa, hS⟩ ls (lv_sub hl [6, 7, 8, 9, 10, 11, 12, 13, 14, 15, 16, 17, 18, 19, 0] rfl)
                  · refine lv_aload_n hx hb dL_law_269 rfl (lv_at hl 5 rfl) ?_
                    refine lv_iload hx hb dL_law_270 (lv_at hl 0 rfl) ?_
                    refine lv_iload hx hb dL_law_272 (lv_at hl 2 rfl) ?_
                    refine lv_iload hx hb dL_law_274 (lv_at hl 1 rfl) ?_
                    refine lv_aload_n hx hb dL_law_276 rfl (lv_at hl 6 rfl) ?_
                    refine lv_aload_n hx hb dL_law_277 rfl (lv_at hl 7 rfl) ?_
                    refine lv_aload hx hb dL_law_278 (lv_at hl 8 rfl) ?_
                    refine lv_aload hx hb dL_law_280 (lv_at hl 9 rfl) ?_
                    refine lv_aload hx hb dL_law_282 (lv_at hl 10 rfl) ?_
                    refine lv_aload hx hb dL_law_284 (lv_at hl 17 rfl) ?_
                    refine va_calli (va_runS (As := [.ref h, .int (nI ac9), .int v_13, .int v_14, .ref (ad 0), .ref (ad 1), .ref (ad 2), .ref (ad 3), .ref (ad 4), .ref (ad 11)]) (rest := []) ⟨hx, hb, hml, hown, hts⟩ (cb_tenders l hst D ad cI cO cb eA mi st dO dT vF hAB hsI hdB ws9 hc9 hM9 hLB9 h159 hR9 hT9 ac9 v_13 v_14 (by have f1 := hac9; omega) (by exact hC) (by have f1 := hac9; omega)) (va_cwS 10 hts gL_law_L_tenders rfl rfl rfl kd_L_tenders ⟨Nat.le_of_ble_eq_true rfl, Nat.le_of_ble_eq_true rfl⟩) ⟨bB_blind, bB_pre hK hKa hG hGT hN (fun q h9 => h9) hS (hfr _ _ _ hPa hS) hPw hPa _⟩ rfl rfl hl.1 rfl (lv_room (Nat.le_of_ble_eq_true rfl)) dL_law_286 ⟨by show (1018 + 1243 * turn) + 42 ≤ 852110; omega, by show (21311 + 33138 * turn) + 930 ≤ 6545367; omega⟩) hS (fun _ _ h9 => h9) (fun _ h9 => h9) (fun r_56 u9 U8 H_58 locs_59 ht hvm hu_57 hB hz1 hk1 hS1 => ?_)
                    obtain ⟨ws_60, M_60, T_60⟩ := u9
                    obtain ⟨hr_60, hc_60, hM_60, hLB_60, h15_60, hR_60, hT_60⟩ := hu_57
                    replace hT_60 : LT T_60 := hT_60
                    replace hB : va_P D vwCl ws_60 U8.heap ∧ va_P D vwCl (aws ad cI T_60) U8.heap := hB
                    rw [ht] at hB
                    clear hPw hPa hS
                    obtain ⟨hPw, hPa⟩ := hB
                    have hS := hS1
                    clear hS1 hz1 hk1 hvm ht U8
                    subst hr_60
                    replace hc_60 : cSt cI cO eA st A h M_60 ws_60 := hc_60
                    replace hM_60 : MI M_60 := hM_60
                    replace hLB_60 : m_LB M_60 := hLB_60
                    replace h15_60 : M_60 15 0 ≤ turn + 1 := h15_60
                    replace hR_60 : LR M_60 T_60 := hR_60
                    refine lv_goto (tgt := 380) hx hb dL_law_289 (by decide) ?_
                    refine lv_istore (lv' := [(19, .int (nI 1)), (18, .int (nI ac9)), (17, .int v_14), (16, .int v_13), (15, .int v_12), (0, .ref b), (1, .ref h), (2, .ref (ad 0)), (3, .ref (ad 1)), (4, .ref (ad 2)), (5, .ref (ad 3)), (6, .ref (ad 4)), (7, .ref (ad 5)), (8, .ref (ad 6)), (9, .ref (ad 7)), (10, .ref (ad 8)), (11, .ref (ad 9)), (12, .ref (ad 10)), (13, .ref (ad 11)), (14, .int (nI turn))]) hx hb dL_law_380 hl (by decide) rfl (fun ls hl => ?_)
                    refine lv_iload hx hb dL_law_382 (lv_at hl 0 rfl) ?_
                    refine n_if_eq (tgt := 422) hx hb dL_law_384 (by decide) (by decide) (fun c9 => absurd c9 (by decide)) (fun _ => ?_)
                    refine lv_aload_n hx hb dL_law_387 rfl (lv_at hl 6 rfl) ?_
                    refine lv_iload hx hb dL_law_388 (lv_at hl 4 rfl) ?_
                    refine lv_iconst (v := nI 5) hx hb dL_law_390 (by decide) ?_
                    refine lv_ishr hx hb dL_law_391 ?_
                    refine lv_iload hx hb dL_law_392 (lv_at hl 3 rfl) ?_
                    refine lv_ixor hx hb dL_law_394 ?_
                    refine lv_aload_n hx hb dL_law_395 rfl (lv_at hl 8 rfl) ?_
                    refine lv_aload hx hb dL_law_396 (lv_at hl 9 rfl) ?_
                    refine lv_aload hx hb dL_law_398 (lv_at hl 10 rfl) ?_
                    refine lv_aload hx hb dL_law_400 (lv_at hl 11 rfl) ?_
                    refine lv_aload hx hb dL_law_402 (lv_at hl 12 rfl) ?_
                    refine lv_aload hx hb dL_law_404 (lv_at hl 13 rfl) ?_
                    refine lv_aload hx hb dL_law_406 (lv_at hl 14 rfl) ?_
                    refine lv_aload hx hb dL_law_408 (lv_at hl 15 rfl) ?_
                    refine lv_aload hx hb dL_law_410 (lv_at hl 16 rfl) ?_
                    refine lv_aload hx hb dL_law_412 (lv_at hl 17 rfl) ?_
                    refine lv_aload hx hb dL_law_414 (lv_at hl 18 rfl) ?_
                    refine va_calli (va_runS (As := [.ref h, .int ((v_12 >>> ((nI 5) &&& 31)) ^^^ v_13), .ref (ad 1), .ref (ad 2), .ref (ad 3), .ref (ad 4), .ref (ad 5), .ref (ad 6), .ref (ad 7), .ref (ad 8), .ref (ad 9), .ref (ad 10), .ref (ad 11)]) (rest := []) ⟨hx, hb, hml, hown, hts⟩ (cb_isTold l hst D ad cI cO cb eA mi st dO dT vF hAB hsI hdB ws_60 hc_60 hM_60 hLB_60 h15_60 hR_60 hT_60 ((v_12 >>> ((nI 5) &&& 31)) ^^^ v_13)) (va_cwS 13 hts gL_law_L_isTold rfl rfl rfl kd_L_isTold ⟨Nat.le_of_ble_eq_true rfl, Nat.le_of_ble_eq_true rfl⟩) ⟨bB_blind, bB_pre hK hKa hG hGT hN (fun q h9 => h9) hS (hfr _ _ _ hPa hS) hPw hPa _⟩ rfl rfl hl.1 rfl (lv_room (Nat.le_of_ble_eq_true rfl)) dL_law_416 ⟨by show ((1018 + 1243 * turn) + 42) + 1000 ≤ 852110; omega, by show ((21311 + 33138 * turn) + 930) + 21000 ≤ 6545367; omega⟩) hS (fun _ _ h9 => h9) (fun _ h9 => h9) (fun r_61 u9 U8 H_63 locs_64 ht hvm hu_62 hB hz1 hk1 hS1 => ?_)
                    obtain ⟨ws_65, M_65⟩ := u9
                    obtain ⟨hr_65, hc_65, hM_65, hLB_65, h15_65, hR_65⟩ := hu_62
                    replace hB : va_P D vwCl ws_65 U8.heap ∧ va_P D vwCl (aws ad cI T_60) U8.heap := hB
                    rw [ht] at hB
                    clear hPw hPa hS
                    obtain ⟨hPw, hPa⟩ := hB
                    have hS := hS1
                    clear hS1 hz1 hk1 hvm ht U8
                    subst hr_65
                    replace hc_65 : cSt cI cO eA st A h M_65 ws_65 := hc_65
                    replace hM_65 : MI M_65 := hM_65
                    replace hLB_65 : m_LB M_65 := hLB_65
                    replace h15_65 : M_65 15 0 ≤ turn + 1 := h15_65
                    replace hR_65 : LR M_65 T_60 := hR_65
                    refine n_if_ne (tgt := 424) hx hb dL_law_419 (by decide) (by decide) (fun _ => ?_) (fun c9 => absurd c9 (by decide))
                    refine n_iinc (k := 19) (lv' := [(14, .int (nI (turn + 1))), (19, .int (nI 1)), (18, .int (nI ac9)), (17, .int v_14), (16, .int v_13), (15, .int v_12), (0, .ref b), (1, .ref h), (2, .ref (ad 0)), (3, .ref (ad 1)), (4, .ref (ad 2)), (5, .ref (ad 3)), (6, .ref (ad 4)), (7, .ref (ad 5)), (8, .ref (ad 6)), (9, .ref (ad 7)), (10, .ref (ad 8)), (11, .ref (ad 9)), (12, .ref (ad 10)), (13, .ref (ad 11))]) hx hb dL_law_424 hl rfl (by decide) rfl (fun ls hl => ?_)
                    refine lv_goto (tgt := 130) hx hb dL_law_427 (by decide) ?_
                    refine W.widen (k := 1018 + 1243 * (turn + 1)) (n := 21311 + 33138 * (turn + 1)) (by omega) (by omega) ?_
                    exact ih (by omega) (ws_65, M_65, T_60) _ _ ⟨⟨hc_65, hM_65, hLB_65, h15_65, hR_65, hT_60⟩, hPw, hPa, hS⟩ ls (lv_sub hl [6, 7, 8, 9, 10, 11, 12, 13, 14, 15, 16, 17, 18, 19, 0] rfl)
                · have hk9 := hk_20
                  refine lv_iload hx hb dL_law_221 (lv_at hl 17 rfl) ?_
                  refine lv_iconst (v := nI 2) hx hb dL_law_223 (by decide) ?_
                  refine n_icmp_ge (tgt := 231) hx hb dL_law_224 (by decide) (by omega) (by decide) (fun c_66 => ?_) (fun c_66 => ?_)
                  · refine lv_iload hx hb dL_law_231 (lv_at hl 17 rfl) ?_
                    refine lv_iconst (v := nI 5) hx hb dL_law_233 (by decide) ?_
                    refine n_icmp_ge (tgt := 241) hx hb dL_law_234 (by decide) (by omega) (by decide) (fun c_67 => ?_) (fun c_67 => ?_)
                    · refine lv_iload hx hb dL_law_241 (lv_at hl 2 rfl) ?_
                      refine lv_iload hx hb dL_law_243 (lv_at hl 17 rfl) ?_
                      refine lv_bipush (v := nI 25) hx hb dL_law_245 (by decide) ?_
                      refine n_icmp_ge (tgt := 255) hx hb dL_law_247 (by decide) (by omega) (by decide) (fun c_68 => ?_) (fun c_68 => ?_)
                      · refine lv_bipush (v := nI 48) hx hb dL_law_255 (by decide) ?_
                        refine vp_callSi (W.runS (As := [.int v_12, .int (nI 48)]) (rest := []) ⟨hx, hb, hml, hown, hts⟩ (ch_low l v_12 48 (by omega) (by omega)) (va_cwS 2 hts gL_law_L_low rfl rfl rfl kd_L_low ⟨Nat.le_of_ble_eq_true rfl, Nat.le_of_ble_eq_true rfl⟩) ⟨fun _ _ _ _ q => q, fun U hU hW => ⟨rfl, trivial⟩⟩ rfl rfl hl.1 rfl (lv_room (Nat.le_of_ble_eq_true rfl)) dL_law_257 ⟨by show (1018 + 1243 * turn) + 0 ≤ 852110; omega, by show (21311 + 33138 * turn) + 0 ≤ 6545367; omega⟩) (fun r_69 hr_69 => ?_)
                        subst hr_69
                        have hw9 : lowN v_12 48 < 48 := lowN_lt _ (by decide)
                        generalize lowN v_12 48 = w9 at hw9 ⊢
                        refine lv_istore (lv' := [(18, .int (nI w9)), (17, .int v_14), (16, .int v_13), (15, .int v_12), (0, .ref b), (1, .ref h), (2, .ref (ad 0)), (3, .ref (ad 1)), (4, .ref (ad 2)), (5, .ref (ad 3)), (6, .ref (ad 4)), (7, .ref (ad 5)), (8, .ref (ad 6)), (9, .ref (ad 7)), (10, .ref (ad 8)), (11, .ref (ad 9)), (12, .ref (ad 10)), (13, .ref (ad 11)), (14, .int (nI turn))]) hx hb dL_law_260 hl (by decide) rfl (fun ls hl => ?_)
                        exact hk_20 w9 (by omega) ls (lv_sub hl [0, 1, 2, 3, 4, 5, 6, 7, 8, 9, 10, 11, 12, 13, 14, 15, 16, 17, 18] rfl)
                      · refine lv_bipush (v := nI 15) hx hb dL_law_250 (by decide) ?_
                        refine lv_goto (tgt := 257) hx hb dL_law_252 (by decide) ?_
                        refine vp_callSi (W.runS (As := [.int v_12, .int (nI 15)]) (rest := []) ⟨hx, hb, hml, hown, hts⟩ (ch_low l v_12 15 (by omega) (by omega)) (va_cwS 2 hts gL_law_L_low rfl rfl rfl kd_L_low ⟨Nat.le_of_ble_eq_true rfl, Nat.le_of_ble_eq_true rfl⟩) ⟨fun _ _ _ _ q => q, fun U hU hW => ⟨rfl, trivial⟩⟩ rfl rfl hl.1 rfl (lv_room (Nat.le_of_ble_eq_true rfl)) dL_law_257 ⟨by show (1018 + 1243 * turn) + 0 ≤ 852110; omega, by show (21311 + 33138 * turn) + 0 ≤ 6545367; omega⟩) (fun r_70 hr_70 => ?_)
                        subst hr_70
                        have hw9 : lowN v_12 15 < 15 := lowN_lt _ (by decide)
                        generalize lowN v_12 15 = w9 at hw9 ⊢
                        refine lv_istore (lv' := [(18, .int (nI w9)), (17, .int v_14), (16, .int v_13), (15, .int v_12), (0, .ref b), (1, .ref h), (2, .ref (ad 0)), (3, .ref (ad 1)), (4, .ref (ad 2)), (5, .ref (ad 3)), (6, .ref (ad 4)), (7, .ref (ad 5)), (8, .ref (ad 6)), (9, .ref (ad 7)), (10, .ref (ad 8)), (11, .ref (ad 9)), (12, .ref (ad 10)), (13, .ref (ad 11)), (14, .int (nI turn))]) hx hb dL_law_260 hl (by decide) rfl (fun ls hl => ?_)
                        exact hk_20 w9 (by omega) ls (lv_sub hl [0, 1, 2, 3, 4, 5, 6, 7, 8, 9, 10, 11, 12, 13, 14, 15, 16, 17, 18] rfl)
                    · refine lv_iconst (v := nI 4) hx hb dL_law_237 (by decide) ?_
                      refine lv_goto (tgt := 260) hx hb dL_law_238 (by decide) ?_
                      refine lv_istore (lv' := [(18, .int (nI 4)), (17, .int v_14), (16, .int v_13), (15, .int v_12), (0, .ref b), (1, .ref h), (2, .ref (ad 0)), (3, .ref (ad 1)), (4, .ref (ad 2)), (5, .ref (ad 3)), (6, .ref (ad 4)), (7, .ref (ad 5)), (8, .ref (ad 6)), (9, .ref (ad 7)), (10, .ref (ad 8)), (11, .ref (ad 9)), (12, .ref (ad 10)), (13, .ref (ad 11)), (14, .int (nI turn))]) hx hb dL_law_260 hl (by decide) rfl (fun ls hl => ?_)
                      exact hk_20 4 (by omega) ls (lv_sub hl [0, 1, 2, 3, 4, 5, 6, 7, 8, 9, 10, 11, 12, 13, 14, 15, 16, 17, 18] rfl)
                  · refine lv_iconst (v := nI 0) hx hb dL_law_227 (by decide) ?_
                    refine lv_goto (tgt := 260) hx hb dL_law_228 (by decide) ?_
                    refine lv_istore (lv' := [(18, .int (nI 0)), (17, .int v_14), (16, .int v_13), (15, .int v_12), (0, .ref b), (1, .ref h), (2, .ref (ad 0)), (3, .ref (ad 1)), (4, .ref (ad 2)), (5, .ref (ad 3)), (6, .ref (ad 4)), (7, .ref (ad 5)), (8, .ref (ad 6)), (9, .ref (ad 7)), (10, .ref (ad 8)), (11, .ref (ad 9)), (12, .ref (ad 10)), (13, .ref (ad 11)), (14, .int (nI turn))]) hx hb dL_law_260 hl (by decide) rfl (fun ls hl => ?_)
                    exact hk_20 0 (by omega) ls (lv_sub hl [0, 1, 2, 3, 4, 5, 6, 7, 8, 9, 10, 11, 12, 13, 14, 15, 16, 17, 18] rfl)
              · refine lv_iconst (v := nI 1) hx hb dL_law_219 (by decide) ?_
                exact kend _ _ _ _ _ ls hS (by omega) (by omega) dL_law_220
  · refine lv_aload hx hb dL_law_84 (lv_at hl 4 rfl) ?_
    refine lv_iload hx hb dL_law_86 (lv_at hl 14 rfl) ?_
    refine lv_iconst (v := (-1)) hx hb dL_law_88 (by decide) ?_
    refine b_iast2m hx hb hKa hPa hPw hdB hc.dis hAB hS (by omega) dL_law_89 (fun H1 locs1 hPa1 hPw1 hS1 => ?_)
    clear hPa hPw hS
    have hPa := hPa1; have hPw := hPw1; have hS := hS1; clear hPa1 hPw1 hS1
    refine n_iinc (k := 14) (lv' := [(14, .int (nI (k + 1))), (0, .ref b), (1, .ref h), (2, .ref (ad 0)), (3, .ref (ad 1)), (4, .ref (ad 2)), (5, .ref (ad 3)), (6, .ref (ad 4)), (7, .ref (ad 5)), (8, .ref (ad 6)), (9, .ref (ad 7)), (10, .ref (ad 8)), (11, .ref (ad 9)), (12, .ref (ad 10)), (13, .ref (ad 11))]) hx hb dL_law_90 hl rfl (by decide) rfl (fun ls hl => ?_)
    refine lv_goto (tgt := 78) hx hb dL_law_93 (by decide) ?_
    have eT_71 : t_z (k + 1) = mu (t_z k) 2 k 0 := by exact (mu_tz k).symm
    refine ih_2 (by omega) _ _ ls (by rw [eT_71]; exact hPa) hPw hS ?_
    show lv_has ls 20 [(0, .ref b), (1, .ref h), (2, .ref (ad 0)), (3, .ref (ad 1)), (4, .ref (ad 2)), (5, .ref (ad 3)), (6, .ref (ad 4)), (7, .ref (ad 5)), (8, .ref (ad 6)), (9, .ref (ad 7)), (10, .ref (ad 8)), (11, .ref (ad 9)), (12, .ref (ad 10)), (13, .ref (ad 11)), (14, .int (nI (k + 1)))]
    exact lv_sub hl [1, 2, 3, 4, 5, 6, 7, 8, 9, 10, 11, 12, 13, 14, 0] rfl
