/-! the law's own body -/
def xB (b L : Nat) (xs : Nat → Int32) : State → Prop := fun U => va_X b L xs U U.heap ∧ b < U.heap.size
theorem xB_blind {b L : Nat} {xs : Nat → Int32} {av : List Value} : FrameBlind (va_Pc av (xB b L xs)) := fun a U g mk q => ⟨q.1, va_X.moved (u := U) (U := U.calling g mk a) (Vm.Alike.refl U.vm) q.2.1, q.2.2⟩
theorem xB_pre {b L : Nat} {xs : Nat → Int32} {A : Nat → Prop} {s : State} {H : Heap} {locs : List Loc} (hX : va_X b L xs s s.heap) (hbl : b < s.heap.size) (hbA : ¬ A b) (hS : va_S A s.heap H locs) (av : List Value) : ∀ U : State, U.heap = H → s.WarmedH U.vm → va_Pc av (xB b L xs) av.toArray U :=
  fun U hU hW => ⟨rfl, by rw [hU]; exact (hX.kept (hS.2.1 b hbl hbA)).moved hW.alike, by rw [hU]; exact Nat.lt_of_lt_of_le hbl hS.1⟩
set_option maxRecDepth 100000 in
theorem ch_cell (l : Launch) (b L : Nat) (xs : Nat → Int32) (hL : L < 2 ^ 31) (k : Nat) (hk : k < 2 ^ 31) : Met l yL_cell wsL_cell ({ frames := 0, cells := 0, slots := 0, locals := 0 }) (va_Pc [.ref b, .int (nI k)] (xB b L xs)) (vp_Si (fun _ => True)) 0 0 (fun _ => False) := by
  refine Met.ofW (cc := cL_cell) (maxL := 2) (ret := (some .int)) (by decide) rfl ?_
  intro p e s m args below meth c s₁ B hml hv
  obtain ⟨rfl, hX, hbl⟩ := hv
  have hx := B.exec
  have hb := B.bytes
  have hr := B.returns
  have hts := atoms_spec (ws := wsL_cell) B.pre
  have hown : s.vm.findClass RL = some m.cls := findClass_of_methodNamed B.named
  have hl := lv_entry ([.ref b, .int (nI k)]) (n := 2) (Nat.le_of_ble_eq_true rfl)
  rw [lg_entry_eq]
  generalize (lg_sl ([.ref b, .int (nI k)]) ++ List.replicate (2 - (lg_sl ([.ref b, .int (nI k)])).length) Slot.unset).toArray = ls at hl ⊢
  have hl : lv_has ls 2 [(0, .ref b), (1, .int (nI k))] := hl
  refine lv_iload_n hx hb dL_cell_0 rfl (lv_at hl 1 rfl) ?_
  refine lv_aload_n hx hb dL_cell_1 rfl (lv_at hl 0 rfl) ?_
  refine va_slen (A := fun _ => False) hx hb hX hbl (fun z => z) va_S.rf dL_cell_2 ?_
  refine n_icmp_ge (a := k) (b := L) (tgt := 12) hx hb dL_cell_3 (by decide) (by omega) (by omega) (fun c9 => ?_) (fun c9 => ?_)
  · refine lv_ldc (v := nI 1205586915) hx hb hown (hts (.constant RL 7 (1205586915)) (List.mem_of_getElem? (i := 1) rfl)) dL_cell_12 ?_
    refine lv_iload_n hx hb dL_cell_14 rfl (lv_at hl 1 rfl) ?_
    refine lv_bipush (v := nI 8) hx hb dL_cell_15 (by decide) ?_
    refine lv_iadd hx hb dL_cell_17 ?_
    refine lv_imul hx hb dL_cell_18 ?_
    exact W.iret hx hb hr (fun U9 ht hW => ⟨_, rfl, trivial, ht⟩) (fun _ h => by cases h) dL_cell_19
  · refine lv_aload_n hx hb dL_cell_6 rfl (lv_at hl 0 rfl) ?_
    refine lv_iload_n hx hb dL_cell_7 rfl (lv_at hl 1 rfl) ?_
    refine va_sld (A := fun _ => False) hx hb hX hbl (fun z => z) va_S.rf (vp_in_nI (by omega) (by omega)) dL_cell_8 ?_
    refine lv_goto (tgt := 19) hx hb dL_cell_9 (by decide) ?_
    exact W.iret hx hb hr (fun U9 ht hW => ⟨_, rfl, trivial, ht⟩) (fun _ h => by cases h) dL_cell_19
set_option maxHeartbeats 8000000 in
set_option maxRecDepth 100000 in
theorem law_run {p : Program} {e : Env} {s : State} {m : MethodId} {args : Array Value} {below : List Frame} {meth : Method} {c : Code} {Q : State → Prop} (l : Launch) (hst : l.stackTraces = false) (D : va_G) (ad : Nat → Nat) (cI cO cb : ClassId) (eA mi : Nat) (st : Nat → Nat) (dO dT : Nat) (vF : Value) {A B : Nat → Prop} (hAB : ∀ q, A q → ¬ B q) (hsI : sInj st) (hdB : aDis B ad) (hx : p.tables.exec = Jvm.exec) (hb : c.code = cL_law) (hml : c.maxLocals = 20) (hown : s.vm.findClass RL = some m.cls) (hts : ∀ w ∈ wsL_law, w.before args s = true) {b L : Nat} {xs : Nat → Int32} (hX : va_X b L xs s s.heap) (hbl : b < s.heap.size) (hL : L ≤ 260) (hK : va_K D vwCl (cty cI cO cb) s) (hKa : va_K D vwCl [(cI, .int)] s) (hG : gS eA mi st (fun q => A q ∨ B q) s s.heap) (hGT : gT dO dT vF (fun q => A q ∨ B q) s s.heap) (hN : lNc s) (hAn : ∀ q : Nat, (A q ∨ B q) → s.heap.size ≤ q) (hfr : ∀ (T : MS) (H : Heap) (locs : List Loc), va_P D vwCl (aws ad cI T) H → va_S (fun q => A q ∨ B q) s.heap H locs → ∀ q : Nat, H.size ≤ q → A q) (kend : ∀ (H : Heap) (locs : List Loc) (cells slots pc : Nat) (ls : Array Slot), va_S (fun q => A q ∨ B q) s.heap H locs → cells ≤ 852110 → slots ≤ 6545367 → decode cL_law pc = .ok (.ireturn, 1) → W p l e room_1 s m args below meth c H locs cells slots Q (F0 m pc ls [.int (nI 1)])) {h : Nat} {ws : va_W} {M T : MS} (hc : cSt cI cO eA st A h M ws) (hM : MI M) (hLB : m_LB M) (h15 : M 15 0 ≤ 0) (hR : LR M T) (hT : LT T) {H : Heap} {locs : List Loc} (hPw : va_P D vwCl ws H) (hPa : va_P D vwCl (aws ad cI T) H) (hS : va_S (fun q => A q ∨ B q) s.heap H locs) : ∀ ls, lv_has ls 20 [(0, .ref b), (1, .ref h), (2, .ref (ad 0)), (3, .ref (ad 1)), (4, .ref (ad 2)), (5, .ref (ad 3)), (6, .ref (ad 4)), (7, .ref (ad 5)), (8, .ref (ad 6)), (9, .ref (ad 7)), (10, .ref (ad 8)), (11, .ref (ad 9)), (12, .ref (ad 10)), (13, .ref (ad 11)), (14, .int (nI 4))] → W p l e room_1 s m args below meth c H locs 18 311 Q (F0 m 96 ls []) := by
  intro ls hl
  refine lv_aload_n hx hb dL_law_96 rfl (lv_at hl 1 rfl) ?_
  refine lv_iconst (v := nI 0) hx hb dL_law_97 (by decide) ?_
  refine lv_aload_n hx hb dL_law_98 rfl (lv_at hl 3 rfl) ?_
  refine lv_aload hx hb dL_law_99 (lv_at hl 4 rfl) ?_
  refine lv_aload hx hb dL_law_101 (lv_at hl 5 rfl) ?_
  refine lv_aload hx hb dL_law_103 (lv_at hl 6 rfl) ?_
  refine lv_aload hx hb dL_law_105 (lv_at hl 7 rfl) ?_
  refine lv_aload hx hb dL_law_107 (lv_at hl 8 rfl) ?_
  refine lv_aload hx hb dL_law_109 (lv_at hl 9 rfl) ?_
  refine lv_aload hx hb dL_law_111 (lv_at hl 10 rfl) ?_
  refine lv_aload hx hb dL_law_113 (lv_at hl 11 rfl) ?_
  refine lv_aload hx hb dL_law_115 (lv_at hl 12 rfl) ?_
  refine lv_aload hx hb dL_law_117 (lv_at hl 13 rfl) ?_
  refine va_calli (va_runS (As := [.ref h, .int (nI 0), .ref (ad 1), .ref (ad 2), .ref (ad 3), .ref (ad 4), .ref (ad 5), .ref (ad 6), .ref (ad 7), .ref (ad 8), .ref (ad 9), .ref (ad 10), .ref (ad 11)]) (rest := []) ⟨hx, hb, hml, hown, hts⟩ (cb_isTold l hst D ad cI cO cb eA mi st dO dT vF hAB hsI hdB ws hc hM hLB h15 hR hT (nI 0)) (va_cwS 13 hts gL_law_L_isTold rfl rfl rfl kd_L_isTold ⟨Nat.le_of_ble_eq_true rfl, Nat.le_of_ble_eq_true rfl⟩) ⟨bB_blind, bB_pre hK hKa hG hGT hN (fun q h9 => h9) hS (hfr _ _ _ hPa hS) hPw hPa _⟩ rfl rfl hl.1 rfl (lv_room (Nat.le_of_ble_eq_true rfl)) dL_law_119 ⟨by show 18 + 1000 ≤ 852110; omega, by show 311 + 21000 ≤ 6545367; omega⟩) hS (fun _ _ h9 => h9) (fun _ h9 => h9) (fun r_1 u9 U8 H_3 locs_4 ht hvm hu_2 hB hz1 hk1 hS1 => ?_)
  obtain ⟨ws_5, M_5⟩ := u9
  obtain ⟨hr_5, hc_5, hM_5, hLB_5, h15_5, hR_5⟩ := hu_2
  replace hB : va_P D vwCl ws_5 U8.heap ∧ va_P D vwCl (aws ad cI T) U8.heap := hB
  rw [ht] at hB
  clear hPw hPa hS
  obtain ⟨hPw, hPa⟩ := hB
  have hS := hS1
  clear hS1 hz1 hk1 hvm ht U8
  subst hr_5
  replace hc_5 : cSt cI cO eA st A h M_5 ws_5 := hc_5
  replace hM_5 : MI M_5 := hM_5
  replace hLB_5 : m_LB M_5 := hLB_5
  replace h15_5 : M_5 15 0 ≤ 0 := h15_5
  replace hR_5 : LR M_5 T := hR_5
  refine n_if_ne (tgt := 127) hx hb dL_law_122 (by decide) (by decide) (fun _ => ?_) (fun c9 => absurd c9 (by decide))
  refine lv_iconst (v := nI 0) hx hb dL_law_127 (by decide) ?_
  refine lv_istore (lv' := [(14, .int (nI 0)), (0, .ref b), (1, .ref h), (2, .ref (ad 0)), (3, .ref (ad 1)), (4, .ref (ad 2)), (5, .ref (ad 3)), (6, .ref (ad 4)), (7, .ref (ad 5)), (8, .ref (ad 6)), (9, .ref (ad 7)), (10, .ref (ad 8)), (11, .ref (ad 9)), (12, .ref (ad 10)), (13, .ref (ad 11))]) hx hb dL_law_128 hl (by decide) rfl (fun ls hl => ?_)
  refine W.widen (k := 1018 + 1243 * 0) (n := 21311 + 33138 * 0) (by omega) (by omega) ?_
  refine w_loopX (σ := va_W × MS × MS) (n := 150) (nL := 20) (fun turn _ => [(0, .ref b), (1, .ref h), (2, .ref (ad 0)), (3, .ref (ad 1)), (4, .ref (ad 2)), (5, .ref (ad 3)), (6, .ref (ad 4)), (7, .ref (ad 5)), (8, .ref (ad 6)), (9, .ref (ad 7)), (10, .ref (ad 8)), (11, .ref (ad 9)), (12, .ref (ad 10)), (13, .ref (ad 11)), (14, .int (nI turn))]) (fun turn u9 H9 locs9 => LQ cI cO eA st A h turn u9 ∧ va_P D vwCl u9.1 H9 ∧ va_P D vwCl (aws ad cI u9.2.2) H9 ∧ va_S (fun q => A q ∨ B q) s.heap H9 locs9) (fun turn => 1018 + 1243 * turn) (fun turn => 21311 + 33138 * turn) (fun turn hb9 u9 H9 locs9 hJ ih ls hl => ?_) 0 (Nat.zero_le _) (ws_5, M_5, T) _ _ ⟨⟨hc_5, hM_5, hLB_5, h15_5, hR_5, hT⟩, hPw, hPa, hS⟩ ls (lv_sub hl [1, 2, 3, 4, 5, 6, 7, 8, 9, 10, 11, 12, 13, 14, 0] rfl)
  clear hPw hPa hS
  obtain ⟨ws9, M9, T9⟩ := u9
  obtain ⟨⟨hc9, hM9, hLB9, h159, hR9, hT9⟩, hPw, hPa, hS⟩ := hJ
  replace hc9 : cSt cI cO eA st A h M9 ws9 := hc9
  replace hM9 : MI M9 := hM9
  replace hLB9 : m_LB M9 := hLB9
  replace h159 : M9 15 0 ≤ turn := h159
  replace hR9 : LR M9 T9 := hR9
  replace hT9 : LT T9 := hT9
  replace hPw : va_P D vwCl ws9 H9 := hPw
  replace hPa : va_P D vwCl (aws ad cI T9) H9 := hPa
  show W _ _ _ _ _ _ _ _ _ _ _ _ (1018 + 1243 * turn) (21311 + 33138 * turn) _ _
  refine lv_iload hx hb dL_law_130 (lv_at hl 14 rfl) ?_
  refine lv_sipush (v := nI 150) hx hb dL_law_132 (by decide) ?_
  refine n_icmp_ge (tgt := 430) hx hb dL_law_135 (by decide) (by omega) (by decide) (fun c_6 => ?_) (fun c_6 => ?_)
  · refine lv_iconst (v := nI 1) hx hb dL_law_430 (by decide) ?_
    exact kend _ _ _ _ _ ls hS (by omega) (by omega) dL_law_431
  · refine lv_aload_n hx hb dL_law_138 rfl (lv_at hl 0 rfl) ?_
    refine lv_iconst (v := nI 3) hx hb dL_law_139 (by decide) ?_
    refine lv_iload hx hb dL_law_140 (lv_at hl 14 rfl) ?_
    refine n_imul hx hb dL_law_142 (z := 3 * turn) rfl ?_
    refine vp_callSi (W.runS (As := [.ref b, .int (nI (3 * turn))]) (rest := []) ⟨hx, hb, hml, hown, hts⟩ (ch_cell l b L xs (by omega) (3 * turn) (by omega)) (va_cwS 2 hts gL_law_L_cell rfl rfl rfl kd_L_cell ⟨Nat.le_of_ble_eq_true rfl, Nat.le_of_ble_eq_true rfl⟩) ⟨xB_blind, xB_pre hX hbl (fun z => absurd (hAn b z) (Nat.not_le.mpr hbl)) hS _⟩ rfl rfl hl.1 rfl (lv_room (Nat.le_of_ble_eq_true rfl)) dL_law_143 ⟨by show (1018 + 1243 * turn) + 0 ≤ 852110; omega, by show (21311 + 33138 * turn) + 0 ≤ 6545367; omega⟩) (fun v_7 _ => ?_)
    refine lv_istore (lv' := [(15, .int v_7), (0, .ref b), (1, .ref h), (2, .ref (ad 0)), (3, .ref (ad 1)), (4, .ref (ad 2)), (5, .ref (ad 3)), (6, .ref (ad 4)), (7, .ref (ad 5)), (8, .ref (ad 6)), (9, .ref (ad 7)), (10, .ref (ad 8)), (11, .ref (ad 9)), (12, .ref (ad 10)), (13, .ref (ad 11)), (14, .int (nI turn))]) hx hb dL_law_146 hl (by decide) rfl (fun ls hl => ?_)
    refine lv_aload_n hx hb dL_law_148 rfl (lv_at hl 1 rfl) ?_
    refine lv_iconst (v := nI 3) hx hb dL_law_149 (by decide) ?_
    refine lv_iload hx hb dL_law_150 (lv_at hl 15 rfl) ?_
    refine n_imul hx hb dL_law_152 (z := 3 * turn) rfl ?_
    refine lv_iconst (v := nI 1) hx hb dL_law_153 (by decide) ?_
    refine n_iadd hx hb dL_law_154 (z := (3 * turn) + 1) rfl ?_
    refine vp_callSi (W.runS (As := [.ref b, .int (nI ((3 * turn) + 1))]) (rest := []) ⟨hx, hb, hml, hown, hts⟩ (ch_cell l b L xs (by omega) ((3 * turn) + 1) (by omega)) (va_cwS 2 hts gL_law_L_cell rfl rfl rfl kd_L_cell ⟨Nat.le_of_ble_eq_true rfl, Nat.le_of_ble_eq_true rfl⟩) ⟨xB_blind, xB_pre hX hbl (fun z => absurd (hAn b z) (Nat.not_le.mpr hbl)) hS _⟩ rfl rfl hl.1 rfl (lv_room (Nat.le_of_ble_eq_true rfl)) dL_law_155 ⟨by show (1018 + 1243 * turn) + 0 ≤ 852110; omega, by show (21311 + 33138 * turn) + 0 ≤ 6545367; omega⟩) (fun v_8 _ => ?_)
    refine lv_istore (lv' := [(16, .int v_8), (15, .int v_7), (0, .ref b), (1, .ref h), (2, .ref (ad 0)), (3, .ref (ad 1)), (4, .ref (ad 2)), (5, .ref (ad 3)), (6, .ref (ad 4)), (7, .ref (ad 5)), (8, .ref (ad 6)), (9, .ref (ad 7)), (10, .ref (ad 8)), (11, .ref (ad 9)), (12, .ref (ad 10)), (13, .ref (ad 11)), (14, .int (nI turn))]) hx hb dL_law_158 hl (by decide) rfl (fun ls hl => ?_)
    refine lv_aload_n hx hb dL_law_160 rfl (lv_at hl 2 rfl) ?_
    refine lv_iconst (v := nI 3) hx hb dL_law_161 (by decide) ?_
    refine lv_iload hx hb dL_law_162 (lv_at hl 16 rfl) ?_
    refine n_imul hx hb dL_law_164 (z := 3 * turn) rfl ?_
    refine lv_iconst (v := nI 2) hx hb dL_law_165 (by decide) ?_
    refine n_iadd hx hb dL_law_166 (z := (3 * turn) + 2) rfl ?_
    refine vp_callSi (W.runS (As := [.ref b, .int (nI ((3 * turn) + 2))]) (rest := []) ⟨hx, hb, hml, hown, hts⟩ (ch_cell l b L xs (by omega) ((3 * turn) + 2) (by omega)) (va_cwS 2 hts gL_law_L_cell rfl rfl rfl kd_L_cell ⟨Nat.le_of_ble_eq_true rfl, Nat.le_of_ble_eq_true rfl⟩) ⟨xB_blind, xB_pre hX hbl (fun z => absurd (hAn b z) (Nat.not_le.mpr hbl)) hS _⟩ rfl rfl hl.1 rfl (lv_room (Nat.le_of_ble_eq_true rfl)) dL_law_167 ⟨by show (1018 + 1243 * turn) + 0 ≤ 852110; omega, by show (21311 + 33138 * turn) + 0 ≤ 6545367; omega⟩) (fun v_9 _ => ?_)
    refine lv_istore (lv' := [(17, .int v_9), (16, .int v_8), (15, .int v_7), (0, .ref b), (1, .ref h), (2, .ref (ad 0)), (3, .ref (ad 1)), (4, .ref (ad 2)), (5, .ref (ad 3)), (6, .ref (ad 4)), (7, .ref (ad 5)), (8, .ref (ad 6)), (9, .ref (ad 7)), (10, .ref (ad 8)), (11, .ref (ad 9)), (12, .ref (ad 10)), (13, .ref (ad 11)), (14, .int (nI turn))]) hx hb dL_law_170 hl (by decide) rfl (fun ls hl => ?_)
    refine lv_aload hx hb dL_law_172 (lv_at hl 16 rfl) ?_
    refine lv_iconst (v := nI 4) hx hb dL_law_174 (by decide) ?_
    refine a_iald (f := 11) (n := 7) hx hb hKa hPa rfl (by decide) (by decide) dL_law_175 ?_
    refine lv_bipush (v := nI 22) hx hb dL_law_176 (by decide) ?_
    refine n_icmp_gt (tgt := 219) hx hb dL_law_178 (by decide) (by have f1 : T9 11 4 ≤ 2000 := hT9.1 11 4; have f2 : T9 11 4 ≤ 32 := hT9.2.2.2.1; omega) (by decide) (fun c_10 => ?_) (fun c_10 => ?_)
    · refine lv_iconst (v := nI 1) hx hb dL_law_219 (by decide) ?_
      exact kend _ _ _ _ _ ls hS (by omega) (by omega) dL_law_220
    · refine lv_aload hx hb dL_law_181 (lv_at hl 16 rfl) ?_
      refine lv_iconst (v := nI 5) hx hb dL_law_183 (by decide) ?_
      refine a_iald (f := 11) (n := 7) hx hb hKa hPa rfl (by decide) (by decide) dL_law_184 ?_
      refine lv_bipush (v := nI 30) hx hb dL_law_185 (by decide) ?_
      refine n_icmp_gt (tgt := 219) hx hb dL_law_187 (by decide) (by have f1 : T9 11 5 ≤ 2000 := hT9.1 11 5; have f2 : T9 11 5 ≤ 32 := hT9.2.2.2.2.1; omega) (by decide) (fun c_11 => ?_) (fun c_11 => ?_)
      · refine lv_iconst (v := nI 1) hx hb dL_law_219 (by decide) ?_
        exact kend _ _ _ _ _ ls hS (by omega) (by omega) dL_law_220
      · refine lv_aload hx hb dL_law_190 (lv_at hl 16 rfl) ?_
        refine lv_bipush (v := nI 6) hx hb dL_law_192 (by decide) ?_
        refine a_iald (f := 11) (n := 7) hx hb hKa hPa rfl (by decide) (by decide) dL_law_194 ?_
        refine lv_bipush (v := nI 30) hx hb dL_law_195 (by decide) ?_
        refine n_icmp_gt (tgt := 219) hx hb dL_law_197 (by decide) (by have f1 : T9 11 6 ≤ 2000 := hT9.1 11 6; have f2 : T9 11 6 ≤ 32 := hT9.2.2.2.2.2; omega) (by decide) (fun c_12 => ?_) (fun c_12 => ?_)
        · refine lv_iconst (v := nI 1) hx hb dL_law_219 (by decide) ?_
          exact kend _ _ _ _ _ ls hS (by omega) (by omega) dL_law_220
        · refine lv_aload hx hb dL_law_200 (lv_at hl 16 rfl) ?_
          refine lv_iconst (v := nI 3) hx hb dL_law_202 (by decide) ?_
          refine a_iald (f := 11) (n := 7) hx hb hKa hPa rfl (by decide) (by decide) dL_law_203 ?_
          refine lv_bipush (v := nI 50) hx hb dL_law_204 (by decide) ?_
          refine n_icmp_gt (tgt := 219) hx hb dL_law_206 (by decide) (by have f1 : T9 11 3 ≤ 2000 := hT9.1 11 3; have f2 : T9 11 3 ≤ 60 := hT9.2.2.1; omega) (by decide) (fun c_13 => ?_) (fun c_13 => ?_)
          · refine lv_iconst (v := nI 1) hx hb dL_law_219 (by decide) ?_
            exact kend _ _ _ _ _ ls hS (by omega) (by omega) dL_law_220
          · refine lv_aload hx hb dL_law_209 (lv_at hl 16 rfl) ?_
            refine lv_iconst (v := nI 0) hx hb dL_law_211 (by decide) ?_
            refine a_iald (f := 11) (n := 7) hx hb hKa hPa rfl (by decide) (by decide) dL_law_212 ?_
            refine lv_sipush (v := nI 900) hx hb dL_law_213 (by decide) ?_
            refine n_icmp_le (tgt := 221) hx hb dL_law_216 (by decide) (by have f1 : T9 11 0 ≤ 2000 := hT9.1 11 0; omega) (by decide) (fun c_14 => ?_) (fun c_14 => ?_)
            · refine w_join (nL := 20) (pc1 := 262) (sk1 := []) (fun ac9 => [(18, .int (nI ac9)), (17, .int v_9), (16, .int v_8), (15, .int v_7), (0, .ref b), (1, .ref h), (2, .ref (ad 0)), (3, .ref (ad 1)), (4, .ref (ad 2)), (5, .ref (ad 3)), (6, .ref (ad 4)), (7, .ref (ad 5)), (8, .ref (ad 6)), (9, .ref (ad 7)), (10, .ref (ad 8)), (11, .ref (ad 9)), (12, .ref (ad 10)), (13, .ref (ad 11)), (14, .int (nI turn))]) (fun ac9 => ac9 < 48) (fun ac9 hac9 ls hl => ?_) (fun hk_15 => ?_)
              · have h9_ac9 := hac9
                refine lv_iload hx hb dL_law_262 (lv_at hl 0 rfl) ?_
                refine lv_bipush (v := nI 15) hx hb dL_law_264 (by decide) ?_
                refine n_icmp_ge (tgt := 292) hx hb dL_law_266 (by decide) (by have f1 := hac9; omega) (by decide) (fun c_16 => ?_) (fun c_16 => ?_)
                · refine lv_iload hx hb dL_law_292 (lv_at hl 0 rfl) ?_
                  refine lv_bipush (v := nI 25) hx hb dL_law_294 (by decide) ?_
                  refine n_icmp_ge (tgt := 348) hx hb dL_law_296 (by decide) (by have f1 := hac9; omega) (by decide) (fun c_17 => ?_) (fun c_17 => ?_)
                  · refine lv_aload_n hx hb dL_law_348 rfl (lv_at hl 5 rfl) ?_
                    refine lv_iload hx hb dL_law_349 (lv_at hl 0 rfl) ?_
                    refine lv_bipush (v := nI 25) hx hb dL_law_351 (by decide) ?_
                    refine n_isub hx hb dL_law_353 (z := ac9 - 25) (by have f1 := hac9; omega) rfl ?_
                    refine lv_iload hx hb dL_law_354 (lv_at hl 2 rfl) ?_
                    refine lv_iload hx hb dL_law_356 (lv_at hl 1 rfl) ?_
                    refine lv_aload_n hx hb dL_law_358 rfl (lv_at hl 7 rfl) ?_
                    refine lv_aload hx hb dL_law_359 (lv_at hl 8 rfl) ?_
                    refine lv_aload hx hb dL_law_361 (lv_at hl 9 rfl) ?_
                    refine lv_aload hx hb dL_law_363 (lv_at hl 10 rfl) ?_
                    refine lv_aload hx hb dL_law_365 (lv_at hl 11 rfl) ?_
                    refine lv_aload hx hb dL_law_367 (lv_at hl 12 rfl) ?_
                    refine lv_aload hx hb dL_law_369 (lv_at hl 13 rfl) ?_
                    refine lv_aload hx hb dL_law_371 (lv_at hl 14 rfl) ?_
                    refine lv_aload hx hb dL_law_373 (lv_at hl 15 rfl) ?_
                    refine lv_aload hx hb dL_law_375 (lv_at hl 17 rfl) ?_
                    refine va_calli (va_runS (As := [.ref h, .int (nI (ac9 - 25)), .int v_8, .int v_9, .ref (ad 1), .ref (ad 2), .ref (ad 3), .ref (ad 4), .ref (ad 5), .ref (ad 6), .ref (ad 7), .ref (ad 8), .ref (ad 9), .ref (ad 11)]) (rest := []) ⟨hx, hb, hml, hown, hts⟩ (cb_halls l hst D ad cI cO cb eA mi st dO dT vF hAB hsI hdB ws9 hc9 hM9 hLB9 h159 hR9 hT9 (ac9 - 25) v_8 v_9 (by have f1 := hac9; omega) (by exact hC)) (va_cwS 14 hts gL_law_L_halls rfl rfl rfl kd_L_halls ⟨Nat.le_of_ble_eq_true rfl, Nat.le_of_ble_eq_true rfl⟩) ⟨bB_blind, bB_pre hK hKa hG hGT hN (fun q h9 => h9) hS (hfr _ _ _ hPa hS) hPw hPa _⟩ rfl rfl hl.1 rfl (lv_room (Nat.le_of_ble_eq_true rfl)) dL_law_377 ⟨by show (1018 + 1243 * turn) + 40 ≤ 852110; omega, by show (21311 + 33138 * turn) + 1000 ≤ 6545367; omega⟩) hS (fun _ _ h9 => h9) (fun _ h9 => h9) (fun r_18 u9 U8 H_20 locs_21 ht hvm hu_19 hB hz1 hk1 hS1 => ?_)
                    obtain ⟨ws_22, M_22, T_22⟩ := u9
                    obtain ⟨hr_22, hc_22, hM_22, hLB_22, h15_22, hR_22, hT_22⟩ := hu_19
                    replace hT_22 : LT T_22 := hT_22
                    replace hB : va_P D vwCl ws_22 U8.heap ∧ va_P D vwCl (aws ad cI T_22) U8.heap := hB
                    rw [ht] at hB
                    clear hPw hPa hS
                    obtain ⟨hPw, hPa⟩ := hB
                    have hS := hS1
                    clear hS1 hz1 hk1 hvm ht U8
                    subst hr_22
                    replace hc_22 : cSt cI cO eA st A h M_22 ws_22 := hc_22
                    replace hM_22 : MI M_22 := hM_22
                    replace hLB_22 : m_LB M_22 := hLB_22
                    replace h15_22 : M_22 15 0 ≤ turn + 1 := h15_22
                    replace hR_22 : LR M_22 T_22 := hR_22
                    refine lv_istore (lv' := [(19, .int (nI 1)), (18, .int (nI ac9)), (17, .int v_9), (16, .int v_8), (15, .int v_7), (0, .ref b), (1, .ref h), (2, .ref (ad 0)), (3, .ref (ad 1)), (4, .ref (ad 2)), (5, .ref (ad 3)), (6, .ref (ad 4)), (7, .ref (ad 5)), (8, .ref (ad 6)), (9, .ref (ad 7)), (10, .ref (ad 8)), (11, .ref (ad 9)), (12, .ref (ad 10)), (13, .ref (ad 11)), (14, .int (nI turn))]) hx hb dL_law_380 hl (by decide) rfl (fun ls hl => ?_)
                    refine lv_iload hx hb dL_law_382 (lv_at hl 0 rfl) ?_
                    refine n_if_eq (tgt := 422) hx hb dL_law_384 (by decide) (by decide) (fun c9 => absurd c9 (by decide)) (fun _ => ?_)
                    refine lv_aload_n hx hb dL_law_387 rfl (lv_at hl 6 rfl) ?_
                    refine lv_iload hx hb dL_law_388 (lv_at hl 4 rfl) ?_
                    refine lv_iconst (v := nI 5) hx hb dL_law_390 (by decide) ?_
                    refine lv_ishr hx hb dL_law_391 ?_
                    refine lv_iload hx hb dL_law_392 (lv_at hl 3 rfl) ?_
                    refine lv_ixor hx hb dL_law_394 ?_
                    refine lv_aload_n hx hb dL_law_395 rfl (lv_at hl 8 rfl) ?_
                    refine lv_aload hx hb dL_law_396 (lv_at hl 9 rfl) ?_
                    refine lv_aload hx hb dL_law_398 (lv_at hl 10 rfl) ?_
                    refine lv_aload hx hb dL_law_400 (lv_at hl 11 rfl) ?_
                    refine lv_aload hx hb dL_law_402 (lv_at hl 12 rfl) ?_
                    refine lv_aload hx hb dL_law_404 (lv_at hl 13 rfl) ?_
                    refine lv_aload hx hb dL_law_406 (lv_at hl 14 rfl) ?_
                    refine lv_aload hx hb dL_law_408 (lv_at hl 15 rfl) ?_
                    refine lv_aload hx hb dL_law_410 (lv_at hl 16 rfl) ?_
                    refine lv_aload hx hb dL_law_412 (lv_at hl 17 rfl) ?_
                    refine lv_aload hx hb dL_law_414 (lv_at hl 18 rfl) ?_
                    refine va_calli (va_runS (As := [.ref h, .int ((v_7 >>> ((nI 5) &&& 31)) ^^^ v_8), .ref (ad 1), .ref (ad 2), .ref (ad 3), .ref (ad 4), .ref (ad 5), .ref (ad 6), .ref (ad 7), .ref (ad 8), .ref (ad 9), .ref (ad 10), .ref (ad 11)]) (rest := []) ⟨hx, hb, hml, hown, hts⟩ (cb_isTold l hst D ad cI cO cb eA mi st dO dT vF hAB hsI hdB ws_22 hc_22 hM_22 hLB_22 h15_22 hR_22 hT_22 ((v_7 >>> ((nI 5) &&& 31)) ^^^ v_8)) (va_cwS 13 hts gL_law_L_isTold rfl rfl rfl kd_L_isTold ⟨Nat.le_of_ble_eq_true rfl, Nat.le_of_ble_eq_true rfl⟩) ⟨bB_blind, bB_pre hK hKa hG hGT hN (fun q h9 => h9) hS (hfr _ _ _ hPa hS) hPw hPa _⟩ rfl rfl hl.1 rfl (lv_room (Nat.le_of_ble_eq_true rfl)) dL_law_416 ⟨by show ((1018 + 1243 * turn) + 40) + 1000 ≤ 852110; omega, by show ((21311 + 33138 * turn) + 1000) + 21000 ≤ 6545367; omega⟩) hS (fun _ _ h9 => h9) (fun _ h9 => h9) (fun r_23 u9 U8 H_25 locs_26 ht hvm hu_24 hB hz1 hk1 hS1 => ?_)
                    obtain ⟨ws_27, M_27⟩ := u9
                    obtain ⟨hr_27, hc_27, hM_27, hLB_27, h15_27, hR_27⟩ := hu_24
                    replace hB : va_P D vwCl ws_27 U8.heap ∧ va_P D vwCl (aws ad cI T_22) U8.heap := hB
                    rw [ht] at hB
                    clear hPw hPa hS
                    obtain ⟨hPw, hPa⟩ := hB
                    have hS := hS1
                    clear hS1 hz1 hk1 hvm ht U8
                    subst hr_27
                    replace hc_27 : cSt cI cO eA st A h M_27 ws_27 := hc_27
                    replace hM_27 : MI M_27 := hM_27
                    replace hLB_27 : m_LB M_27 := hLB_27
                    replace h15_27 : M_27 15 0 ≤ turn + 1 := h15_27
                    replace hR_27 : LR M_27 T_22 := hR_27
                    refine n_if_ne (tgt := 424) hx hb dL_law_419 (by decide) (by decide) (fun _ => ?_) (fun c9 => absurd c9 (by decide))
                    refine n_iinc (k := 19) (lv' := [(14, .int (nI (turn + 1))), (19, .int (nI 1)), (18, .int (nI ac9)), (17, .int v_9), (16, .int v_8), (15, .int v_7), (0, .ref b), (1, .ref h), (2, .ref (ad 0)), (3, .ref (ad 1)), (4, .ref (ad 2)), (5, .ref (ad 3)), (6, .ref (ad 4)), (7, .ref (ad 5)), (8, .ref (ad 6)), (9, .ref (ad 7)), (10, .ref (ad 8)), (11, .ref (ad 9)), (12, .ref (ad 10)), (13, .ref (ad 11))]) hx hb dL_law_424 hl rfl (by decide) rfl (fun ls hl => ?_)
                    refine lv_goto (tgt := 130) hx hb dL_law_427 (by decide) ?_
                    refine W.widen (k := 1018 + 1243 * (turn + 1)) (n := 21311 + 33138 * (turn + 1)) (by omega) (by omega) ?_
                    exact ih (by omega) (ws_27, M_27, T_22) _ _ ⟨⟨hc_27, hM_27, hLB_27, h15_27, hR_27, hT_22⟩, hPw, hPa, hS⟩ ls (lv_sub hl [6, 7, 8, 9, 10, 11, 12, 13, 14, 15, 16, 17, 18, 19, 0] rfl)
                  · refine lv_aload_n hx hb dL_law_299 rfl (lv_at hl 5 rfl) ?_
                    refine lv_iconst (v := nI 1) hx hb dL_law_300 (by decide) ?_
                    refine lv_iload hx hb dL_law_301 (lv_at hl 2 rfl) ?_
                    refine lv_iload hx hb dL_law_303 (lv_at hl 1 rfl) ?_
                    refine lv_sipush (v := nI 768) hx hb dL_law_305 (by decide) ?_
                    refine lv_iand hx hb dL_law_308 ?_
                    refine lv_if_ne (tgt := 317) hx hb dL_law_309 (by decide)  (fun c_28 => ?_) (fun c_28 => ?_)
                    · refine lv_iconst (v := nI 4) hx hb dL_law_317 (by decide) ?_
                      refine vp_callSi (W.runS (As := [.int v_8, .int (nI 4)]) (rest := [.int (nI 1), .ref h]) ⟨hx, hb, hml, hown, hts⟩ (ch_low l v_8 4 (by omega) (by omega)) (va_cwS 2 hts gL_law_L_low rfl rfl rfl kd_L_low ⟨Nat.le_of_ble_eq_true rfl, Nat.le_of_ble_eq_true rfl⟩) ⟨fun _ _ _ _ q => q, fun U hU hW => ⟨rfl, trivial⟩⟩ rfl rfl hl.1 rfl (lv_room (Nat.le_of_ble_eq_true rfl)) dL_law_318 ⟨by show (1018 + 1243 * turn) + 0 ≤ 852110; omega, by show (21311 + 33138 * turn) + 0 ≤ 6545367; omega⟩) (fun r_29 hr_29 => ?_)
                      subst hr_29
                      have hw8 : lowN v_8 4 < 4 := lowN_lt _ (by decide)
                      generalize lowN v_8 4 = w8 at hw8 ⊢
                      refine n_iadd hx hb dL_law_321 (z := 1 + w8) rfl ?_
                      refine lv_aload_n hx hb dL_law_322 rfl (lv_at hl 6 rfl) ?_
                      refine lv_aload_n hx hb dL_law_323 rfl (lv_at hl 7 rfl) ?_
                      refine lv_aload hx hb dL_law_324 (lv_at hl 8 rfl) ?_
                      refine lv_aload hx hb dL_law_326 (lv_at hl 9 rfl) ?_
                      refine lv_aload hx hb dL_law_328 (lv_at hl 10 rfl) ?_
                      refine lv_aload hx hb dL_law_330 (lv_at hl 11 rfl) ?_
                      refine lv_aload hx hb dL_law_332 (lv_at hl 12 rfl) ?_
                      refine lv_aload hx hb dL_law_334 (lv_at hl 13 rfl) ?_
                      refine lv_aload hx hb dL_law_336 (lv_at hl 14 rfl) ?_
                      refine lv_aload hx hb dL_law_338 (lv_at hl 16 rfl) ?_
                      refine lv_aload hx hb dL_law_340 (lv_at hl 17 rfl) ?_
                      refine va_calli (va_runS (As := [.ref h, .int (nI (1 + w8)), .ref (ad 0), .ref (ad 1), .ref (ad 2), .ref (ad 3), .ref (ad 4), .ref (ad 5), .ref (ad 6), .ref (ad 7), .ref (ad 8), .ref (ad 10), .ref (ad 11)]) (rest := []) ⟨hx, hb, hml, hown, hts⟩ (cb_days l hst D ad cI cO cb eA mi st dO dT vF hAB hsI hdB ws9 hc9 hM9 hLB9 h159 hR9 hT9 (1 + w8) (by exact hC) (by have f1 := hw8; omega) (by have f1 := hw8; omega)) (va_cwS 13 hts gL_law_L_days rfl rfl rfl kd_L_days ⟨Nat.le_of_ble_eq_true rfl, Nat.le_of_ble_eq_true rfl⟩) ⟨bB_blind, bB_pre hK hKa hG hGT hN (fun q h9 => h9) hS (hfr _ _ _ hPa hS) hPw hPa _⟩ rfl rfl hl.1 rfl (lv_room (Nat.le_of_ble_eq_true rfl)) dL_law_342 ⟨by show (1018 + 1243 * turn) + 243 ≤ 852110; omega, by show (21311 + 33138 * turn) + 12138 ≤ 6545367; omega⟩) hS (fun _ _ h9 => h9) (fun _ h9 => h9) (fun r_30 u9 U8 H_32 locs_33 ht hvm hu_31 hB hz1 hk1 hS1 => ?_)
                      obtain ⟨ws_34, M_34, T_34⟩ := u9
                      obtain ⟨hr_34, hc_34, hM_34, hLB_34, h15_34, hR_34, hT_34⟩ := hu_31
                      replace hT_34 : LT T_34 := hT_34
                      replace hB : va_P D vwCl ws_34 U8.heap ∧ va_P D vwCl (aws ad cI T_34) U8.heap := hB
                      rw [ht] at hB
                      clear hPw hPa hS
                      obtain ⟨hPw, hPa⟩ := hB
                      have hS := hS1
                      clear hS1 hz1 hk1 hvm ht U8
                      subst hr_34
                      replace hc_34 : cSt cI cO eA st A h M_34 ws_34 := hc_34
                      replace hM_34 : MI M_34 := hM_34
                      replace hLB_34 : m_LB M_34 := hLB_34
                      replace h15_34 : M_34 15 0 ≤ turn + 1 := h15_34
                      replace hR_34 : LR M_34 T_34 := hR_34
                      refine lv_goto (tgt := 380) hx hb dL_law_345 (by decide) ?_
                      refine lv_istore (lv' := [(19, .int (nI 1)), (18, .int (nI ac9)), (17, .int v_9), (16, .int v_8), (15, .int v_7), (0, .ref b), (1, .ref h), (2, .ref (ad 0)), (3, .ref (ad 1)), (4, .ref (ad 2)), (5, .ref (ad 3)), (6, .ref (ad 4)), (7, .ref (ad 5)), (8, .ref (ad 6)), (9, .ref (ad 7)), (10, .ref (ad 8)), (11, .ref (ad 9)), (12, .ref (ad 10)), (13, .ref (ad 11)), (14, .int (nI turn))]) hx hb dL_law_380 hl (by decide) rfl (fun ls hl => ?_)
                      refine lv_iload hx hb dL_law_382 (lv_at hl 0 rfl) ?_
                      refine n_if_eq (tgt := 422) hx hb dL_law_384 (by decide) (by decide) (fun c9 => absurd c9 (by decide)) (fun _ => ?_)
                      refine lv_aload_n hx hb dL_law_387 rfl (lv_at hl 6 rfl) ?_
                      refine lv_iload hx hb dL_law_388 (lv_at hl 4 rfl) ?_
                      refine lv_iconst (v := nI 5) hx hb dL_law_390 (by decide) ?_
                      refine lv_ishr hx hb dL_law_391 ?_
                      refine lv_iload hx hb dL_law_392 (lv_at hl 3 rfl) ?_
                      refine lv_ixor hx hb dL_law_394 ?_
                      refine lv_aload_n hx hb dL_law_395 rfl (lv_at hl 8 rfl) ?_
                      refine lv_aload hx hb dL_law_396 (lv_at hl 9 rfl) ?_
                      refine lv_aload hx hb dL_law_398 (lv_at hl 10 rfl) ?_
                      refine lv_aload hx hb dL_law_400 (lv_at hl 11 rfl) ?_
                      refine lv_aload hx hb dL_law_402 (lv_at hl 12 rfl) ?_
                      refine lv_aload hx hb dL_law_404 (lv_at hl 13 rfl) ?_
                      refine lv_aload hx hb dL_law_406 (lv_at hl 14 rfl) ?_
                      refine lv_aload hx hb dL_law_408 (lv_at hl 15 rfl) ?_
                      refine lv_aload hx hb dL_law_410 (lv_at hl 16 rfl) ?_
                      refine lv_aload hx hb dL_law_412 (lv_at hl 17 rfl) ?_
                      refine lv_aload hx hb dL_law_414 (lv_at hl 18 rfl) ?_
                      refine va_calli (va_runS (As := [.ref h, .int ((v_7 >>> ((nI 5) &&& 31)) ^^^ v_8), .ref (ad 1), .ref (ad 2), .ref (ad 3), .ref (ad 4), .ref (ad 5), .ref (ad 6), .ref (ad 7), .ref (ad 8), .ref (ad 9), .ref (ad 10), .ref (ad 11)]) (rest := []) ⟨hx, hb, hml, hown, hts⟩ (cb_isTold l hst D ad cI cO cb eA mi st dO dT vF hAB hsI hdB ws_34 hc_34 hM_34 hLB_34 h15_34 hR_34 hT_34 ((v_7 >>> ((nI 5) &&& 31)) ^^^ v_8)) (va_cwS 13 hts gL_law_L_isTold rfl rfl rfl kd_L_isTold ⟨Nat.le_of_ble_eq_true rfl, Nat.le_of_ble_eq_true rfl⟩) ⟨bB_blind, bB_pre hK hKa hG hGT hN (fun q h9 => h9) hS (hfr _ _ _ hPa hS) hPw hPa _⟩ rfl rfl hl.1 rfl (lv_room (Nat.le_of_ble_eq_true rfl)) dL_law_416 ⟨by show ((1018 + 1243 * turn) + 243) + 1000 ≤ 852110; omega, by show ((21311 + 33138 * turn) + 12138) + 21000 ≤ 6545367; omega⟩) hS (fun _ _ h9 => h9) (fun _ h9 => h9) (fun r_35 u9 U8 H_37 locs_38 ht hvm hu_36 hB hz1 hk1 hS1 => ?_)
                      obtain ⟨ws_39, M_39⟩ := u9
                      obtain ⟨hr_39, hc_39, hM_39, hLB_39, h15_39, hR_39⟩ := hu_36
                      replace hB : va_P D vwCl ws_39 U8.heap ∧ va_P D vwCl (aws ad cI T_34) U8.heap := hB
                      rw [ht] at hB
                      clear hPw hPa hS
                      obtain ⟨hPw, hPa⟩ := hB
                      have hS := hS1
                      clear hS1 hz1 hk1 hvm ht U8
                      subst hr_39
                      replace hc_39 : cSt cI cO eA st A h M_39 ws_39 := hc_39
                      replace hM_39 : MI M_39 := hM_39
                      replace hLB_39 : m_LB M_39 := hLB_39
                      replace h15_39 : M_39 15 0 ≤ turn + 1 := h15_39
                      replace hR_39 : LR M_39 T_34 := hR_39
                      refine n_if_ne (tgt := 424) hx hb dL_law_419 (by decide) (by decide) (fun _ => ?_) (fun c9 => absurd c9 (by decide))
                      refine n_iinc (k := 19) (lv' := [(14, .int (nI (turn + 1))), (19, .int (nI 1)), (18, .int (nI ac9)), (17, .int v_9), (16, .int v_8), (15, .int v_7), (0, .ref b), (1, .ref h), (2, .ref (ad 0)), (3, .ref (ad 1)), (4, .ref (ad 2)), (5, .ref (ad 3)), (6, .ref (ad 4)), (7, .ref (ad 5)), (8, .ref (ad 6)), (9, .ref (ad 7)), (10, .ref (ad 8)), (11, .ref (ad 9)), (12, .ref (ad 10)), (13, .ref (ad 11))]) hx hb dL_law_424 hl rfl (by decide) rfl (fun ls hl => ?_)
                      refine lv_goto (tgt := 130) hx hb dL_law_427 (by decide) ?_
                      refine W.widen (k := 1018 + 1243 * (turn + 1)) (n := 21311 + 33138 * (turn + 1)) (by omega) (by omega) ?_
                      exact ih (by omega) (ws_39, M_39, T_34) _ _ ⟨⟨hc_39, hM_39, hLB_39, h15_39, hR_39, hT_34⟩, hPw, hPa, hS⟩ ls (lv_sub hl [6, 7, 8, 9, 10, 11, 12, 13, 14, 15, 16, 17, 18, 19, 0] rfl)
                    · refine lv_bipush (v := nI 40) hx hb dL_law_312 (by decide) ?_
                      refine lv_goto (tgt := 318) hx hb dL_law_314 (by decide) ?_
                      refine vp_callSi (W.runS (As := [.int v_8, .int (nI 40)]) (rest := [.int (nI 1), .ref h]) ⟨hx, hb, hml, hown, hts⟩ (ch_low l v_8 40 (by omega) (by omega)) (va_cwS 2 hts gL_law_L_low rfl rfl rfl kd_L_low ⟨Nat.le_of_ble_eq_true rfl, Nat.le_of_ble_eq_true rfl⟩) ⟨fun _ _ _ _ q => q, fun U hU hW => ⟨rfl, trivial⟩⟩ rfl rfl hl.1 rfl (lv_room (Nat.le_of_ble_eq_true rfl)) dL_law_318 ⟨by show (1018 + 1243 * turn) + 0 ≤ 852110; omega, by show (21311 + 33138 * turn) + 0 ≤ 6545367; omega⟩) (fun r_40 hr_40 => ?_)
                      subst hr_40
                      have hw8 : lowN v_8 40 < 40 := lowN_lt _ (by decide)
                      generalize lowN v_8 40 = w8 at hw8 ⊢
                      refine n_iadd hx hb dL_law_321 (z := 1 + w8) rfl ?_
                      refine lv_aload_n hx hb dL_law_322 rfl (lv_at hl 6 rfl) ?_
                      refine lv_aload_n hx hb dL_law_323 rfl (lv_at hl 7 rfl) ?_
                      refine lv_aload hx hb dL_law_324 (lv_at hl 8 rfl) ?_
                      refine lv_aload hx hb dL_law_326 (lv_at hl 9 rfl) ?_
                      refine lv_aload hx hb dL_law_328 (lv_at hl 10 rfl) ?_
                      refine lv_aload hx hb dL_law_330 (lv_at hl 11 rfl) ?_
                      refine lv_aload hx hb dL_law_332 (lv_at hl 12 rfl) ?_
                      refine lv_aload hx hb dL_law_334 (lv_at hl 13 rfl) ?_
                      refine lv_aload hx hb dL_law_336 (lv_at hl 14 rfl) ?_
                      refine lv_aload hx hb dL_law_338 (lv_at hl 16 rfl) ?_
                      refine lv_aload hx hb dL_law_340 (lv_at hl 17 rfl) ?_
                      refine va_calli (va_runS (As := [.ref h, .int (nI (1 + w8)), .ref (ad 0), .ref (ad 1), .ref (ad 2), .ref (ad 3), .ref (ad 4), .ref (ad 5), .ref (ad 6), .ref (ad 7), .ref (ad 8), .ref (ad 10), .ref (ad 11)]) (rest := []) ⟨hx, hb, hml, hown, hts⟩ (cb_days l hst D ad cI cO cb eA mi st dO dT vF hAB hsI hdB ws9 hc9 hM9 hLB9 h159 hR9 hT9 (1 + w8) (by exact hC) (by have f1 := hw8; omega) (by have f1 := hw8; omega)) (va_cwS 13 hts gL_law_L_days rfl rfl rfl kd_L_days ⟨Nat.le_of_ble_eq_true rfl, Nat.le_of_ble_eq_true rfl⟩) ⟨bB_blind, bB_pre hK hKa hG hGT hN (fun q h9 => h9) hS (hfr _ _ _ hPa hS) hPw hPa _⟩ rfl rfl hl.1 rfl (lv_room (Nat.le_of_ble_eq_true rfl)) dL_law_342 ⟨by show (1018 + 1243 * turn) + 243 ≤ 852110; omega, by show (21311 + 33138 * turn) + 12138 ≤ 6545367; omega⟩) hS (fun _ _ h9 => h9) (fun _ h9 => h9) (fun r_41 u9 U8 H_43 locs_44 ht hvm hu_42 hB hz1 hk1 hS1 => ?_)
                      obtain ⟨ws_45, M_45, T_45⟩ := u9
                      obtain ⟨hr_45, hc_45, hM_45, hLB_45, h15_45, hR_45, hT_45⟩ := hu_42
                      replace hT_45 : LT T_45 := hT_45
                      replace hB : va_P D vwCl ws_45 U8.heap ∧ va_P D vwCl (aws ad cI T_45) U8.heap := hB
                      rw [ht] at hB
                      clear hPw hPa hS
                      obtain ⟨hPw, hPa⟩ := hB
                      have hS := hS1
                      clear hS1 hz1 hk1 hvm ht U8
                      subst hr_45
                      replace hc_45 : cSt cI cO eA st A h M_45 ws_45 := hc_45
                      replace hM_45 : MI M_45 := hM_45
                      replace hLB_45 : m_LB M_45 := hLB_45
                      replace h15_45 : M_45 15 0 ≤ turn + 1 := h15_45
                      replace hR_45 : LR M_45 T_45 := hR_45
                      refine lv_goto (tgt := 380) hx hb dL_law_345 (by decide) ?_
                      refine lv_istore (lv' := [(19, .int (nI 1)), (18, .int (nI ac9)), (17, .int v_9), (16, .int v_8), (15, .int v_7), (0, .ref b), (1, .ref h), (2, .ref (ad 0)), (3, .ref (ad 1)), (4, .ref (ad 2)), (5, .ref (ad 3)), (6, .ref (ad 4)), (7, .ref (ad 5)), (8, .ref (ad 6)), (9, .ref (ad 7)), (10, .ref (ad 8)), (11, .ref (ad 9)), (12, .ref (ad 10)), (13, .ref (ad 11)), (14, .int (nI turn))]) hx hb dL_law_380 hl (by decide) rfl (fun ls hl => ?_)
                      refine lv_iload hx hb dL_law_382 (lv_at hl 0 rfl) ?_
                      refine n_if_eq (tgt := 422) hx hb dL_law_384 (by decide) (by decide) (fun c9 => absurd c9 (by decide)) (fun _ => ?_)
                      refine lv_aload_n hx hb dL_law_387 rfl (lv_at hl 6 rfl) ?_
                      refine lv_iload hx hb dL_law_388 (lv_at hl 4 rfl) ?_
                      refine lv_iconst (v := nI 5) hx hb dL_law_390 (by decide) ?_
                      refine lv_ishr hx hb dL_law_391 ?_
                      refine lv_iload hx hb dL_law_392 (lv_at hl 3 rfl) ?_
                      refine lv_ixor hx hb dL_law_394 ?_
                      refine lv_aload_n hx hb dL_law_395 rfl (lv_at hl 8 rfl) ?_
                      refine lv_aload hx hb dL_law_396 (lv_at hl 9 rfl) ?_
                      refine lv_aload hx hb dL_law_398 (lv_at hl 10 rfl) ?_
                      refine lv_aload hx hb dL_law_400 (lv_at hl 11 rfl) ?_
                      refine lv_aload hx hb dL_law_402 (lv_at hl 12 rfl) ?_
                      refine lv_aload hx hb dL_law_404 (lv_at hl 13 rfl) ?_
                      refine lv_aload hx hb dL_law_406 (lv_at hl 14 rfl) ?_
                      refine lv_aload hx hb dL_law_408 (lv_at hl 15 rfl) ?_
                      refine lv_aload hx hb dL_law_410 (lv_at hl 16 rfl) ?_
                      refine lv_aload hx hb dL_law_412 (lv_at hl 17 rfl) ?_
                      refine lv_aload hx hb dL_law_414 (lv_at hl 18 rfl) ?_
                      refine va_calli (va_runS (As := [.ref h, .int ((v_7 >>> ((nI 5) &&& 31)) ^^^ v_8), .ref (ad 1), .ref (ad 2), .ref (ad 3), .ref (ad 4), .ref (ad 5), .ref (ad 6), .ref (ad 7), .ref (ad 8), .ref (ad 9), .ref (ad 10), .ref (ad 11)]) (rest := []) ⟨hx, hb, hml, hown, hts⟩ (cb_isTold l hst D ad cI cO cb eA mi st dO dT vF hAB hsI hdB ws_45 hc_45 hM_45 hLB_45 h15_45 hR_45 hT_45 ((v_7 >>> ((nI 5) &&& 31)) ^^^ v_8)) (va_cwS 13 hts gL_law_L_isTold rfl rfl rfl kd_L_isTold ⟨Nat.le_of_ble_eq_true rfl, Nat.le_of_ble_eq_true rfl⟩) ⟨bB_blind, bB_pre hK hKa hG hGT hN (fun q h9 => h9) hS (hfr _ _ _ hPa hS) hPw hPa _⟩ rfl rfl hl.1 rfl (lv_room (Nat.le_of_ble_eq_true rfl)) dL_law_416 ⟨by show ((1018 + 1243 * turn) + 243) + 1000 ≤ 852110; omega, by show ((21311 + 33138 * turn) + 12138) + 21000 ≤ 6545367; omega⟩) hS (fun _ _ h9 => h9) (fun _ h9 => h9) (fun r_46 u9 U8 H_48 locs_49 ht hvm hu_47 hB hz1 hk1 hS1 => ?_)
                      obtain ⟨ws_50, M_50⟩ := u9
                      obtain ⟨hr_50, hc_50, hM_50, hLB_50, h15_50, hR_50⟩ := hu_47
                      replace hB : va_P D vwCl ws_50 U8.heap ∧ va_P D vwCl (aws ad cI T_45) U8.heap := hB
                      rw [ht] at hB
                      clear hPw hPa hS
                      obtain ⟨hPw, hPa⟩ := hB
                      have hS := hS1
                      clear hS1 hz1 hk1 hvm ht U8
                      subst hr_50
                      replace hc_50 : cSt cI cO eA st A h M_50 ws_50 := hc_50
                      replace hM_50 : MI M_50 := hM_50
                      replace hLB_50 : m_LB M_50 := hLB_50
                      replace h15_50 : M_50 15 0 ≤ turn + 1 := h15_50
                      replace hR_50 : LR M_50 T_45 := hR_50
                      refine n_if_ne (tgt := 424) hx hb dL_law_419 (by decide) (by decide) (fun _ => ?_) (fun c9 => absurd c9 (by decide))
                      refine n_iinc (k := 19) (lv' := [(14, .int (nI (turn + 1))), (19, .int (nI 1)), (18, .int (nI ac9)), (17, .int v_9), (16, .int v_8), (15, .int v_7), (0, .ref b), (1, .ref h), (2, .ref (ad 0)), (3, .ref (ad 1)), (4, .ref (ad 2)), (5, .ref (ad 3)), (6, .ref (ad 4)), (7, .ref (ad 5)), (8, .ref (ad 6)), (9, .ref (ad 7)), (10, .ref (ad 8)), (11, .ref (ad 9)), (12, .ref (ad 10)), (13, .ref (ad 11))]) hx hb dL_law_424 hl rfl (by decide) rfl (fun ls hl => ?_)
                      refine lv_goto (tgt := 130) hx hb dL_law_427 (by decide) ?_
                      refine W.widen (k := 1018 + 1243 * (turn + 1)) (n := 21311 + 33138 * (turn + 1)) (by omega) (by omega) ?_
                      exact ih (by omega) (ws_50, M_50, T_45) _ _ ⟨⟨hc_50, hM_50, hLB_50, h15_50, hR_50, hT_45⟩, hPw, hPa, hS⟩ ls (lv_sub hl [6, 7, 8, 9, 10, 11, 12, 13, 14, 15, 16, 17, 18, 19, 0] rfl)
                · refine lv_aload_n hx hb dL_law_269 rfl (lv_at hl 5 rfl) ?_
                  refine lv_iload hx hb dL_law_270 (lv_at hl 0 rfl) ?_
                  refine lv_iload hx hb dL_law_272 (lv_at hl 2 rfl) ?_
                  refine lv_iload hx hb dL_law_274 (lv_at hl 1 rfl) ?_
                  refine lv_aload_n hx hb dL_law_276 rfl (lv_at hl 6 rfl) ?_
                  refine lv_aload_n hx hb dL_law_277 rfl (lv_at hl 7 rfl) ?_
                  refine lv_aload hx hb dL_law_278 (lv_at hl 8 rfl) ?_
                  refine lv_aload hx hb dL_law_280 (lv_at hl 9 rfl) ?_
                  refine lv_aload hx hb dL_law_282 (lv_at hl 10 rfl) ?_
                  refine lv_aload hx hb dL_law_284 (lv_at hl 17 rfl) ?_
                  refine va_calli (va_runS (As := [.ref h, .int (nI ac9), .int v_8, .int v_9, .ref (ad 0), .ref (ad 1), .ref (ad 2), .ref (ad 3), .ref (ad 4), .ref (ad 11)]) (rest := []) ⟨hx, hb, hml, hown, hts⟩ (cb_tenders l hst D ad cI cO cb eA mi st dO dT vF hAB hsI hdB ws9 hc9 hM9 hLB9 h159 hR9 hT9 ac9 v_8 v_9 (by have f1 := hac9; omega) (by exact hC) (by have f1 := hac9; omega)) (va_cwS 10 hts gL_law_L_tenders rfl rfl rfl kd_L_tenders ⟨Nat.le_of_ble_eq_true rfl, Nat.le_of_ble_eq_true rfl⟩) ⟨bB_blind, bB_pre hK hKa hG hGT hN (fun q h9 => h9) hS (hfr _ _ _ hPa hS) hPw hPa _⟩ rfl rfl hl.1 rfl (lv_room (Nat.le_of_ble_eq_true rfl)) dL_law_286 ⟨by show (1018 + 1243 * turn) + 42 ≤ 852110; omega, by show (21311 + 33138 * turn) + 930 ≤ 6545367; omega⟩) hS (fun _ _ h9 => h9) (fun _ h9 => h9) (fun r_51 u9 U8 H_53 locs_54 ht hvm hu_52 hB hz1 hk1 hS1 => ?_)
                  obtain ⟨ws_55, M_55, T_55⟩ := u9
                  obtain ⟨hr_55, hc_55, hM_55, hLB_55, h15_55, hR_55, hT_55⟩ := hu_52
                  replace hT_55 : LT T_55 := hT_55
                  replace hB : va_P D vwCl ws_55 U8.heap ∧ va_P D vwCl (aws ad cI T_55) U8.heap := hB
                  rw [ht] at hB
                  clear hPw hPa hS
                  obtain ⟨hPw, hPa⟩ := hB
                  have hS := hS1
                  clear hS1 hz1 hk1 hvm ht U8
                  subst hr_55
                  replace hc_55 : cSt cI cO eA st A h M_55 ws_55 := hc_55
                  replace hM_55 : MI M_55 := hM_55
                  replace hLB_55 : m_LB M_55 := hLB_55
                  replace h15_55 : M_55 15 0 ≤ turn + 1 := h15_55
                  replace hR_55 : LR M_55 T_55 := hR_55
                  refine lv_goto (tgt := 380) hx hb dL_law_289 (by decide) ?_
                  refine lv_istore (lv' := [(19, .int (nI 1)), (18, .int (nI ac9)), (17, .int v_9), (16, .int v_8), (15, .int v_7), (0, .ref b), (1, .ref h), (2, .ref (ad 0)), (3, .ref (ad 1)), (4, .ref (ad 2)), (5, .ref (ad 3)), (6, .ref (ad 4)), (7, .ref (ad 5)), (8, .ref (ad 6)), (9, .ref (ad 7)), (10, .ref (ad 8)), (11, .ref (ad 9)), (12, .ref (ad 10)), (13, .ref (ad 11)), (14, .int (nI turn))]) hx hb dL_law_380 hl (by decide) rfl (fun ls hl => ?_)
                  refine lv_iload hx hb dL_law_382 (lv_at hl 0 rfl) ?_
                  refine n_if_eq (tgt := 422) hx hb dL_law_384 (by decide) (by decide) (fun c9 => absurd c9 (by decide)) (fun _ => ?_)
                  refine lv_aload_n hx hb dL_law_387 rfl (lv_at hl 6 rfl) ?_
                  refine lv_iload hx hb dL_law_388 (lv_at hl 4 rfl) ?_
                  refine lv_iconst (v := nI 5) hx hb dL_law_390 (by decide) ?_
                  refine lv_ishr hx hb dL_law_391 ?_
                  refine lv_iload hx hb dL_law_392 (lv_at hl 3 rfl) ?_
                  refine lv_ixor hx hb dL_law_394 ?_
                  refine lv_aload_n hx hb dL_law_395 rfl (lv_at hl 8 rfl) ?_
                  refine lv_aload hx hb dL_law_396 (lv_at hl 9 rfl) ?_
                  refine lv_aload hx hb dL_law_398 (lv_at hl 10 rfl) ?_
                  refine lv_aload hx hb dL_law_400 (lv_at hl 11 rfl) ?_
                  refine lv_aload hx hb dL_law_402 (lv_at hl 12 rfl) ?_
                  refine lv_aload hx hb dL_law_404 (lv_at hl 13 rfl) ?_
                  refine lv_aload hx hb dL_law_406 (lv_at hl 14 rfl) ?_
                  refine lv_aload hx hb dL_law_408 (lv_at hl 15 rfl) ?_
                  refine lv_aload hx hb dL_law_410 (lv_at hl 16 rfl) ?_
                  refine lv_aload hx hb dL_law_412 (lv_at hl 17 rfl) ?_
                  refine lv_aload hx hb dL_law_414 (lv_at hl 18 rfl) ?_
                  refine va_calli (va_runS (As := [.ref h, .int ((v_7 >>> ((nI 5) &&& 31)) ^^^ v_8), .ref (ad 1), .ref (ad 2), .ref (ad 3), .ref (ad 4), .ref (ad 5), .ref (ad 6), .ref (ad 7), .ref (ad 8), .ref (ad 9), .ref (ad 10), .ref (ad 11)]) (rest := []) ⟨hx, hb, hml, hown, hts⟩ (cb_isTold l hst D ad cI cO cb eA mi st dO dT vF hAB hsI hdB ws_55 hc_55 hM_55 hLB_55 h15_55 hR_55 hT_55 ((v_7 >>> ((nI 5) &&& 31)) ^^^ v_8)) (va_cwS 13 hts gL_law_L_isTold rfl rfl rfl kd_L_isTold ⟨Nat.le_of_ble_eq_true rfl, Nat.le_of_ble_eq_true rfl⟩) ⟨bB_blind, bB_pre hK hKa hG hGT hN (fun q h9 => h9) hS (hfr _ _ _ hPa hS) hPw hPa _⟩ rfl rfl hl.1 rfl (lv_room (Nat.le_of_ble_eq_true rfl)) dL_law_416 ⟨by show ((1018 + 1243 * turn) + 42) + 1000 ≤ 852110; omega, by show ((21311 + 33138 * turn) + 930) + 21000 ≤ 6545367; omega⟩) hS (fun _ _ h9 => h9) (fun _ h9 => h9) (fun r_56 u9 U8 H_58 locs_59 ht hvm hu_57 hB hz1 hk1 hS1 => ?_)
                  obtain ⟨ws_60, M_60⟩ := u9
                  obtain ⟨hr_60, hc_60, hM_60, hLB_60, h15_60, hR_60⟩ := hu_57
                  replace hB : va_P D vwCl ws_60 U8.heap ∧ va_P D vwCl (aws ad cI T_55) U8.heap := hB
                  rw [ht] at hB
                  clear hPw hPa hS
                  obtain ⟨hPw, hPa⟩ := hB
                  have hS := hS1
                  clear hS1 hz1 hk1 hvm ht U8
                  subst hr_60
                  replace hc_60 : cSt cI cO eA st A h M_60 ws_60 := hc_60
                  replace hM_60 : MI M_60 := hM_60
                  replace hLB_60 : m_LB M_60 := hLB_60
                  replace h15_60 : M_60 15 0 ≤ turn + 1 := h15_60
                  replace hR_60 : LR M_60 T_55 := hR_60
                  refine n_if_ne (tgt := 424) hx hb dL_law_419 (by decide) (by decide) (fun _ => ?_) (fun c9 => absurd c9 (by decide))
                  refine n_iinc (k := 19) (lv' := [(14, .int (nI (turn + 1))), (19, .int (nI 1)), (18, .int (nI ac9)), (17, .int v_9), (16, .int v_8), (15, .int v_7), (0, .ref b), (1, .ref h), (2, .ref (ad 0)), (3, .ref (ad 1)), (4, .ref (ad 2)), (5, .ref (ad 3)), (6, .ref (ad 4)), (7, .ref (ad 5)), (8, .ref (ad 6)), (9, .ref (ad 7)), (10, .ref (ad 8)), (11, .ref (ad 9)), (12, .ref (ad 10)), (13, .ref (ad 11))]) hx hb dL_law_424 hl rfl (by decide) rfl (fun ls hl => ?_)
                  refine lv_goto (tgt := 130) hx hb dL_law_427 (by decide) ?_
                  refine W.widen (k := 1018 + 1243 * (turn + 1)) (n := 21311 + 33138 * (turn + 1)) (by omega) (by omega) ?_
                  exact ih (by omega) (ws_60, M_60, T_55) _ _ ⟨⟨hc_60, hM_60, hLB_60, h15_60, hR_60, hT_55⟩, hPw, hPa, hS⟩ ls (lv_sub hl [6, 7, 8, 9, 10, 11, 12, 13, 14, 15, 16, 17, 18, 19, 0] rfl)
              · have hk9 := hk_15
                refine lv_iload hx hb dL_law_221 (lv_at hl 17 rfl) ?_
                refine lv_iconst (v := nI 2) hx hb dL_law_223 (by decide) ?_
                refine n_icmp_ge (tgt := 231) hx hb dL_law_224 (by decide) (by omega) (by decide) (fun c_61 => ?_) (fun c_61 => ?_)
                · refine lv_iload hx hb dL_law_231 (lv_at hl 17 rfl) ?_
                  refine lv_iconst (v := nI 5) hx hb dL_law_233 (by decide) ?_
                  refine n_icmp_ge (tgt := 241) hx hb dL_law_234 (by decide) (by omega) (by decide) (fun c_62 => ?_) (fun c_62 => ?_)
                  · refine lv_iload hx hb dL_law_241 (lv_at hl 2 rfl) ?_
                    refine lv_iload hx hb dL_law_243 (lv_at hl 17 rfl) ?_
                    refine lv_bipush (v := nI 25) hx hb dL_law_245 (by decide) ?_
                    refine n_icmp_ge (tgt := 255) hx hb dL_law_247 (by decide) (by omega) (by decide) (fun c_63 => ?_) (fun c_63 => ?_)
                    · refine lv_bipush (v := nI 48) hx hb dL_law_255 (by decide) ?_
                      refine vp_callSi (W.runS (As := [.int v_7, .int (nI 48)]) (rest := []) ⟨hx, hb, hml, hown, hts⟩ (ch_low l v_7 48 (by omega) (by omega)) (va_cwS 2 hts gL_law_L_low rfl rfl rfl kd_L_low ⟨Nat.le_of_ble_eq_true rfl, Nat.le_of_ble_eq_true rfl⟩) ⟨fun _ _ _ _ q => q, fun U hU hW => ⟨rfl, trivial⟩⟩ rfl rfl hl.1 rfl (lv_room (Nat.le_of_ble_eq_true rfl)) dL_law_257 ⟨by show (1018 + 1243 * turn) + 0 ≤ 852110; omega, by show (21311 + 33138 * turn) + 0 ≤ 6545367; omega⟩) (fun r_64 hr_64 => ?_)
                      subst hr_64
                      have hw9 : lowN v_7 48 < 48 := lowN_lt _ (by decide)
                      generalize lowN v_7 48 = w9 at hw9 ⊢
                      refine lv_istore (lv' := [(18, .int (nI w9)), (17, .int v_9), (16, .int v_8), (15, .int v_7), (0, .ref b), (1, .ref h), (2, .ref (ad 0)), (3, .ref (ad 1)), (4, .ref (ad 2)), (5, .ref (ad 3)), (6, .ref (ad 4)), (7, .ref (ad 5)), (8, .ref (ad 6)), (9, .ref (ad 7)), (10, .ref (ad 8)), (11, .ref (ad 9)), (12, .ref (ad 10)), (13, .ref (ad 11)), (14, .int (nI turn))]) hx hb dL_law_260 hl (by decide) rfl (fun ls hl => ?_)
                      exact hk_15 w9 (by omega) ls (lv_sub hl [0, 1, 2, 3, 4, 5, 6, 7, 8, 9, 10, 11, 12, 13, 14, 15, 16, 17, 18] rfl)
                    · refine lv_bipush (v := nI 15) hx hb dL_law_250 (by decide) ?_
                      refine lv_goto (tgt := 257) hx hb dL_law_252 (by decide) ?_
                      refine vp_callSi (W.runS (As := [.int v_7, .int (nI 15)]) (rest := []) ⟨hx, hb, hml, hown, hts⟩ (ch_low l v_7 15 (by omega) (by omega)) (va_cwS 2 hts gL_law_L_low rfl rfl rfl kd_L_low ⟨Nat.le_of_ble_eq_true rfl, Nat.le_of_ble_eq_true rfl⟩) ⟨fun _ _ _ _ q => q, fun U hU hW => ⟨rfl, trivial⟩⟩ rfl rfl hl.1 rfl (lv_room (Nat.le_of_ble_eq_true rfl)) dL_law_257 ⟨by show (1018 + 1243 * turn) + 0 ≤ 852110; omega, by show (21311 + 33138 * turn) + 0 ≤ 6545367; omega⟩) (fun r_65 hr_65 => ?_)
                      subst hr_65
                      have hw9 : lowN v_7 15 < 15 := lowN_lt _ (by decide)
                      generalize lowN v_7 15 = w9 at hw9 ⊢
                      refine lv_istore (lv' := [(18, .int (nI w9)), (17, .int v_9), (16, .int v_8), (15, .int v_7), (0, .ref b), (1, .ref h), (2, .ref (ad 0)), (3, .ref (ad 1)), (4, .ref (ad 2)), (5, .ref (ad 3)), (6, .ref (ad 4)), (7, .ref (ad 5)), (8, .ref (ad 6)), (9, .ref (ad 7)), (10, .ref (ad 8)), (11, .ref (ad 9)), (12, .ref (ad 10)), (13, .ref (ad 11)), (14, .int (nI turn))]) hx hb dL_law_260 hl (by decide) rfl (fun ls hl => ?_)
                      exact hk_15 w9 (by omega) ls (lv_sub hl [0, 1, 2, 3, 4, 5, 6, 7, 8, 9, 10, 11, 12, 13, 14, 15, 16, 17, 18] rfl)
                  · refine lv_iconst (v := nI 4) hx hb dL_law_237 (by decide) ?_
                    refine lv_goto (tgt := 260) hx hb dL_law_238 (by decide) ?_
                    refine lv_istore (lv' := [(18, .int (nI 4)), (17, .int v_9), (16, .int v_8), (15, .int v_7), (0, .ref b), (1, .ref h), (2, .ref (ad 0)), (3, .ref (ad 1)), (4, .ref (ad 2)), (5, .ref (ad 3)), (6, .ref (ad 4)), (7, .ref (ad 5)), (8, .ref (ad 6)), (9, .ref (ad 7)), (10, .ref (ad 8)), (11, .ref (ad 9)), (12, .ref (ad 10)), (13, .ref (ad 11)), (14, .int (nI turn))]) hx hb dL_law_260 hl (by decide) rfl (fun ls hl => ?_)
                    exact hk_15 4 (by omega) ls (lv_sub hl [0, 1, 2, 3, 4, 5, 6, 7, 8, 9, 10, 11, 12, 13, 14, 15, 16, 17, 18] rfl)
                · refine lv_iconst (v := nI 0) hx hb dL_law_227 (by decide) ?_
                  refine lv_goto (tgt := 260) hx hb dL_law_228 (by decide) ?_
                  refine lv_istore (lv' := [(18, .int (nI 0)), (17, .int v_9), (16, .int v_8), (15, .int v_7), (0, .ref b), (1, .ref h), (2, .ref (ad 0)), (3, .ref (ad 1)), (4, .ref (ad 2)), (5, .ref (ad 3)), (6, .ref (ad 4)), (7, .ref (ad 5)), (8, .ref (ad 6)), (9, .ref (ad 7)), (10, .ref (ad 8)), (11, .ref (ad 9)), (12, .ref (ad 10)), (13, .ref (ad 11)), (14, .int (nI turn))]) hx hb dL_law_260 hl (by decide) rfl (fun ls hl => ?_)
                  exact hk_15 0 (by omega) ls (lv_sub hl [0, 1, 2, 3, 4, 5, 6, 7, 8, 9, 10, 11, 12, 13, 14, 15, 16, 17, 18] rfl)
            · refine lv_iconst (v := nI 1) hx hb dL_law_219 (by decide) ?_
              exact kend _ _ _ _ _ ls hS (by omega) (by omega) dL_law_220
