/-! the best bid -/

set_option maxHeartbeats 4000000 in
set_option maxRecDepth 100000 in
theorem ch_best (l : Launch) (D : va_G) (ad : Nat → Nat) (cI : ClassId) (T : MS) (hT : LT T) (j : Nat) (z : Nat) (hj : j < 4) (hz : z < 16) (hw : t_we T (j / 2) ≤ 100) (hp : ∀ q, q < 16 → t_tk T q = true → 0 < t_pr T q) : Met l yL_best wsL_best ({ frames := 3, cells := 0, slots := 0, locals := 77 }) (va_Pc [.ref (ad 1), .ref (ad 3), .ref (ad 4), .ref (ad 5), .ref (ad 6), .ref (ad 11), .int (nI j), .int (nI z)] (aB D ad cI T)) (vp_Si (fun r => r = optI (t_best T j z))) 0 0 (fun _ => False) := by
  refine Met.ofW (cc := cL_best) (maxL := 11) (ret := (some .int)) (by decide) rfl ?_
  intro p e s m args below meth c s₁ B hml hv
  obtain ⟨rfl, hP, hK⟩ := hv
  have hx := B.exec
  have hb := B.bytes
  have hr := B.returns
  have hts := atoms_spec (ws := wsL_best) B.pre
  have hown : s.vm.findClass RL = some m.cls := findClass_of_methodNamed B.named
  have hlocks := B.notSynchronized
  have hl := lv_entry ([.ref (ad 1), .ref (ad 3), .ref (ad 4), .ref (ad 5), .ref (ad 6), .ref (ad 11), .int (nI j), .int (nI z)]) (n := 11) (Nat.le_of_ble_eq_true rfl)
  rw [lg_entry_eq]
  generalize (lg_sl ([.ref (ad 1), .ref (ad 3), .ref (ad 4), .ref (ad 5), .ref (ad 6), .ref (ad 11), .int (nI j), .int (nI z)]) ++ List.replicate (11 - (lg_sl ([.ref (ad 1), .ref (ad 3), .ref (ad 4), .ref (ad 5), .ref (ad 6), .ref (ad 11), .int (nI j), .int (nI z)])).length) Slot.unset).toArray = ls at hl ⊢
  have hl : lv_has ls 11 [(0, .ref (ad 1)), (1, .ref (ad 3)), (2, .ref (ad 4)), (3, .ref (ad 5)), (4, .ref (ad 6)), (5, .ref (ad 11)), (6, .int (nI j)), (7, .int (nI z))] := hl
  refine lv_iconst (v := (-1)) hx hb dL_best_0 (by decide) ?_
  refine lv_istore (lv' := [(8, .int (-1)), (0, .ref (ad 1)), (1, .ref (ad 3)), (2, .ref (ad 4)), (3, .ref (ad 5)), (4, .ref (ad 6)), (5, .ref (ad 11)), (6, .int (nI j)), (7, .int (nI z))]) hx hb dL_best_1 hl (by decide) rfl (fun ls hl => ?_)
  refine lv_iconst (v := nI 4) hx hb dL_best_3 (by decide) ?_
  refine lv_iload hx hb dL_best_4 (lv_at hl 7 rfl) ?_
  refine n_imul hx hb dL_best_6 (z := 4 * j) rfl ?_
  refine lv_istore (lv' := [(9, .int (nI (4 * j))), (8, .int (-1)), (0, .ref (ad 1)), (1, .ref (ad 3)), (2, .ref (ad 4)), (3, .ref (ad 5)), (4, .ref (ad 6)), (5, .ref (ad 11)), (6, .int (nI j)), (7, .int (nI z))]) hx hb dL_best_7 hl (by decide) rfl (fun ls hl => ?_)
  have eI_1 : optI (t_bsf T j z 0) = (-1) := by rfl
  have eI_2 : 4 * j + 0 = 4 * j := by omega
  refine w_loop (e := 4) (nL := 11) (fun k => [(0, .ref (ad 1)), (1, .ref (ad 3)), (2, .ref (ad 4)), (3, .ref (ad 5)), (4, .ref (ad 6)), (5, .ref (ad 11)), (6, .int (nI j)), (7, .int (nI z)), (8, .int (optI (t_bsf T j z k))), (9, .int (nI (4 * j + k)))]) (fun k hb_4 ih_3 ls hl => ?_) 0 (by omega) ls (lv_sub hl [2, 3, 4, 5, 6, 7, 8, 9, 1, 0] (by show lv_pick _ _ = [(0, .ref (ad 1)), (1, .ref (ad 3)), (2, .ref (ad 4)), (3, .ref (ad 5)), (4, .ref (ad 6)), (5, .ref (ad 11)), (6, .int (nI j)), (7, .int (nI z)), (8, .int (optI (t_bsf T j z 0))), (9, .int (nI (4 * j + 0)))]; rw [eI_1, eI_2]; rfl))
  refine lv_iload hx hb dL_best_9 (lv_at hl 9 rfl) ?_
  refine lv_iconst (v := nI 4) hx hb dL_best_11 (by decide) ?_
  refine lv_iload hx hb dL_best_12 (lv_at hl 6 rfl) ?_
  refine n_imul hx hb dL_best_14 (z := 4 * j) rfl ?_
  refine lv_iconst (v := nI 4) hx hb dL_best_15 (by decide) ?_
  refine n_iadd hx hb dL_best_16 (z := (4 * j) + 4) rfl ?_
  refine n_icmp_ge (tgt := 153) hx hb dL_best_17 (by decide) (by omega) (by omega) (fun c_6 => ?_) (fun c_6 => ?_)
  · obtain rfl : 4 = k := by omega
    refine lv_iload hx hb dL_best_153 (lv_at hl 8 rfl) ?_
    exact W.iret (v := optI (t_bsf T j z 4)) hx hb hr (fun U9 ht hW => ⟨_, rfl, (show optI (t_bsf T j z 4) = optI (t_best T j z) from by rfl), ht⟩) (fun _ h => by cases h) dL_best_155
  · refine lv_iload hx hb dL_best_20 (lv_at hl 7 rfl) ?_
    refine lv_iload hx hb dL_best_22 (lv_at hl 9 rfl) ?_
    refine lv_iconst (v := nI 4) hx hb dL_best_24 (by decide) ?_
    refine n_irem hx hb dL_best_25 (z := (4 * j + k) % 4) (by omega) (by decide) (by decide) rfl ?_
    refine lv_ishr hx hb dL_best_26 ?_
    rw [show (nI z) >>> ((nI ((4 * j + k) % 4)) &&& 31) = nI (z / 2 ^ k) from (by rw [t_z4 (by omega)]; exact n_shrK (by omega) (by omega) rfl)]
    refine lv_iconst (v := nI 1) hx hb dL_best_27 (by decide) ?_
    refine lv_iand hx hb dL_best_28 ?_
    rw [show (nI (z / 2 ^ k)) &&& (nI 1) = nI ((z / 2 ^ k) % 2) from n_andK (k := 1) (by have f1 := (Nat.div_le_self z (2 ^ k)); omega) (by decide) (by decide) rfl]
    refine lv_iconst (v := nI 1) hx hb dL_best_29 (by decide) ?_
    refine n_icmp_eq (tgt := 147) hx hb dL_best_30 (by decide) (by have f1 := (Nat.div_le_self z (2 ^ k)); omega) (by decide) (fun c_7 => ?_) (fun c_7 => ?_)
    · refine n_iinc (k := 9) (lv' := [(9, .int (nI (4 * j + k + 1))), (0, .ref (ad 1)), (1, .ref (ad 3)), (2, .ref (ad 4)), (3, .ref (ad 5)), (4, .ref (ad 6)), (5, .ref (ad 11)), (6, .int (nI j)), (7, .int (nI z)), (8, .int (optI (t_bsf T j z k)))]) hx hb dL_best_147 hl rfl (by decide) rfl (fun ls hl => ?_)
      refine lv_goto (tgt := 9) hx hb dL_best_150 (by decide) ?_
      have e_8 : optI (t_bsf T j z (k + 1)) = optI (t_bsf T j z k) := by first | (exfalso; omega) | (rw [t_bsf, if_pos (Or.inl (by assumption))]; done) | (rw [t_bsf, if_pos (Or.inr (by assumption))]; done) | (rw [t_bsf, if_neg (fun z9 => z9.elim (fun y9 => absurd y9 (by assumption)) (fun y9 => absurd (y9.symm.trans (show t_tk T (4 * j + k) = true by assumption)) (by decide))), (by assumption : t_bsf T j z k = none)]; rfl) | (rw [t_bsf, if_neg (fun z9 => z9.elim (fun y9 => absurd y9 (by assumption)) (fun y9 => absurd (y9.symm.trans (show t_tk T (4 * j + k) = true by assumption)) (by decide))), hf9]; show optI (if t_bt T (4 * j + k) f9 then some (4 * j + k) else some f9) = _; rw [if_pos (by unfold t_bt; omega)]; rfl) | (rw [t_bsf, if_neg (fun z9 => z9.elim (fun y9 => absurd y9 (by assumption)) (fun y9 => absurd (y9.symm.trans (show t_tk T (4 * j + k) = true by assumption)) (by decide))), hf9]; show optI (if t_bt T (4 * j + k) f9 then some (4 * j + k) else some f9) = _; rw [if_neg (by unfold t_bt; omega)]; rfl)
      have e_9 : 4 * j + (k + 1) = 4 * j + k + 1 := by omega
      refine ih_3 (by omega) ls ?_
      show lv_has ls 11 [(0, .ref (ad 1)), (1, .ref (ad 3)), (2, .ref (ad 4)), (3, .ref (ad 5)), (4, .ref (ad 6)), (5, .ref (ad 11)), (6, .int (nI j)), (7, .int (nI z)), (8, .int (optI (t_bsf T j z (k + 1)))), (9, .int (nI (4 * j + (k + 1))))]
      rw [e_8, e_9]
      exact lv_sub hl [1, 2, 3, 4, 5, 6, 7, 8, 9, 0] rfl
    · refine lv_aload_n hx hb dL_best_33 rfl (lv_at hl 0 rfl) ?_
      refine lv_aload_n hx hb dL_best_34 rfl (lv_at hl 1 rfl) ?_
      refine lv_aload_n hx hb dL_best_35 rfl (lv_at hl 3 rfl) ?_
      refine lv_aload hx hb dL_best_36 (lv_at hl 4 rfl) ?_
      refine lv_aload hx hb dL_best_38 (lv_at hl 5 rfl) ?_
      refine lv_iload hx hb dL_best_40 (lv_at hl 9 rfl) ?_
      refine vp_callSi (W.runS (As := [.ref (ad 1), .ref (ad 3), .ref (ad 5), .ref (ad 6), .ref (ad 11), .int (nI (4 * j + k))]) (rest := []) ⟨hx, hb, hml, hown, hts⟩ (ch_takes l D ad cI T hT (4 * j + k) (by omega)) (va_cwS 6 hts gL_best_L_takes rfl rfl rfl kd_L_takes ⟨Nat.le_of_ble_eq_true rfl, Nat.le_of_ble_eq_true rfl⟩) ⟨aB_blind, a_pre hK hP _⟩ rfl rfl hl.1 rfl (lv_room (Nat.le_of_ble_eq_true rfl)) dL_best_42 ⟨Nat.le_of_ble_eq_true rfl, Nat.le_of_ble_eq_true rfl⟩) (fun r_10 hr_10 => ?_)
      subst hr_10
      refine b_if_ne (tgt := 51) hx hb dL_best_45 (by decide)  (fun c_11 => ?_) (fun c_11 => ?_)
      · rcases hf9 : t_bsf T j z k with _ | f9
        · rw [hf9] at hl
          have hl : lv_has ls 11 [(0, .ref (ad 1)), (1, .ref (ad 3)), (2, .ref (ad 4)), (3, .ref (ad 5)), (4, .ref (ad 6)), (5, .ref (ad 11)), (6, .int (nI j)), (7, .int (nI z)), (8, .int (-1)), (9, .int (nI (4 * j + k)))] := hl
          refine lv_iload hx hb dL_best_51 (lv_at hl 8 rfl) ?_
          refine lv_if_ge (tgt := 60) hx hb dL_best_53 (by decide)  (fun c9 => absurd c9 (by decide)) (fun _ => ?_)
          refine lv_iconst (v := nI 1) hx hb dL_best_56 (by decide) ?_
          refine lv_goto (tgt := 85) hx hb dL_best_57 (by decide) ?_
          refine lv_istore (lv' := [(10, .int (nI 1)), (0, .ref (ad 1)), (1, .ref (ad 3)), (2, .ref (ad 4)), (3, .ref (ad 5)), (4, .ref (ad 6)), (5, .ref (ad 11)), (6, .int (nI j)), (7, .int (nI z)), (8, .int (-1)), (9, .int (nI (4 * j + k)))]) hx hb dL_best_85 hl (by decide) rfl (fun ls hl => ?_)
          refine lv_iload hx hb dL_best_87 (lv_at hl 0 rfl) ?_
          refine n_if_ne (tgt := 108) hx hb dL_best_89 (by decide) (by decide) (fun _ => ?_) (fun c9 => absurd c9 (by decide))
          refine lv_iload hx hb dL_best_108 (lv_at hl 0 rfl) ?_
          refine lv_istore (lv' := [(10, .int (nI 1)), (0, .ref (ad 1)), (1, .ref (ad 3)), (2, .ref (ad 4)), (3, .ref (ad 5)), (4, .ref (ad 6)), (5, .ref (ad 11)), (6, .int (nI j)), (7, .int (nI z)), (8, .int (-1)), (9, .int (nI (4 * j + k)))]) hx hb dL_best_110 hl (by decide) rfl (fun ls hl => ?_)
          refine lv_iload hx hb dL_best_112 (lv_at hl 0 rfl) ?_
          refine n_if_ne (tgt := 129) hx hb dL_best_114 (by decide) (by decide) (fun _ => ?_) (fun c9 => absurd c9 (by decide))
          refine lv_iload hx hb dL_best_129 (lv_at hl 0 rfl) ?_
          refine lv_istore (lv' := [(10, .int (nI 1)), (0, .ref (ad 1)), (1, .ref (ad 3)), (2, .ref (ad 4)), (3, .ref (ad 5)), (4, .ref (ad 6)), (5, .ref (ad 11)), (6, .int (nI j)), (7, .int (nI z)), (8, .int (-1)), (9, .int (nI (4 * j + k)))]) hx hb dL_best_131 hl (by decide) rfl (fun ls hl => ?_)
          refine lv_iload hx hb dL_best_133 (lv_at hl 0 rfl) ?_
          refine n_if_le (tgt := 143) hx hb dL_best_135 (by decide) (by decide) (fun c9 => absurd c9 (by decide)) (fun _ => ?_)
          refine lv_iload hx hb dL_best_138 (lv_at hl 10 rfl) ?_
          refine lv_goto (tgt := 145) hx hb dL_best_140 (by decide) ?_
          refine lv_istore (lv' := [(8, .int (nI (4 * j + k))), (10, .int (nI 1)), (0, .ref (ad 1)), (1, .ref (ad 3)), (2, .ref (ad 4)), (3, .ref (ad 5)), (4, .ref (ad 6)), (5, .ref (ad 11)), (6, .int (nI j)), (7, .int (nI z)), (9, .int (nI (4 * j + k)))]) hx hb dL_best_145 hl (by decide) rfl (fun ls hl => ?_)
          refine n_iinc (k := 10) (lv' := [(9, .int (nI (4 * j + k + 1))), (8, .int (nI (4 * j + k))), (10, .int (nI 1)), (0, .ref (ad 1)), (1, .ref (ad 3)), (2, .ref (ad 4)), (3, .ref (ad 5)), (4, .ref (ad 6)), (5, .ref (ad 11)), (6, .int (nI j)), (7, .int (nI z))]) hx hb dL_best_147 hl rfl (by decide) rfl (fun ls hl => ?_)
          refine lv_goto (tgt := 9) hx hb dL_best_150 (by decide) ?_
          have e_12 : optI (t_bsf T j z (k + 1)) = nI (4 * j + k) := by first | (exfalso; omega) | (rw [t_bsf, if_pos (Or.inl (by assumption))]; done) | (rw [t_bsf, if_pos (Or.inr (by assumption))]; done) | (rw [t_bsf, if_neg (fun z9 => z9.elim (fun y9 => absurd y9 (by assumption)) (fun y9 => absurd (y9.symm.trans (show t_tk T (4 * j + k) = true by assumption)) (by decide))), (by assumption : t_bsf T j z k = none)]; rfl) | (rw [t_bsf, if_neg (fun z9 => z9.elim (fun y9 => absurd y9 (by assumption)) (fun y9 => absurd (y9.symm.trans (show t_tk T (4 * j + k) = true by assumption)) (by decide))), hf9]; show optI (if t_bt T (4 * j + k) f9 then some (4 * j + k) else some f9) = _; rw [if_pos (by unfold t_bt; omega)]; rfl) | (rw [t_bsf, if_neg (fun z9 => z9.elim (fun y9 => absurd y9 (by assumption)) (fun y9 => absurd (y9.symm.trans (show t_tk T (4 * j + k) = true by assumption)) (by decide))), hf9]; show optI (if t_bt T (4 * j + k) f9 then some (4 * j + k) else some f9) = _; rw [if_neg (by unfold t_bt; omega)]; rfl)
          have e_13 : 4 * j + (k + 1) = 4 * j + k + 1 := by omega
          refine ih_3 (by omega) ls ?_
          show lv_has ls 11 [(0, .ref (ad 1)), (1, .ref (ad 3)), (2, .ref (ad 4)), (3, .ref (ad 5)), (4, .ref (ad 6)), (5, .ref (ad 11)), (6, .int (nI j)), (7, .int (nI z)), (8, .int (optI (t_bsf T j z (k + 1)))), (9, .int (nI (4 * j + (k + 1))))]
          rw [e_12, e_13]
          exact lv_sub hl [3, 4, 5, 6, 7, 8, 9, 10, 1, 0] rfl
        · rw [hf9] at hl
          have hl : lv_has ls 11 [(0, .ref (ad 1)), (1, .ref (ad 3)), (2, .ref (ad 4)), (3, .ref (ad 5)), (4, .ref (ad 6)), (5, .ref (ad 11)), (6, .int (nI j)), (7, .int (nI z)), (8, .int (nI f9)), (9, .int (nI (4 * j + k)))] := hl
          have hfo := t_bsf_some (T := T) (lot := j) (z := z) k f9 hf9
          have hfo1 := hfo.1
          have hfo2 := hfo.2.1
          refine lv_iload hx hb dL_best_51 (lv_at hl 8 rfl) ?_
          refine n_if_geT (tgt := 60) hx hb dL_best_53 (by decide) (by have f1 := hfo.1; have f2 := hfo.2.1; omega) ?_
          refine lv_aload_n hx hb dL_best_60 rfl (lv_at hl 0 rfl) ?_
          refine lv_aload_n hx hb dL_best_61 rfl (lv_at hl 1 rfl) ?_
          refine lv_aload_n hx hb dL_best_62 rfl (lv_at hl 3 rfl) ?_
          refine lv_aload hx hb dL_best_63 (lv_at hl 4 rfl) ?_
          refine lv_aload hx hb dL_best_65 (lv_at hl 5 rfl) ?_
          refine lv_iload hx hb dL_best_67 (lv_at hl 9 rfl) ?_
          refine vp_callSi (W.runS (As := [.ref (ad 1), .ref (ad 3), .ref (ad 5), .ref (ad 6), .ref (ad 11), .int (nI (4 * j + k))]) (rest := []) ⟨hx, hb, hml, hown, hts⟩ (ch_points l D ad cI T hT (4 * j + k) (by omega) (by exact hp _ (by omega) (by assumption)) (by rw [show (4 * j + k) / 8 = j / 2 by omega]; exact hw)) (va_cwS 6 hts gL_best_L_points rfl rfl rfl kd_L_points ⟨Nat.le_of_ble_eq_true rfl, Nat.le_of_ble_eq_true rfl⟩) ⟨aB_blind, a_pre hK hP _⟩ rfl rfl hl.1 rfl (lv_room (Nat.le_of_ble_eq_true rfl)) dL_best_69 ⟨Nat.le_of_ble_eq_true rfl, Nat.le_of_ble_eq_true rfl⟩) (fun r_14 hr_14 => ?_)
          subst hr_14
          refine lv_aload_n hx hb dL_best_72 rfl (lv_at hl 0 rfl) ?_
          refine lv_aload_n hx hb dL_best_73 rfl (lv_at hl 1 rfl) ?_
          refine lv_aload_n hx hb dL_best_74 rfl (lv_at hl 3 rfl) ?_
          refine lv_aload hx hb dL_best_75 (lv_at hl 4 rfl) ?_
          refine lv_aload hx hb dL_best_77 (lv_at hl 5 rfl) ?_
          refine lv_iload hx hb dL_best_79 (lv_at hl 8 rfl) ?_
          refine vp_callSi (W.runS (As := [.ref (ad 1), .ref (ad 3), .ref (ad 5), .ref (ad 6), .ref (ad 11), .int (nI f9)]) (rest := [.int (nI (t_po T (4 * j + k)))]) ⟨hx, hb, hml, hown, hts⟩ (ch_points l D ad cI T hT f9 (by omega) (by exact hp _ (by omega) hfo.2.2) (by rw [show f9 / 8 = j / 2 by omega]; exact hw)) (va_cwS 6 hts gL_best_L_points rfl rfl rfl kd_L_points ⟨Nat.le_of_ble_eq_true rfl, Nat.le_of_ble_eq_true rfl⟩) ⟨aB_blind, a_pre hK hP _⟩ rfl rfl hl.1 rfl (lv_room (Nat.le_of_ble_eq_true rfl)) dL_best_81 ⟨Nat.le_of_ble_eq_true rfl, Nat.le_of_ble_eq_true rfl⟩) (fun r_15 hr_15 => ?_)
          subst hr_15
          refine lv_isub hx hb dL_best_84 ?_
          refine lv_istore (lv' := [(10, .int ((nI (t_po T (4 * j + k))) - (nI (t_po T f9)))), (0, .ref (ad 1)), (1, .ref (ad 3)), (2, .ref (ad 4)), (3, .ref (ad 5)), (4, .ref (ad 6)), (5, .ref (ad 11)), (6, .int (nI j)), (7, .int (nI z)), (8, .int (nI f9)), (9, .int (nI (4 * j + k)))]) hx hb dL_best_85 hl (by decide) rfl (fun ls hl => ?_)
          have hw1 : t_we T ((4 * j + k) / 8) ≤ 100 := by rw [show (4 * j + k) / 8 = j / 2 by omega]; exact hw
          have hw2 : t_we T (f9 / 8) ≤ 100 := by rw [show f9 / 8 = j / 2 by omega]; exact hw
          have hb1 : t_po T (4 * j + k) < 300000 := t_po_lt hT.1 (by assumption) hw1
          have hb2 : t_po T f9 < 300000 := t_po_lt hT.1 hfo.2.2 hw2
          have hq1 : t_pr T (4 * j + k) < 1048576 := Nat.mod_lt _ (by decide)
          have hq2 : t_pr T f9 < 1048576 := Nat.mod_lt _ (by decide)
          have hn1 : T 4 (4 * j + k) ≤ 1000 := hT.1 4 _
          have hn2 : T 4 f9 ≤ 1000 := hT.1 4 _
          refine lv_iload hx hb dL_best_87 (lv_at hl 0 rfl) ?_
          refine lv_if_ne (tgt := 108) hx hb dL_best_89 (by decide)  (fun c_16 => ?_) (fun c_16 => ?_)
          · rw [d_eq0 (by omega) (by omega)] at c_16
            refine lv_iload hx hb dL_best_108 (lv_at hl 0 rfl) ?_
            refine lv_istore (lv' := [(10, .int ((nI (t_po T (4 * j + k))) - (nI (t_po T f9)))), (0, .ref (ad 1)), (1, .ref (ad 3)), (2, .ref (ad 4)), (3, .ref (ad 5)), (4, .ref (ad 6)), (5, .ref (ad 11)), (6, .int (nI j)), (7, .int (nI z)), (8, .int (nI f9)), (9, .int (nI (4 * j + k)))]) hx hb dL_best_110 hl (by decide) rfl (fun ls hl => ?_)
            refine lv_iload hx hb dL_best_112 (lv_at hl 0 rfl) ?_
            refine lv_if_ne (tgt := 129) hx hb dL_best_114 (by decide)  (fun c_17 => ?_) (fun c_17 => ?_)
            · rw [d_eq0 (by omega) (by omega)] at c_17
              refine lv_iload hx hb dL_best_129 (lv_at hl 0 rfl) ?_
              refine lv_istore (lv' := [(10, .int ((nI (t_po T (4 * j + k))) - (nI (t_po T f9)))), (0, .ref (ad 1)), (1, .ref (ad 3)), (2, .ref (ad 4)), (3, .ref (ad 5)), (4, .ref (ad 6)), (5, .ref (ad 11)), (6, .int (nI j)), (7, .int (nI z)), (8, .int (nI f9)), (9, .int (nI (4 * j + k)))]) hx hb dL_best_131 hl (by decide) rfl (fun ls hl => ?_)
              refine lv_iload hx hb dL_best_133 (lv_at hl 0 rfl) ?_
              refine lv_if_le (tgt := 143) hx hb dL_best_135 (by decide)  (fun c_18 => ?_) (fun c_18 => ?_)
              · rw [d_le0 (by omega) (by omega)] at c_18
                refine lv_iload hx hb dL_best_143 (lv_at hl 9 rfl) ?_
                refine lv_istore (lv' := [(8, .int (nI f9)), (10, .int ((nI (t_po T (4 * j + k))) - (nI (t_po T f9)))), (0, .ref (ad 1)), (1, .ref (ad 3)), (2, .ref (ad 4)), (3, .ref (ad 5)), (4, .ref (ad 6)), (5, .ref (ad 11)), (6, .int (nI j)), (7, .int (nI z)), (9, .int (nI (4 * j + k)))]) hx hb dL_best_145 hl (by decide) rfl (fun ls hl => ?_)
                refine n_iinc (k := 10) (lv' := [(9, .int (nI (4 * j + k + 1))), (8, .int (nI f9)), (10, .int ((nI (t_po T (4 * j + k))) - (nI (t_po T f9)))), (0, .ref (ad 1)), (1, .ref (ad 3)), (2, .ref (ad 4)), (3, .ref (ad 5)), (4, .ref (ad 6)), (5, .ref (ad 11)), (6, .int (nI j)), (7, .int (nI z))]) hx hb dL_best_147 hl rfl (by decide) rfl (fun ls hl => ?_)
                refine lv_goto (tgt := 9) hx hb dL_best_150 (by decide) ?_
                have e_19 : optI (t_bsf T j z (k + 1)) = nI f9 := by first | (exfalso; omega) | (rw [t_bsf, if_pos (Or.inl (by assumption))]; done) | (rw [t_bsf, if_pos (Or.inr (by assumption))]; done) | (rw [t_bsf, if_neg (fun z9 => z9.elim (fun y9 => absurd y9 (by assumption)) (fun y9 => absurd (y9.symm.trans (show t_tk T (4 * j + k) = true by assumption)) (by decide))), (by assumption : t_bsf T j z k = none)]; rfl) | (rw [t_bsf, if_neg (fun z9 => z9.elim (fun y9 => absurd y9 (by assumption)) (fun y9 => absurd (y9.symm.trans (show t_tk T (4 * j + k) = true by assumption)) (by decide))), hf9]; show optI (if t_bt T (4 * j + k) f9 then some (4 * j + k) else some f9) = _; rw [if_pos (by unfold t_bt; omega)]; rfl) | (rw [t_bsf, if_neg (fun z9 => z9.elim (fun y9 => absurd y9 (by assumption)) (fun y9 => absurd (y9.symm.trans (show t_tk T (4 * j + k) = true by assumption)) (by decide))), hf9]; show optI (if t_bt T (4 * j + k) f9 then some (4 * j + k) else some f9) = _; rw [if_neg (by unfold t_bt; omega)]; rfl)
                have e_20 : 4 * j + (k + 1) = 4 * j + k + 1 := by omega
                refine ih_3 (by omega) ls ?_
                show lv_has ls 11 [(0, .ref (ad 1)), (1, .ref (ad 3)), (2, .ref (ad 4)), (3, .ref (ad 5)), (4, .ref (ad 6)), (5, .ref (ad 11)), (6, .int (nI j)), (7, .int (nI z)), (8, .int (optI (t_bsf T j z (k + 1)))), (9, .int (nI (4 * j + (k + 1))))]
                rw [e_19, e_20]
                exact lv_sub hl [3, 4, 5, 6, 7, 8, 9, 10, 1, 0] rfl
              · rw [d_le0 (by omega) (by omega)] at c_18
                refine lv_iload hx hb dL_best_138 (lv_at hl 10 rfl) ?_
                refine lv_goto (tgt := 145) hx hb dL_best_140 (by decide) ?_
                refine lv_istore (lv' := [(8, .int (nI (4 * j + k))), (10, .int ((nI (t_po T (4 * j + k))) - (nI (t_po T f9)))), (0, .ref (ad 1)), (1, .ref (ad 3)), (2, .ref (ad 4)), (3, .ref (ad 5)), (4, .ref (ad 6)), (5, .ref (ad 11)), (6, .int (nI j)), (7, .int (nI z)), (9, .int (nI (4 * j + k)))]) hx hb dL_best_145 hl (by decide) rfl (fun ls hl => ?_)
                refine n_iinc (k := 10) (lv' := [(9, .int (nI (4 * j + k + 1))), (8, .int (nI (4 * j + k))), (10, .int ((nI (t_po T (4 * j + k))) - (nI (t_po T f9)))), (0, .ref (ad 1)), (1, .ref (ad 3)), (2, .ref (ad 4)), (3, .ref (ad 5)), (4, .ref (ad 6)), (5, .ref (ad 11)), (6, .int (nI j)), (7, .int (nI z))]) hx hb dL_best_147 hl rfl (by decide) rfl (fun ls hl => ?_)
                refine lv_goto (tgt := 9) hx hb dL_best_150 (by decide) ?_
                have e_21 : optI (t_bsf T j z (k + 1)) = nI (4 * j + k) := by first | (exfalso; omega) | (rw [t_bsf, if_pos (Or.inl (by assumption))]; done) | (rw [t_bsf, if_pos (Or.inr (by assumption))]; done) | (rw [t_bsf, if_neg (fun z9 => z9.elim (fun y9 => absurd y9 (by assumption)) (fun y9 => absurd (y9.symm.trans (show t_tk T (4 * j + k) = true by assumption)) (by decide))), (by assumption : t_bsf T j z k = none)]; rfl) | (rw [t_bsf, if_neg (fun z9 => z9.elim (fun y9 => absurd y9 (by assumption)) (fun y9 => absurd (y9.symm.trans (show t_tk T (4 * j + k) = true by assumption)) (by decide))), hf9]; show optI (if t_bt T (4 * j + k) f9 then some (4 * j + k) else some f9) = _; rw [if_pos (by unfold t_bt; omega)]; rfl) | (rw [t_bsf, if_neg (fun z9 => z9.elim (fun y9 => absurd y9 (by assumption)) (fun y9 => absurd (y9.symm.trans (show t_tk T (4 * j + k) = true by assumption)) (by decide))), hf9]; show optI (if t_bt T (4 * j + k) f9 then some (4 * j + k) else some f9) = _; rw [if_neg (by unfold t_bt; omega)]; rfl)
                have e_22 : 4 * j + (k + 1) = 4 * j + k + 1 := by omega
                refine ih_3 (by omega) ls ?_
                show lv_has ls 11 [(0, .ref (ad 1)), (1, .ref (ad 3)), (2, .ref (ad 4)), (3, .ref (ad 5)), (4, .ref (ad 6)), (5, .ref (ad 11)), (6, .int (nI j)), (7, .int (nI z)), (8, .int (optI (t_bsf T j z (k + 1)))), (9, .int (nI (4 * j + (k + 1))))]
                rw [e_21, e_22]
                exact lv_sub hl [3, 4, 5, 6, 7, 8, 9, 10, 1, 0] rfl
            · rw [d_eq0 (by omega) (by omega)] at c_17
              refine lv_aload_n hx hb dL_best_117 rfl (lv_at hl 3 rfl) ?_
              refine lv_iload hx hb dL_best_118 (lv_at hl 9 rfl) ?_
              refine a_iald (f := 4) (n := 16) hx hb hK hP rfl (by have f1 := hfo.1; have f2 := hfo.2.1; omega) (by decide) dL_best_120 ?_
              refine lv_aload_n hx hb dL_best_121 rfl (lv_at hl 3 rfl) ?_
              refine lv_iload hx hb dL_best_122 (lv_at hl 10 rfl) ?_
              refine a_iald (f := 4) (n := 16) hx hb hK hP rfl (by omega) (by decide) dL_best_124 ?_
              refine lv_isub hx hb dL_best_125 ?_
              refine lv_goto (tgt := 131) hx hb dL_best_126 (by decide) ?_
              refine lv_istore (lv' := [(10, .int ((nI (T 4 f9)) - (nI (T 4 (4 * j + k))))), (0, .ref (ad 1)), (1, .ref (ad 3)), (2, .ref (ad 4)), (3, .ref (ad 5)), (4, .ref (ad 6)), (5, .ref (ad 11)), (6, .int (nI j)), (7, .int (nI z)), (8, .int (nI f9)), (9, .int (nI (4 * j + k)))]) hx hb dL_best_131 hl (by decide) rfl (fun ls hl => ?_)
              refine lv_iload hx hb dL_best_133 (lv_at hl 0 rfl) ?_
              refine lv_if_le (tgt := 143) hx hb dL_best_135 (by decide)  (fun c_23 => ?_) (fun c_23 => ?_)
              · rw [d_le0 (by omega) (by omega)] at c_23
                refine lv_iload hx hb dL_best_143 (lv_at hl 9 rfl) ?_
                refine lv_istore (lv' := [(8, .int (nI f9)), (10, .int ((nI (T 4 f9)) - (nI (T 4 (4 * j + k))))), (0, .ref (ad 1)), (1, .ref (ad 3)), (2, .ref (ad 4)), (3, .ref (ad 5)), (4, .ref (ad 6)), (5, .ref (ad 11)), (6, .int (nI j)), (7, .int (nI z)), (9, .int (nI (4 * j + k)))]) hx hb dL_best_145 hl (by decide) rfl (fun ls hl => ?_)
                refine n_iinc (k := 10) (lv' := [(9, .int (nI (4 * j + k + 1))), (8, .int (nI f9)), (10, .int ((nI (T 4 f9)) - (nI (T 4 (4 * j + k))))), (0, .ref (ad 1)), (1, .ref (ad 3)), (2, .ref (ad 4)), (3, .ref (ad 5)), (4, .ref (ad 6)), (5, .ref (ad 11)), (6, .int (nI j)), (7, .int (nI z))]) hx hb dL_best_147 hl rfl (by decide) rfl (fun ls hl => ?_)
                refine lv_goto (tgt := 9) hx hb dL_best_150 (by decide) ?_
                have e_24 : optI (t_bsf T j z (k + 1)) = nI f9 := by first | (exfalso; omega) | (rw [t_bsf, if_pos (Or.inl (by assumption))]; done) | (rw [t_bsf, if_pos (Or.inr (by assumption))]; done) | (rw [t_bsf, if_neg (fun z9 => z9.elim (fun y9 => absurd y9 (by assumption)) (fun y9 => absurd (y9.symm.trans (show t_tk T (4 * j + k) = true by assumption)) (by decide))), (by assumption : t_bsf T j z k = none)]; rfl) | (rw [t_bsf, if_neg (fun z9 => z9.elim (fun y9 => absurd y9 (by assumption)) (fun y9 => absurd (y9.symm.trans (show t_tk T (4 * j + k) = true by assumption)) (by decide))), hf9]; show optI (if t_bt T (4 * j + k) f9 then some (4 * j + k) else some f9) = _; rw [if_pos (by unfold t_bt; omega)]; rfl) | (rw [t_bsf, if_neg (fun z9 => z9.elim (fun y9 => absurd y9 (by assumption)) (fun y9 => absurd (y9.symm.trans (show t_tk T (4 * j + k) = true by assumption)) (by decide))), hf9]; show optI (if t_bt T (4 * j + k) f9 then some (4 * j + k) else some f9) = _; rw [if_neg (by unfold t_bt; omega)]; rfl)
                have e_25 : 4 * j + (k + 1) = 4 * j + k + 1 := by omega
                refine ih_3 (by omega) ls ?_
                show lv_has ls 11 [(0, .ref (ad 1)), (1, .ref (ad 3)), (2, .ref (ad 4)), (3, .ref (ad 5)), (4, .ref (ad 6)), (5, .ref (ad 11)), (6, .int (nI j)), (7, .int (nI z)), (8, .int (optI (t_bsf T j z (k + 1)))), (9, .int (nI (4 * j + (k + 1))))]
                rw [e_24, e_25]
                exact lv_sub hl [3, 4, 5, 6, 7, 8, 9, 10, 1, 0] rfl
              · rw [d_le0 (by omega) (by omega)] at c_23
                refine lv_iload hx hb dL_best_138 (lv_at hl 10 rfl) ?_
                refine lv_goto (tgt := 145) hx hb dL_best_140 (by decide) ?_
                refine lv_istore (lv' := [(8, .int (nI (4 * j + k))), (10, .int ((nI (T 4 f9)) - (nI (T 4 (4 * j + k))))), (0, .ref (ad 1)), (1, .ref (ad 3)), (2, .ref (ad 4)), (3, .ref (ad 5)), (4, .ref (ad 6)), (5, .ref (ad 11)), (6, .int (nI j)), (7, .int (nI z)), (9, .int (nI (4 * j + k)))]) hx hb dL_best_145 hl (by decide) rfl (fun ls hl => ?_)
                refine n_iinc (k := 10) (lv' := [(9, .int (nI (4 * j + k + 1))), (8, .int (nI (4 * j + k))), (10, .int ((nI (T 4 f9)) - (nI (T 4 (4 * j + k))))), (0, .ref (ad 1)), (1, .ref (ad 3)), (2, .ref (ad 4)), (3, .ref (ad 5)), (4, .ref (ad 6)), (5, .ref (ad 11)), (6, .int (nI j)), (7, .int (nI z))]) hx hb dL_best_147 hl rfl (by decide) rfl (fun ls hl => ?_)
                refine lv_goto (tgt := 9) hx hb dL_best_150 (by decide) ?_
                have e_26 : optI (t_bsf T j z (k + 1)) = nI (4 * j + k) := by first | (exfalso; omega) | (rw [t_bsf, if_pos (Or.inl (by assumption))]; done) | (rw [t_bsf, if_pos (Or.inr (by assumption))]; done) | (rw [t_bsf, if_neg (fun z9 => z9.elim (fun y9 => absurd y9 (by assumption)) (fun y9 => absurd (y9.symm.trans (show t_tk T (4 * j + k) = true by assumption)) (by decide))), (by assumption : t_bsf T j z k = none)]; rfl) | (rw [t_bsf, if_neg (fun z9 => z9.elim (fun y9 => absurd y9 (by assumption)) (fun y9 => absurd (y9.symm.trans (show t_tk T (4 * j + k) = true by assumption)) (by decide))), hf9]; show optI (if t_bt T (4 * j + k) f9 then some (4 * j + k) else some f9) = _; rw [if_pos (by unfold t_bt; omega)]; rfl) | (rw [t_bsf, if_neg (fun z9 => z9.elim (fun y9 => absurd y9 (by assumption)) (fun y9 => absurd (y9.symm.trans (show t_tk T (4 * j + k) = true by assumption)) (by decide))), hf9]; show optI (if t_bt T (4 * j + k) f9 then some (4 * j + k) else some f9) = _; rw [if_neg (by unfold t_bt; omega)]; rfl)
                have e_27 : 4 * j + (k + 1) = 4 * j + k + 1 := by omega
                refine ih_3 (by omega) ls ?_
                show lv_has ls 11 [(0, .ref (ad 1)), (1, .ref (ad 3)), (2, .ref (ad 4)), (3, .ref (ad 5)), (4, .ref (ad 6)), (5, .ref (ad 11)), (6, .int (nI j)), (7, .int (nI z)), (8, .int (optI (t_bsf T j z (k + 1)))), (9, .int (nI (4 * j + (k + 1))))]
                rw [e_26, e_27]
                exact lv_sub hl [3, 4, 5, 6, 7, 8, 9, 10, 1, 0] rfl
          · rw [d_eq0 (by omega) (by omega)] at c_16
            refine lv_aload_n hx hb dL_best_92 rfl (lv_at hl 2 rfl) ?_
            refine lv_iload hx hb dL_best_93 (lv_at hl 9 rfl) ?_
            refine vp_callSi (W.runS (As := [.ref (ad 3), .int (nI f9)]) (rest := []) ⟨hx, hb, hml, hown, hts⟩ (ch_price l D ad cI T hT f9 (by omega)) (va_cwS 2 hts gL_best_L_price rfl rfl rfl kd_L_price ⟨Nat.le_of_ble_eq_true rfl, Nat.le_of_ble_eq_true rfl⟩) ⟨aB_blind, a_pre hK hP _⟩ rfl rfl hl.1 rfl (lv_room (Nat.le_of_ble_eq_true rfl)) dL_best_95 ⟨Nat.le_of_ble_eq_true rfl, Nat.le_of_ble_eq_true rfl⟩) (fun r_28 hr_28 => ?_)
            subst hr_28
            refine lv_aload_n hx hb dL_best_98 rfl (lv_at hl 2 rfl) ?_
            refine lv_iload hx hb dL_best_99 (lv_at hl 10 rfl) ?_
            refine vp_callSi (W.runS (As := [.ref (ad 3), .int (nI (4 * j + k))]) (rest := [.int (nI (t_pr T f9))]) ⟨hx, hb, hml, hown, hts⟩ (ch_price l D ad cI T hT (4 * j + k) (by omega)) (va_cwS 2 hts gL_best_L_price rfl rfl rfl kd_L_price ⟨Nat.le_of_ble_eq_true rfl, Nat.le_of_ble_eq_true rfl⟩) ⟨aB_blind, a_pre hK hP _⟩ rfl rfl hl.1 rfl (lv_room (Nat.le_of_ble_eq_true rfl)) dL_best_101 ⟨Nat.le_of_ble_eq_true rfl, Nat.le_of_ble_eq_true rfl⟩) (fun r_29 hr_29 => ?_)
            subst hr_29
            refine lv_isub hx hb dL_best_104 ?_
            refine lv_goto (tgt := 110) hx hb dL_best_105 (by decide) ?_
            refine lv_istore (lv' := [(10, .int ((nI (t_pr T f9)) - (nI (t_pr T (4 * j + k))))), (0, .ref (ad 1)), (1, .ref (ad 3)), (2, .ref (ad 4)), (3, .ref (ad 5)), (4, .ref (ad 6)), (5, .ref (ad 11)), (6, .int (nI j)), (7, .int (nI z)), (8, .int (nI f9)), (9, .int (nI (4 * j + k)))]) hx hb dL_best_110 hl (by decide) rfl (fun ls hl => ?_)
            refine lv_iload hx hb dL_best_112 (lv_at hl 0 rfl) ?_
            refine lv_if_ne (tgt := 129) hx hb dL_best_114 (by decide)  (fun c_30 => ?_) (fun c_30 => ?_)
            · rw [d_eq0 (by omega) (by omega)] at c_30
              refine lv_iload hx hb dL_best_129 (lv_at hl 0 rfl) ?_
              refine lv_istore (lv' := [(10, .int ((nI (t_pr T f9)) - (nI (t_pr T (4 * j + k))))), (0, .ref (ad 1)), (1, .ref (ad 3)), (2, .ref (ad 4)), (3, .ref (ad 5)), (4, .ref (ad 6)), (5, .ref (ad 11)), (6, .int (nI j)), (7, .int (nI z)), (8, .int (nI f9)), (9, .int (nI (4 * j + k)))]) hx hb dL_best_131 hl (by decide) rfl (fun ls hl => ?_)
              refine lv_iload hx hb dL_best_133 (lv_at hl 0 rfl) ?_
              refine lv_if_le (tgt := 143) hx hb dL_best_135 (by decide)  (fun c_31 => ?_) (fun c_31 => ?_)
              · rw [d_le0 (by omega) (by omega)] at c_31
                refine lv_iload hx hb dL_best_143 (lv_at hl 9 rfl) ?_
                refine lv_istore (lv' := [(8, .int (nI f9)), (10, .int ((nI (t_pr T f9)) - (nI (t_pr T (4 * j + k))))), (0, .ref (ad 1)), (1, .ref (ad 3)), (2, .ref (ad 4)), (3, .ref (ad 5)), (4, .ref (ad 6)), (5, .ref (ad 11)), (6, .int (nI j)), (7, .int (nI z)), (9, .int (nI (4 * j + k)))]) hx hb dL_best_145 hl (by decide) rfl (fun ls hl => ?_)
                refine n_iinc (k := 10) (lv' := [(9, .int (nI (4 * j + k + 1))), (8, .int (nI f9)), (10, .int ((nI (t_pr T f9)) - (nI (t_pr T (4 * j + k))))), (0, .ref (ad 1)), (1, .ref (ad 3)), (2, .ref (ad 4)), (3, .ref (ad 5)), (4, .ref (ad 6)), (5, .ref (ad 11)), (6, .int (nI j)), (7, .int (nI z))]) hx hb dL_best_147 hl rfl (by decide) rfl (fun ls hl => ?_)
                refine lv_goto (tgt := 9) hx hb dL_best_150 (by decide) ?_
                have e_32 : optI (t_bsf T j z (k + 1)) = nI f9 := by first | (exfalso; omega) | (rw [t_bsf, if_pos (Or.inl (by assumption))]; done) | (rw [t_bsf, if_pos (Or.inr (by assumption))]; done) | (rw [t_bsf, if_neg (fun z9 => z9.elim (fun y9 => absurd y9 (by assumption)) (fun y9 => absurd (y9.symm.trans (show t_tk T (4 * j + k) = true by assumption)) (by decide))), (by assumption : t_bsf T j z k = none)]; rfl) | (rw [t_bsf, if_neg (fun z9 => z9.elim (fun y9 => absurd y9 (by assumption)) (fun y9 => absurd (y9.symm.trans (show t_tk T (4 * j + k) = true by assumption)) (by decide))), hf9]; show optI (if t_bt T (4 * j + k) f9 then some (4 * j + k) else some f9) = _; rw [if_pos (by unfold t_bt; omega)]; rfl) | (rw [t_bsf, if_neg (fun z9 => z9.elim (fun y9 => absurd y9 (by assumption)) (fun y9 => absurd (y9.symm.trans (show t_tk T (4 * j + k) = true by assumption)) (by decide))), hf9]; show optI (if t_bt T (4 * j + k) f9 then some (4 * j + k) else some f9) = _; rw [if_neg (by unfold t_bt; omega)]; rfl)
                have e_33 : 4 * j + (k + 1) = 4 * j + k + 1 := by omega
                refine ih_3 (by omega) ls ?_
                show lv_has ls 11 [(0, .ref (ad 1)), (1, .ref (ad 3)), (2, .ref (ad 4)), (3, .ref (ad 5)), (4, .ref (ad 6)), (5, .ref (ad 11)), (6, .int (nI j)), (7, .int (nI z)), (8, .int (optI (t_bsf T j z (k + 1)))), (9, .int (nI (4 * j + (k + 1))))]
                rw [e_32, e_33]
                exact lv_sub hl [3, 4, 5, 6, 7, 8, 9, 10, 1, 0] rfl
              · rw [d_le0 (by omega) (by omega)] at c_31
                refine lv_iload hx hb dL_best_138 (lv_at hl 10 rfl) ?_
                refine lv_goto (tgt := 145) hx hb dL_best_140 (by decide) ?_
                refine lv_istore (lv' := [(8, .int (nI (4 * j + k))), (10, .int ((nI (t_pr T f9)) - (nI (t_pr T (4 * j + k))))), (0, .ref (ad 1)), (1, .ref (ad 3)), (2, .ref (ad 4)), (3, .ref (ad 5)), (4, .ref (ad 6)), (5, .ref (ad 11)), (6, .int (nI j)), (7, .int (nI z)), (9, .int (nI (4 * j + k)))]) hx hb dL_best_145 hl (by decide) rfl (fun ls hl => ?_)
                refine n_iinc (k := 10) (lv' := [(9, .int (nI (4 * j + k + 1))), (8, .int (nI (4 * j + k))), (10, .int ((nI (t_pr T f9)) - (nI (t_pr T (4 * j + k))))), (0, .ref (ad 1)), (1, .ref (ad 3)), (2, .ref (ad 4)), (3, .ref (ad 5)), (4, .ref (ad 6)), (5, .ref (ad 11)), (6, .int (nI j)), (7, .int (nI z))]) hx hb dL_best_147 hl rfl (by decide) rfl (fun ls hl => ?_)
                refine lv_goto (tgt := 9) hx hb dL_best_150 (by decide) ?_
                have e_34 : optI (t_bsf T j z (k + 1)) = nI (4 * j + k) := by first | (exfalso; omega) | (rw [t_bsf, if_pos (Or.inl (by assumption))]; done) | (rw [t_bsf, if_pos (Or.inr (by assumption))]; done) | (rw [t_bsf, if_neg (fun z9 => z9.elim (fun y9 => absurd y9 (by assumption)) (fun y9 => absurd (y9.symm.trans (show t_tk T (4 * j + k) = true by assumption)) (by decide))), (by assumption : t_bsf T j z k = none)]; rfl) | (rw [t_bsf, if_neg (fun z9 => z9.elim (fun y9 => absurd y9 (by assumption)) (fun y9 => absurd (y9.symm.trans (show t_tk T (4 * j + k) = true by assumption)) (by decide))), hf9]; show optI (if t_bt T (4 * j + k) f9 then some (4 * j + k) else some f9) = _; rw [if_pos (by unfold t_bt; omega)]; rfl) | (rw [t_bsf, if_neg (fun z9 => z9.elim (fun y9 => absurd y9 (by assumption)) (fun y9 => absurd (y9.symm.trans (show t_tk T (4 * j + k) = true by assumption)) (by decide))), hf9]; show optI (if t_bt T (4 * j + k) f9 then some (4 * j + k) else some f9) = _; rw [if_neg (by unfold t_bt; omega)]; rfl)
                have e_35 : 4 * j + (k + 1) = 4 * j + k + 1 := by omega
                refine ih_3 (by omega) ls ?_
                show lv_has ls 11 [(0, .ref (ad 1)), (1, .ref (ad 3)), (2, .ref (ad 4)), (3, .ref (ad 5)), (4, .ref (ad 6)), (5, .ref (ad 11)), (6, .int (nI j)), (7, .int (nI z)), (8, .int (optI (t_bsf T j z (k + 1)))), (9, .int (nI (4 * j + (k + 1))))]
                rw [e_34, e_35]
                exact lv_sub hl [3, 4, 5, 6, 7, 8, 9, 10, 1, 0] rfl
            · rw [d_eq0 (by omega) (by omega)] at c_30
              refine lv_aload_n hx hb dL_best_117 rfl (lv_at hl 3 rfl) ?_
              refine lv_iload hx hb dL_best_118 (lv_at hl 9 rfl) ?_
              refine a_iald (f := 4) (n := 16) hx hb hK hP rfl (by have f1 := hfo.1; have f2 := hfo.2.1; omega) (by decide) dL_best_120 ?_
              refine lv_aload_n hx hb dL_best_121 rfl (lv_at hl 3 rfl) ?_
              refine lv_iload hx hb dL_best_122 (lv_at hl 10 rfl) ?_
              refine a_iald (f := 4) (n := 16) hx hb hK hP rfl (by omega) (by decide) dL_best_124 ?_
              refine lv_isub hx hb dL_best_125 ?_
              refine lv_goto (tgt := 131) hx hb dL_best_126 (by decide) ?_
              refine lv_istore (lv' := [(10, .int ((nI (T 4 f9)) - (nI (T 4 (4 * j + k))))), (0, .ref (ad 1)), (1, .ref (ad 3)), (2, .ref (ad 4)), (3, .ref (ad 5)), (4, .ref (ad 6)), (5, .ref (ad 11)), (6, .int (nI j)), (7, .int (nI z)), (8, .int (nI f9)), (9, .int (nI (4 * j + k)))]) hx hb dL_best_131 hl (by decide) rfl (fun ls hl => ?_)
              refine lv_iload hx hb dL_best_133 (lv_at hl 0 rfl) ?_
              refine lv_if_le (tgt := 143) hx hb dL_best_135 (by decide)  (fun c_36 => ?_) (fun c_36 => ?_)
              · rw [d_le0 (by omega) (by omega)] at c_36
                refine lv_iload hx hb dL_best_143 (lv_at hl 9 rfl) ?_
                refine lv_istore (lv' := [(8, .int (nI f9)), (10, .int ((nI (T 4 f9)) - (nI (T 4 (4 * j + k))))), (0, .ref (ad 1)), (1, .ref (ad 3)), (2, .ref (ad 4)), (3, .ref (ad 5)), (4, .ref (ad 6)), (5, .ref (ad 11)), (6, .int (nI j)), (7, .int (nI z)), (9, .int (nI (4 * j + k)))]) hx hb dL_best_145 hl (by decide) rfl (fun ls hl => ?_)
                refine n_iinc (k := 10) (lv' := [(9, .int (nI (4 * j + k + 1))), (8, .int (nI f9)), (10, .int ((nI (T 4 f9)) - (nI (T 4 (4 * j + k))))), (0, .ref (ad 1)), (1, .ref (ad 3)), (2, .ref (ad 4)), (3, .ref (ad 5)), (4, .ref (ad 6)), (5, .ref (ad 11)), (6, .int (nI j)), (7, .int (nI z))]) hx hb dL_best_147 hl rfl (by decide) rfl (fun ls hl => ?_)
                refine lv_goto (tgt := 9) hx hb dL_best_150 (by decide) ?_
                have e_37 : optI (t_bsf T j z (k + 1)) = nI f9 := by first | (exfalso; omega) | (rw [t_bsf, if_pos (Or.inl (by assumption))]; done) | (rw [t_bsf, if_pos (Or.inr (by assumption))]; done) | (rw [t_bsf, if_neg (fun z9 => z9.elim (fun y9 => absurd y9 (by assumption)) (fun y9 => absurd (y9.symm.trans (show t_tk T (4 * j + k) = true by assumption)) (by decide))), (by assumption : t_bsf T j z k = none)]; rfl) | (rw [t_bsf, if_neg (fun z9 => z9.elim (fun y9 => absurd y9 (by assumption)) (fun y9 => absurd (y9.symm.trans (show t_tk T (4 * j + k) = true by assumption)) (by decide))), hf9]; show optI (if t_bt T (4 * j + k) f9 then some (4 * j + k) else some f9) = _; rw [if_pos (by unfold t_bt; omega)]; rfl) | (rw [t_bsf, if_neg (fun z9 => z9.elim (fun y9 => absurd y9 (by assumption)) (fun y9 => absurd (y9.symm.trans (show t_tk T (4 * j + k) = true by assumption)) (by decide))), hf9]; show optI (if t_bt T (4 * j + k) f9 then some (4 * j + k) else some f9) = _; rw [if_neg (by unfold t_bt; omega)]; rfl)
                have e_38 : 4 * j + (k + 1) = 4 * j + k + 1 := by omega
                refine ih_3 (by omega) ls ?_
                show lv_has ls 11 [(0, .ref (ad 1)), (1, .ref (ad 3)), (2, .ref (ad 4)), (3, .ref (ad 5)), (4, .ref (ad 6)), (5, .ref (ad 11)), (6, .int (nI j)), (7, .int (nI z)), (8, .int (optI (t_bsf T j z (k + 1)))), (9, .int (nI (4 * j + (k + 1))))]
                rw [e_37, e_38]
                exact lv_sub hl [3, 4, 5, 6, 7, 8, 9, 10, 1, 0] rfl
              · rw [d_le0 (by omega) (by omega)] at c_36
                refine lv_iload hx hb dL_best_138 (lv_at hl 10 rfl) ?_
                refine lv_goto (tgt := 145) hx hb dL_best_140 (by decide) ?_
                refine lv_istore (lv' := [(8, .int (nI (4 * j + k))), (10, .int ((nI (T 4 f9)) - (nI (T 4 (4 * j + k))))), (0, .ref (ad 1)), (1, .ref (ad 3)), (2, .ref (ad 4)), (3, .ref (ad 5)), (4, .ref (ad 6)), (5, .ref (ad 11)), (6, .int (nI j)), (7, .int (nI z)), (9, .int (nI (4 * j + k)))]) hx hb dL_best_145 hl (by decide) rfl (fun ls hl => ?_)
                refine n_iinc (k := 10) (lv' := [(9, .int (nI (4 * j + k + 1))), (8, .int (nI (4 * j + k))), (10, .int ((nI (T 4 f9)) - (nI (T 4 (4 * j + k))))), (0, .ref (ad 1)), (1, .ref (ad 3)), (2, .ref (ad 4)), (3, .ref (ad 5)), (4, .ref (ad 6)), (5, .ref (ad 11)), (6, .int (nI j)), (7, .int (nI z))]) hx hb dL_best_147 hl rfl (by decide) rfl (fun ls hl => ?_)
                refine lv_goto (tgt := 9) hx hb dL_best_150 (by decide) ?_
                have e_39 : optI (t_bsf T j z (k + 1)) = nI (4 * j + k) := by first | (exfalso; omega) | (rw [t_bsf, if_pos (Or.inl (by assumption))]; done) | (rw [t_bsf, if_pos (Or.inr (by assumption))]; done) | (rw [t_bsf, if_neg (fun z9 => z9.elim (fun y9 => absurd y9 (by assumption)) (fun y9 => absurd (y9.symm.trans (show t_tk T (4 * j + k) = true by assumption)) (by decide))), (by assumption : t_bsf T j z k = none)]; rfl) | (rw [t_bsf, if_neg (fun z9 => z9.elim (fun y9 => absurd y9 (by assumption)) (fun y9 => absurd (y9.symm.trans (show t_tk T (4 * j + k) = true by assumption)) (by decide))), hf9]; show optI (if t_bt T (4 * j + k) f9 then some (4 * j + k) else some f9) = _; rw [if_pos (by unfold t_bt; omega)]; rfl) | (rw [t_bsf, if_neg (fun z9 => z9.elim (fun y9 => absurd y9 (by assumption)) (fun y9 => absurd (y9.symm.trans (show t_tk T (4 * j + k) = true by assumption)) (by decide))), hf9]; show optI (if t_bt T (4 * j + k) f9 then some (4 * j + k) else some f9) = _; rw [if_neg (by unfold t_bt; omega)]; rfl)
                have e_40 : 4 * j + (k + 1) = 4 * j + k + 1 := by omega
                refine ih_3 (by omega) ls ?_
                show lv_has ls 11 [(0, .ref (ad 1)), (1, .ref (ad 3)), (2, .ref (ad 4)), (3, .ref (ad 5)), (4, .ref (ad 6)), (5, .ref (ad 11)), (6, .int (nI j)), (7, .int (nI z)), (8, .int (optI (t_bsf T j z (k + 1)))), (9, .int (nI (4 * j + (k + 1))))]
                rw [e_39, e_40]
                exact lv_sub hl [3, 4, 5, 6, 7, 8, 9, 10, 1, 0] rfl
      · refine lv_goto (tgt := 147) hx hb dL_best_48 (by decide) ?_
        refine n_iinc (k := 9) (lv' := [(9, .int (nI (4 * j + k + 1))), (0, .ref (ad 1)), (1, .ref (ad 3)), (2, .ref (ad 4)), (3, .ref (ad 5)), (4, .ref (ad 6)), (5, .ref (ad 11)), (6, .int (nI j)), (7, .int (nI z)), (8, .int (optI (t_bsf T j z k)))]) hx hb dL_best_147 hl rfl (by decide) rfl (fun ls hl => ?_)
        refine lv_goto (tgt := 9) hx hb dL_best_150 (by decide) ?_
        have e_41 : optI (t_bsf T j z (k + 1)) = optI (t_bsf T j z k) := by first | (exfalso; omega) | (rw [t_bsf, if_pos (Or.inl (by assumption))]; done) | (rw [t_bsf, if_pos (Or.inr (by assumption))]; done) | (rw [t_bsf, if_neg (fun z9 => z9.elim (fun y9 => absurd y9 (by assumption)) (fun y9 => absurd (y9.symm.trans (show t_tk T (4 * j + k) = true by assumption)) (by decide))), (by assumption : t_bsf T j z k = none)]; rfl) | (rw [t_bsf, if_neg (fun z9 => z9.elim (fun y9 => absurd y9 (by assumption)) (fun y9 => absurd (y9.symm.trans (show t_tk T (4 * j + k) = true by assumption)) (by decide))), hf9]; show optI (if t_bt T (4 * j + k) f9 then some (4 * j + k) else some f9) = _; rw [if_pos (by unfold t_bt; omega)]; rfl) | (rw [t_bsf, if_neg (fun z9 => z9.elim (fun y9 => absurd y9 (by assumption)) (fun y9 => absurd (y9.symm.trans (show t_tk T (4 * j + k) = true by assumption)) (by decide))), hf9]; show optI (if t_bt T (4 * j + k) f9 then some (4 * j + k) else some f9) = _; rw [if_neg (by unfold t_bt; omega)]; rfl)
        have e_42 : 4 * j + (k + 1) = 4 * j + k + 1 := by omega
        refine ih_3 (by omega) ls ?_
        show lv_has ls 11 [(0, .ref (ad 1)), (1, .ref (ad 3)), (2, .ref (ad 4)), (3, .ref (ad 5)), (4, .ref (ad 6)), (5, .ref (ad 11)), (6, .int (nI j)), (7, .int (nI z)), (8, .int (optI (t_bsf T j z (k + 1)))), (9, .int (nI (4 * j + (k + 1))))]
        rw [e_41, e_42]
        exact lv_sub hl [1, 2, 3, 4, 5, 6, 7, 8, 9, 0] rfl
