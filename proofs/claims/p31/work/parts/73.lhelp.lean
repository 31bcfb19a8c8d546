/-! the law's helpers over its arrays -/
theorem t_oof_le {T : MS} (a : Nat) : ∀ n, t_oof T a n ≤ n
  | 0 => Nat.le_refl _
  | n + 1 => by
    have i := t_oof_le (T := T) a n
    rw [t_oof]
    split <;> omega
theorem t_su_le {T : MS} (h : LT T) (a : Nat) : t_su T a ≤ 4200 := by
  have h1 : T 1 (T 7 a % 4 / 2) ≤ 268435455 := h.1 1 _
  unfold t_su
  omega
theorem t_stf_up {T : MS} {j a : Nat} : ∀ d n, t_stf T j n = some a → t_stf T j (n + d) = some a
  | 0, _, h => h
  | d + 1, n, h => by
    show t_stf T j ((n + d) + 1) = some a
    rw [t_stf, t_stf_up d n h]
theorem t_st_at {T : MS} {j k : Nat} (hk : k < T 11 4) (h : t_stf T j k = none) (h1 : T 7 k % 4 = j) (h2 : t_gn T k = false) : t_st T j = some k := by
  have e : t_stf T j (k + 1) = some k := by
    rw [t_stf, h]
    exact if_pos ⟨h1, h2⟩
  unfold t_st
  have := t_stf_up (T := T) (j := j) (a := k) (T 11 4 - (k + 1)) (k + 1) e
  rw [show k + 1 + (T 11 4 - (k + 1)) = T 11 4 by omega] at this
  exact this
theorem t_z4 {j k : Nat} (hk : k < 4) : (4 * j + k) % 4 = k := by omega
set_option maxRecDepth 100000 in
theorem ch_low (l : Launch) (v : Int32) (n : Nat) (h0 : 0 < n) (h1 : n < 2 ^ 31) : Met l yL_low wsL_low ({ frames := 0, cells := 0, slots := 0, locals := 0 }) (va_Pc [.int v, .int (nI n)] (fun _ => True)) (vp_Si (fun r => r = nI (lowN v n))) 0 0 (fun _ => False) := by
  refine Met.ofW (cc := cL_low) (maxL := 2) (ret := (some .int)) (by decide) rfl ?_
  intro p e s m args below meth c s₁ B hml hv
  obtain ⟨rfl, -⟩ := hv
  have hx := B.exec
  have hb := B.bytes
  have hr := B.returns
  have hl := lv_entry ([.int v, .int (nI n)]) (n := 2) (Nat.le_of_ble_eq_true rfl)
  rw [lg_entry_eq]
  generalize (lg_sl ([.int v, .int (nI n)]) ++ List.replicate (2 - (lg_sl ([.int v, .int (nI n)])).length) Slot.unset).toArray = ls at hl ⊢
  have hl : lv_has ls 2 [(0, .int v), (1, .int (nI n))] := hl
  refine lv_iload_n hx hb dL_low_0 rfl (lv_at hl 0 rfl) ?_
  refine lv_iconst (v := nI 1) hx hb dL_low_1 (by decide) ?_
  refine lv_iushr (v := nI (v.toBitVec.toNat / 2)) hx hb dL_low_2 (n_ushr1 v) ?_
  refine lv_iload_n hx hb dL_low_3 rfl (lv_at hl 1 rfl) ?_
  have hv2 : v.toBitVec.toNat < 2 ^ 32 := v.toBitVec.isLt
  refine n_irem hx hb dL_low_4 (z := lowN v n) (by omega) h0 h1 rfl ?_
  exact W.iret (v := nI (lowN v n)) hx hb hr (fun U9 ht hW => ⟨_, rfl, rfl, ht⟩) (fun _ h => by cases h) dL_low_5
set_option maxHeartbeats 4000000 in
set_option maxRecDepth 100000 in
theorem ch_isOpened (l : Launch) (D : va_G) (ad : Nat → Nat) (cI : ClassId) (T : MS) (hT : LT T) (t : Nat) (ht : t < 2) : Met l yL_isOpened wsL_isOpened ({ frames := 0, cells := 0, slots := 0, locals := 0 }) (va_Pc [.ref (ad 1), .ref (ad 11), .int (nI t)] (aB D ad cI T)) (vp_Si (fun r => r = bi (t_op T t))) 0 0 (fun _ => False) := by
  refine Met.ofW (cc := cL_isOpened) (maxL := 3) (ret := (some .boolean)) (by decide) rfl ?_
  intro p e s m args below meth c s₁ B hml hv
  obtain ⟨rfl, hP, hK⟩ := hv
  have hx := B.exec
  have hb := B.bytes
  have hr := B.returns
  have hts := atoms_spec (ws := wsL_isOpened) B.pre
  have hown : s.vm.findClass RL = some m.cls := findClass_of_methodNamed B.named
  have hlocks := B.notSynchronized
  have hl := lv_entry ([.ref (ad 1), .ref (ad 11), .int (nI t)]) (n := 3) (Nat.le_of_ble_eq_true rfl)
  rw [lg_entry_eq]
  generalize (lg_sl ([.ref (ad 1), .ref (ad 11), .int (nI t)]) ++ List.replicate (3 - (lg_sl ([.ref (ad 1), .ref (ad 11), .int (nI t)])).length) Slot.unset).toArray = ls at hl ⊢
  have hl : lv_has ls 3 [(0, .ref (ad 1)), (1, .ref (ad 11)), (2, .int (nI t))] := hl
  refine lv_aload_n hx hb dL_isOpened_0 rfl (lv_at hl 1 rfl) ?_
  refine lv_iconst (v := nI 0) hx hb dL_isOpened_1 (by decide) ?_
  refine a_iald (f := 11) (n := 7) hx hb hK hP rfl (by decide) (by decide) dL_isOpened_2 ?_
  refine lv_aload_n hx hb dL_isOpened_3 rfl (lv_at hl 0 rfl) ?_
  refine lv_iload_n hx hb dL_isOpened_4 rfl (lv_at hl 2 rfl) ?_
  refine a_iald (f := 1) (n := 2) hx hb hK hP rfl (by omega) (by decide) dL_isOpened_5 ?_
  refine lv_sipush (v := nI 1023) hx hb dL_isOpened_6 (by decide) ?_
  refine lv_iand hx hb dL_isOpened_9 ?_
  rw [show (nI (T 1 t)) &&& (nI 1023) = nI ((T 1 t) % 1024) from n_andK (k := 10) (by have f1 : T 1 t ≤ 268435455 := hT.1 1 t; omega) (by decide) (by decide) rfl]
  refine n_icmp_lt (tgt := 17) hx hb dL_isOpened_10 (by decide) (by have f1 : T 11 0 ≤ 2000 := hT.1 11 0; omega) (by have f1 : T 1 t ≤ 268435455 := hT.1 1 t; omega) (fun c_1 => ?_) (fun c_1 => ?_)
  · refine lv_iconst (v := nI 0) hx hb dL_isOpened_17 (by decide) ?_
    exact W.zret (v := nI 0) hx hb hr rfl (fun U9 ht hW => ⟨_, rfl, bi_zero (by (simp only [t_op, decide_eq_true_eq, decide_eq_false_iff_not]; omega)), ht⟩) (fun _ h => by cases h) dL_isOpened_18
  · refine lv_iconst (v := nI 1) hx hb dL_isOpened_13 (by decide) ?_
    refine lv_goto (tgt := 18) hx hb dL_isOpened_14 (by decide) ?_
    exact W.zret (v := nI 1) hx hb hr rfl (fun U9 ht hW => ⟨_, rfl, bi_one (by (simp only [t_op, decide_eq_true_eq, decide_eq_false_iff_not]; omega)), ht⟩) (fun _ h => by cases h) dL_isOpened_18
set_option maxHeartbeats 4000000 in
set_option maxRecDepth 100000 in
theorem ch_takes (l : Launch) (D : va_G) (ad : Nat → Nat) (cI : ClassId) (T : MS) (hT : LT T) (q : Nat) (hq : q < 16) : Met l yL_takes wsL_takes ({ frames := 1, cells := 0, slots := 0, locals := 22 }) (va_Pc [.ref (ad 1), .ref (ad 3), .ref (ad 5), .ref (ad 6), .ref (ad 11), .int (nI q)] (aB D ad cI T)) (vp_Si (fun r => r = bi (t_tk T q))) 0 0 (fun _ => False) := by
  refine Met.ofW (cc := cL_takes) (maxL := 8) (ret := (some .boolean)) (by decide) rfl ?_
  intro p e s m args below meth c s₁ B hml hv
  obtain ⟨rfl, hP, hK⟩ := hv
  have hx := B.exec
  have hb := B.bytes
  have hr := B.returns
  have hts := atoms_spec (ws := wsL_takes) B.pre
  have hown : s.vm.findClass RL = some m.cls := findClass_of_methodNamed B.named
  have hlocks := B.notSynchronized
  have hl := lv_entry ([.ref (ad 1), .ref (ad 3), .ref (ad 5), .ref (ad 6), .ref (ad 11), .int (nI q)]) (n := 8) (Nat.le_of_ble_eq_true rfl)
  rw [lg_entry_eq]
  generalize (lg_sl ([.ref (ad 1), .ref (ad 3), .ref (ad 5), .ref (ad 6), .ref (ad 11), .int (nI q)]) ++ List.replicate (8 - (lg_sl ([.ref (ad 1), .ref (ad 3), .ref (ad 5), .ref (ad 6), .ref (ad 11), .int (nI q)])).length) Slot.unset).toArray = ls at hl ⊢
  have hl : lv_has ls 8 [(0, .ref (ad 1)), (1, .ref (ad 3)), (2, .ref (ad 5)), (3, .ref (ad 6)), (4, .ref (ad 11)), (5, .int (nI q))] := hl
  refine lv_aload_n hx hb dL_takes_0 rfl (lv_at hl 0 rfl) ?_
  refine lv_aload hx hb dL_takes_1 (lv_at hl 4 rfl) ?_
  refine lv_iload hx hb dL_takes_3 (lv_at hl 5 rfl) ?_
  refine lv_bipush (v := nI 8) hx hb dL_takes_5 (by decide) ?_
  refine n_idiv hx hb dL_takes_7 (z := q / 8) (by omega) (by decide) (by decide) rfl ?_
  refine vp_callSi (W.runS (As := [.ref (ad 1), .ref (ad 11), .int (nI (q / 8))]) (rest := []) ⟨hx, hb, hml, hown, hts⟩ (ch_isOpened l D ad cI T hT (q / 8) (by omega)) (va_cwS 3 hts gL_takes_L_isOpened rfl rfl rfl kd_L_isOpened ⟨Nat.le_of_ble_eq_true rfl, Nat.le_of_ble_eq_true rfl⟩) ⟨aB_blind, a_pre hK hP _⟩ rfl rfl hl.1 rfl (lv_room (Nat.le_of_ble_eq_true rfl)) dL_takes_8 ⟨Nat.le_of_ble_eq_true rfl, Nat.le_of_ble_eq_true rfl⟩) (fun r_1 hr_1 => ?_)
  subst hr_1
  refine b_if_eq (tgt := 32) hx hb dL_takes_11 (by decide)  (fun c_2 => ?_) (fun c_2 => ?_)
  · refine lv_iconst (v := nI 0) hx hb dL_takes_32 (by decide) ?_
    refine lv_istore (lv' := [(6, .int (nI 0)), (0, .ref (ad 1)), (1, .ref (ad 3)), (2, .ref (ad 5)), (3, .ref (ad 6)), (4, .ref (ad 11)), (5, .int (nI q))]) hx hb dL_takes_33 hl (by decide) rfl (fun ls hl => ?_)
    refine lv_iconst (v := nI 0) hx hb dL_takes_35 (by decide) ?_
    refine lv_istore (lv' := [(7, .int (nI 0)), (6, .int (nI 0)), (0, .ref (ad 1)), (1, .ref (ad 3)), (2, .ref (ad 5)), (3, .ref (ad 6)), (4, .ref (ad 11)), (5, .int (nI q))]) hx hb dL_takes_36 hl (by decide) rfl (fun ls hl => ?_)
    have eI_3 : t_tkf T q 0 = false := by first | (simp [t_tkf, c_2]; done) | (simp [t_tkf, c_2]; omega)
    refine w_loop (e := T 11 3) (nL := 8) (fun k => [(0, .ref (ad 1)), (1, .ref (ad 3)), (2, .ref (ad 5)), (3, .ref (ad 6)), (4, .ref (ad 11)), (5, .int (nI q)), (6, .int (bi (t_tkf T q k))), (7, .int (nI k))]) (fun k hb_5 ih_4 ls hl => ?_) 0 (by omega) ls (lv_sub hl [2, 3, 4, 5, 6, 7, 1, 0] (by show lv_pick _ _ = [(0, .ref (ad 1)), (1, .ref (ad 3)), (2, .ref (ad 5)), (3, .ref (ad 6)), (4, .ref (ad 11)), (5, .int (nI q)), (6, .int (bi (t_tkf T q 0))), (7, .int (nI 0))]; rw [eI_3]; rfl))
    have h60 := hT.2.2.1
    refine lv_iload hx hb dL_takes_38 (lv_at hl 7 rfl) ?_
    refine lv_aload hx hb dL_takes_40 (lv_at hl 4 rfl) ?_
    refine lv_iconst (v := nI 3) hx hb dL_takes_42 (by decide) ?_
    refine a_iald (f := 11) (n := 7) hx hb hK hP rfl (by decide) (by decide) dL_takes_43 ?_
    refine n_icmp_ge (tgt := 94) hx hb dL_takes_44 (by decide) (by omega) (by have f1 : T 11 3 ≤ 2000 := hT.1 11 3; have f2 : T 11 3 ≤ 60 := hT.2.2.1; omega) (fun c_7 => ?_) (fun c_7 => ?_)
    · obtain rfl : T 11 3 = k := by omega
      refine lv_iload hx hb dL_takes_94 (lv_at hl 6 rfl) ?_
      exact W.zret (v := bi (t_tkf T q (T 11 3))) hx hb hr (bi_nar _) (fun U9 ht hW => ⟨_, rfl, congrArg bi (show t_tkf T q (T 11 3) = t_tk T q from by rfl), ht⟩) (fun _ h => by cases h) dL_takes_96
    · refine lv_aload_n hx hb dL_takes_47 rfl (lv_at hl 3 rfl) ?_
      refine lv_iload hx hb dL_takes_48 (lv_at hl 7 rfl) ?_
      refine a_iald (f := 6) (n := 60) hx hb hK hP rfl (by omega) (by decide) dL_takes_50 ?_
      refine lv_iconst (v := nI 2) hx hb dL_takes_51 (by decide) ?_
      refine lv_ishr hx hb dL_takes_52 ?_
      rw [show (nI (T 6 k)) >>> ((nI 2) &&& 31) = nI ((T 6 k) / 4) from n_shrK (by have f1 : T 6 k ≤ 8191 := hT.1 6 k; omega) (by decide) rfl]
      refine lv_bipush (v := nI 15) hx hb dL_takes_53 (by decide) ?_
      refine lv_iand hx hb dL_takes_55 ?_
      rw [show (nI ((T 6 k) / 4)) &&& (nI 15) = nI (((T 6 k) / 4) % 16) from n_andK (k := 4) (by have f1 : T 6 k ≤ 8191 := hT.1 6 k; omega) (by decide) (by decide) rfl]
      refine lv_iload hx hb dL_takes_56 (lv_at hl 5 rfl) ?_
      refine n_icmp_ne (tgt := 88) hx hb dL_takes_58 (by decide) (by have f1 : T 6 k ≤ 8191 := hT.1 6 k; omega) (by omega) (fun c_8 => ?_) (fun c_8 => ?_)
      · refine n_iinc (k := 7) (lv' := [(7, .int (nI (k + 1))), (0, .ref (ad 1)), (1, .ref (ad 3)), (2, .ref (ad 5)), (3, .ref (ad 6)), (4, .ref (ad 11)), (5, .int (nI q)), (6, .int (bi (t_tkf T q k)))]) hx hb dL_takes_88 hl rfl (by decide) rfl (fun ls hl => ?_)
        refine lv_goto (tgt := 38) hx hb dL_takes_91 (by decide) ?_
        have e_9 : t_tkf T q (k + 1) = t_tkf T q k := by first | (rw [t_tkf, if_pos ⟨by assumption, by assumption⟩]; simp [c_2, c_7, c_8]; done) | (rw [t_tkf, if_neg (fun z => z.2 (by assumption))]) | (rw [t_tkf, if_neg (fun z => absurd z.1 (by assumption))])
        refine ih_4 (by omega) ls ?_
        show lv_has ls 8 [(0, .ref (ad 1)), (1, .ref (ad 3)), (2, .ref (ad 5)), (3, .ref (ad 6)), (4, .ref (ad 11)), (5, .int (nI q)), (6, .int (bi (t_tkf T q (k + 1)))), (7, .int (nI (k + 1)))]
        rw [e_9]
        exact lv_sub hl [1, 2, 3, 4, 5, 6, 7, 0] rfl
      · refine lv_aload_n hx hb dL_takes_61 rfl (lv_at hl 3 rfl) ?_
        refine lv_iload hx hb dL_takes_62 (lv_at hl 7 rfl) ?_
        refine a_iald (f := 6) (n := 60) hx hb hK hP rfl (by omega) (by decide) dL_takes_64 ?_
        refine lv_iconst (v := nI 3) hx hb dL_takes_65 (by decide) ?_
        refine lv_iand hx hb dL_takes_66 ?_
        rw [show (nI (T 6 k)) &&& (nI 3) = nI ((T 6 k) % 4) from n_andK (k := 2) (by have f1 : T 6 k ≤ 8191 := hT.1 6 k; omega) (by decide) (by decide) rfl]
        refine lv_iconst (v := nI 1) hx hb dL_takes_67 (by decide) ?_
        refine n_icmp_eq (tgt := 88) hx hb dL_takes_68 (by decide) (by have f1 : T 6 k ≤ 8191 := hT.1 6 k; omega) (by decide) (fun c_10 => ?_) (fun c_10 => ?_)
        · refine n_iinc (k := 7) (lv' := [(7, .int (nI (k + 1))), (0, .ref (ad 1)), (1, .ref (ad 3)), (2, .ref (ad 5)), (3, .ref (ad 6)), (4, .ref (ad 11)), (5, .int (nI q)), (6, .int (bi (t_tkf T q k)))]) hx hb dL_takes_88 hl rfl (by decide) rfl (fun ls hl => ?_)
          refine lv_goto (tgt := 38) hx hb dL_takes_91 (by decide) ?_
          have e_11 : t_tkf T q (k + 1) = t_tkf T q k := by first | (rw [t_tkf, if_pos ⟨by assumption, by assumption⟩]; simp [c_2, c_7, c_8, c_10]; done) | (rw [t_tkf, if_neg (fun z => z.2 (by assumption))]) | (rw [t_tkf, if_neg (fun z => absurd z.1 (by assumption))])
          refine ih_4 (by omega) ls ?_
          show lv_has ls 8 [(0, .ref (ad 1)), (1, .ref (ad 3)), (2, .ref (ad 5)), (3, .ref (ad 6)), (4, .ref (ad 11)), (5, .int (nI q)), (6, .int (bi (t_tkf T q (k + 1)))), (7, .int (nI (k + 1)))]
          rw [e_11]
          exact lv_sub hl [1, 2, 3, 4, 5, 6, 7, 0] rfl
        · refine lv_aload_n hx hb dL_takes_71 rfl (lv_at hl 3 rfl) ?_
          refine lv_iload hx hb dL_takes_72 (lv_at hl 7 rfl) ?_
          refine a_iald (f := 6) (n := 60) hx hb hK hP rfl (by omega) (by decide) dL_takes_74 ?_
          refine lv_iconst (v := nI 3) hx hb dL_takes_75 (by decide) ?_
          refine lv_iand hx hb dL_takes_76 ?_
          rw [show (nI (T 6 k)) &&& (nI 3) = nI ((T 6 k) % 4) from n_andK (k := 2) (by have f1 : T 6 k ≤ 8191 := hT.1 6 k; omega) (by decide) (by decide) rfl]
          refine lv_iconst (v := nI 2) hx hb dL_takes_77 (by decide) ?_
          refine n_icmp_ne (tgt := 85) hx hb dL_takes_78 (by decide) (by have f1 : T 6 k ≤ 8191 := hT.1 6 k; omega) (by decide) (fun c_12 => ?_) (fun c_12 => ?_)
          · refine lv_iconst (v := nI 0) hx hb dL_takes_85 (by decide) ?_
            refine lv_istore (lv' := [(6, .int (nI 0)), (0, .ref (ad 1)), (1, .ref (ad 3)), (2, .ref (ad 5)), (3, .ref (ad 6)), (4, .ref (ad 11)), (5, .int (nI q)), (7, .int (nI k))]) hx hb dL_takes_86 hl (by decide) rfl (fun ls hl => ?_)
            refine n_iinc (k := 7) (lv' := [(7, .int (nI (k + 1))), (6, .int (nI 0)), (0, .ref (ad 1)), (1, .ref (ad 3)), (2, .ref (ad 5)), (3, .ref (ad 6)), (4, .ref (ad 11)), (5, .int (nI q))]) hx hb dL_takes_88 hl rfl (by decide) rfl (fun ls hl => ?_)
            refine lv_goto (tgt := 38) hx hb dL_takes_91 (by decide) ?_
            have e_13 : t_tkf T q (k + 1) = false := by first | (rw [t_tkf, if_pos ⟨by assumption, by assumption⟩]; simp [c_2, c_7, c_8, c_10, c_12]; done) | (rw [t_tkf, if_neg (fun z => z.2 (by assumption))]) | (rw [t_tkf, if_neg (fun z => absurd z.1 (by assumption))])
            refine ih_4 (by omega) ls ?_
            show lv_has ls 8 [(0, .ref (ad 1)), (1, .ref (ad 3)), (2, .ref (ad 5)), (3, .ref (ad 6)), (4, .ref (ad 11)), (5, .int (nI q)), (6, .int (bi (t_tkf T q (k + 1)))), (7, .int (nI (k + 1)))]
            rw [e_13]
            exact lv_sub hl [2, 3, 4, 5, 6, 7, 1, 0] rfl
          · refine lv_iconst (v := nI 1) hx hb dL_takes_81 (by decide) ?_
            refine lv_goto (tgt := 86) hx hb dL_takes_82 (by decide) ?_
            refine lv_istore (lv' := [(6, .int (nI 1)), (0, .ref (ad 1)), (1, .ref (ad 3)), (2, .ref (ad 5)), (3, .ref (ad 6)), (4, .ref (ad 11)), (5, .int (nI q)), (7, .int (nI k))]) hx hb dL_takes_86 hl (by decide) rfl (fun ls hl => ?_)
            refine n_iinc (k := 7) (lv' := [(7, .int (nI (k + 1))), (6, .int (nI 1)), (0, .ref (ad 1)), (1, .ref (ad 3)), (2, .ref (ad 5)), (3, .ref (ad 6)), (4, .ref (ad 11)), (5, .int (nI q))]) hx hb dL_takes_88 hl rfl (by decide) rfl (fun ls hl => ?_)
            refine lv_goto (tgt := 38) hx hb dL_takes_91 (by decide) ?_
            have e_14 : t_tkf T q (k + 1) = true := by first | (rw [t_tkf, if_pos ⟨by assumption, by assumption⟩]; simp [c_2, c_7, c_8, c_10, c_12]; done) | (rw [t_tkf, if_neg (fun z => z.2 (by assumption))]) | (rw [t_tkf, if_neg (fun z => absurd z.1 (by assumption))])
            refine ih_4 (by omega) ls ?_
            show lv_has ls 8 [(0, .ref (ad 1)), (1, .ref (ad 3)), (2, .ref (ad 5)), (3, .ref (ad 6)), (4, .ref (ad 11)), (5, .int (nI q)), (6, .int (bi (t_tkf T q (k + 1)))), (7, .int (nI (k + 1)))]
            rw [e_14]
            exact lv_sub hl [2, 3, 4, 5, 6, 7, 1, 0] rfl
  · refine lv_aload_n hx hb dL_takes_14 rfl (lv_at hl 1 rfl) ?_
    refine lv_iload hx hb dL_takes_15 (lv_at hl 5 rfl) ?_
    refine a_iald (f := 3) (n := 16) hx hb hK hP rfl (by omega) (by decide) dL_takes_17 ?_
    refine n_if_le (tgt := 32) hx hb dL_takes_18 (by decide) (by have f1 : T 3 q ≤ 134217727 := hT.1 3 q; omega) (fun c_15 => ?_) (fun c_15 => ?_)
    · refine lv_iconst (v := nI 0) hx hb dL_takes_32 (by decide) ?_
      refine lv_istore (lv' := [(6, .int (nI 0)), (0, .ref (ad 1)), (1, .ref (ad 3)), (2, .ref (ad 5)), (3, .ref (ad 6)), (4, .ref (ad 11)), (5, .int (nI q))]) hx hb dL_takes_33 hl (by decide) rfl (fun ls hl => ?_)
      refine lv_iconst (v := nI 0) hx hb dL_takes_35 (by decide) ?_
      refine lv_istore (lv' := [(7, .int (nI 0)), (6, .int (nI 0)), (0, .ref (ad 1)), (1, .ref (ad 3)), (2, .ref (ad 5)), (3, .ref (ad 6)), (4, .ref (ad 11)), (5, .int (nI q))]) hx hb dL_takes_36 hl (by decide) rfl (fun ls hl => ?_)
      have eI_16 : t_tkf T q 0 = false := by first | (simp [t_tkf, c_2, c_15]; done) | (simp [t_tkf, c_2, c_15]; omega)
      refine w_loop (e := T 11 3) (nL := 8) (fun k => [(0, .ref (ad 1)), (1, .ref (ad 3)), (2, .ref (ad 5)), (3, .ref (ad 6)), (4, .ref (ad 11)), (5, .int (nI q)), (6, .int (bi (t_tkf T q k))), (7, .int (nI k))]) (fun k hb_18 ih_17 ls hl => ?_) 0 (by omega) ls (lv_sub hl [2, 3, 4, 5, 6, 7, 1, 0] (by show lv_pick _ _ = [(0, .ref (ad 1)), (1, .ref (ad 3)), (2, .ref (ad 5)), (3, .ref (ad 6)), (4, .ref (ad 11)), (5, .int (nI q)), (6, .int (bi (t_tkf T q 0))), (7, .int (nI 0))]; rw [eI_16]; rfl))
      have h60 := hT.2.2.1
      refine lv_iload hx hb dL_takes_38 (lv_at hl 7 rfl) ?_
      refine lv_aload hx hb dL_takes_40 (lv_at hl 4 rfl) ?_
      refine lv_iconst (v := nI 3) hx hb dL_takes_42 (by decide) ?_
      refine a_iald (f := 11) (n := 7) hx hb hK hP rfl (by decide) (by decide) dL_takes_43 ?_
      refine n_icmp_ge (tgt := 94) hx hb dL_takes_44 (by decide) (by omega) (by have f1 : T 11 3 ≤ 2000 := hT.1 11 3; have f2 : T 11 3 ≤ 60 := hT.2.2.1; omega) (fun c_20 => ?_) (fun c_20 => ?_)
      · obtain rfl : T 11 3 = k := by omega
        refine lv_iload hx hb dL_takes_94 (lv_at hl 6 rfl) ?_
        exact W.zret (v := bi (t_tkf T q (T 11 3))) hx hb hr (bi_nar _) (fun U9 ht hW => ⟨_, rfl, congrArg bi (show t_tkf T q (T 11 3) = t_tk T q from by rfl), ht⟩) (fun _ h => by cases h) dL_takes_96
      · refine lv_aload_n hx hb dL_takes_47 rfl (lv_at hl 3 rfl) ?_
        refine lv_iload hx hb dL_takes_48 (lv_at hl 7 rfl) ?_
        refine a_iald (f := 6) (n := 60) hx hb hK hP rfl (by omega) (by decide) dL_takes_50 ?_
        refine lv_iconst (v := nI 2) hx hb dL_takes_51 (by decide) ?_
        refine lv_ishr hx hb dL_takes_52 ?_
        rw [show (nI (T 6 k)) >>> ((nI 2) &&& 31) = nI ((T 6 k) / 4) from n_shrK (by have f1 : T 6 k ≤ 8191 := hT.1 6 k; omega) (by decide) rfl]
        refine lv_bipush (v := nI 15) hx hb dL_takes_53 (by decide) ?_
        refine lv_iand hx hb dL_takes_55 ?_
        rw [show (nI ((T 6 k) / 4)) &&& (nI 15) = nI (((T 6 k) / 4) % 16) from n_andK (k := 4) (by have f1 : T 6 k ≤ 8191 := hT.1 6 k; omega) (by decide) (by decide) rfl]
        refine lv_iload hx hb dL_takes_56 (lv_at hl 5 rfl) ?_
        refine n_icmp_ne (tgt := 88) hx hb dL_takes_58 (by decide) (by have f1 : T 6 k ≤ 8191 := hT.1 6 k; omega) (by omega) (fun c_21 => ?_) (fun c_21 => ?_)
        · refine n_iinc (k := 7) (lv' := [(7, .int (nI (k + 1))), (0, .ref (ad 1)), (1, .ref (ad 3)), (2, .ref (ad 5)), (3, .ref (ad 6)), (4, .ref (ad 11)), (5, .int (nI q)), (6, .int (bi (t_tkf T q k)))]) hx hb dL_takes_88 hl rfl (by decide) rfl (fun ls hl => ?_)
          refine lv_goto (tgt := 38) hx hb dL_takes_91 (by decide) ?_
          have e_22 : t_tkf T q (k + 1) = t_tkf T q k := by first | (rw [t_tkf, if_pos ⟨by assumption, by assumption⟩]; simp [c_2, c_15, c_20, c_21]; done) | (rw [t_tkf, if_neg (fun z => z.2 (by assumption))]) | (rw [t_tkf, if_neg (fun z => absurd z.1 (by assumption))])
          refine ih_17 (by omega) ls ?_
          show lv_has ls 8 [(0, .ref (ad 1)), (1, .ref (ad 3)), (2, .ref (ad 5)), (3, .ref (ad 6)), (4, .ref (ad 11)), (5, .int (nI q)), (6, .int (bi (t_tkf T q (k + 1)))), (7, .int (nI (k + 1)))]
          rw [e_22]
          exact lv_sub hl [1, 2, 3, 4, 5, 6, 7, 0] rfl
        · refine lv_aload_n hx hb dL_takes_61 rfl (lv_at hl 3 rfl) ?_
          refine lv_iload hx hb dL_takes_62 (lv_at hl 7 rfl) ?_
          refine a_iald (f := 6) (n := 60) hx hb hK hP rfl (by omega) (by decide) dL_takes_64 ?_
          refine lv_iconst (v := nI 3) hx hb dL_takes_65 (by decide) ?_
          refine lv_iand hx hb dL_takes_66 ?_
          rw [show (nI (T 6 k)) &&& (nI 3) = nI ((T 6 k) % 4) from n_andK (k := 2) (by have f1 : T 6 k ≤ 8191 := hT.1 6 k; omega) (by decide) (by decide) rfl]
          refine lv_iconst (v := nI 1) hx hb dL_takes_67 (by decide) ?_
          refine n_icmp_eq (tgt := 88) hx hb dL_takes_68 (by decide) (by have f1 : T 6 k ≤ 8191 := hT.1 6 k; omega) (by decide) (fun c_23 => ?_) (fun c_23 => ?_)
          · refine n_iinc (k := 7) (lv' := [(7, .int (nI (k + 1))), (0, .ref (ad 1)), (1, .ref (ad 3)), (2, .ref (ad 5)), (3, .ref (ad 6)), (4, .ref (ad 11)), (5, .int (nI q)), (6, .int (bi (t_tkf T q k)))]) hx hb dL_takes_88 hl rfl (by decide) rfl (fun ls hl => ?_)
            refine lv_goto (tgt := 38) hx hb dL_takes_91 (by decide) ?_
            have e_24 : t_tkf T q (k + 1) = t_tkf T q k := by first | (rw [t_tkf, if_pos ⟨by assumption, by assumption⟩]; simp [c_2, c_15, c_20, c_21, c_23]; done) | (rw [t_tkf, if_neg (fun z => z.2 (by assumption))]) | (rw [t_tkf, if_neg (fun z => absurd z.1 (by assumption))])
            refine ih_17 (by omega) ls ?_
            show lv_has ls 8 [(0, .ref (ad 1)), (1, .ref (ad 3)), (2, .ref (ad 5)), (3, .ref (ad 6)), (4, .ref (ad 11)), (5, .int (nI q)), (6, .int (bi (t_tkf T q (k + 1)))), (7, .int (nI (k + 1)))]
            rw [e_24]
            exact lv_sub hl [1, 2, 3, 4, 5, 6, 7, 0] rfl
          · refine lv_aload_n hx hb dL_takes_71 rfl (lv_at hl 3 rfl) ?_
            refine lv_iload hx hb dL_takes_72 (lv_at hl 7 rfl) ?_
            refine a_iald (f := 6) (n := 60) hx hb hK hP rfl (by omega) (by decide) dL_takes_74 ?_
            refine lv_iconst (v := nI 3) hx hb dL_takes_75 (by decide) ?_
            refine lv_iand hx hb dL_takes_76 ?_
            rw [show (nI (T 6 k)) &&& (nI 3) = nI ((T 6 k) % 4) from n_andK (k := 2) (by have f1 : T 6 k ≤ 8191 := hT.1 6 k; omega) (by decide) (by decide) rfl]
            refine lv_iconst (v := nI 2) hx hb dL_takes_77 (by decide) ?_
            refine n_icmp_ne (tgt := 85) hx hb dL_takes_78 (by decide) (by have f1 : T 6 k ≤ 8191 := hT.1 6 k; omega) (by decide) (fun c_25 => ?_) (fun c_25 => ?_)
            · refine lv_iconst (v := nI 0) hx hb dL_takes_85 (by decide) ?_
              refine lv_istore (lv' := [(6, .int (nI 0)), (0, .ref (ad 1)), (1, .ref (ad 3)), (2, .ref (ad 5)), (3, .ref (ad 6)), (4, .ref (ad 11)), (5, .int (nI q)), (7, .int (nI k))]) hx hb dL_takes_86 hl (by decide) rfl (fun ls hl => ?_)
              refine n_iinc (k := 7) (lv' := [(7, .int (nI (k + 1))), (6, .int (nI 0)), (0, .ref (ad 1)), (1, .ref (ad 3)), (2, .ref (ad 5)), (3, .ref (ad 6)), (4, .ref (ad 11)), (5, .int (nI q))]) hx hb dL_takes_88 hl rfl (by decide) rfl (fun ls hl => ?_)
              refine lv_goto (tgt := 38) hx hb dL_takes_91 (by decide) ?_
              have e_26 : t_tkf T q (k + 1) = false := by first | (rw [t_tkf, if_pos ⟨by assumption, by assumption⟩]; simp [c_2, c_15, c_20, c_21, c_23, c_25]; done) | (rw [t_tkf, if_neg (fun z => z.2 (by assumption))]) | (rw [t_tkf, if_neg (fun z => absurd z.1 (by assumption))])
              refine ih_17 (by omega) ls ?_
              show lv_has ls 8 [(0, .ref (ad 1)), (1, .ref (ad 3)), (2, .ref (ad 5)), (3, .ref (ad 6)), (4, .ref (ad 11)), (5, .int (nI q)), (6, .int (bi (t_tkf T q (k + 1)))), (7, .int (nI (k + 1)))]
              rw [e_26]
              exact lv_sub hl [2, 3, 4, 5, 6, 7, 1, 0] rfl
            · refine lv_iconst (v := nI 1) hx hb dL_takes_81 (by decide) ?_
              refine lv_goto (tgt := 86) hx hb dL_takes_82 (by decide) ?_
              refine lv_istore (lv' := [(6, .int (nI 1)), (0, .ref (ad 1)), (1, .ref (ad 3)), (2, .ref (ad 5)), (3, .ref (ad 6)), (4, .ref (ad 11)), (5, .int (nI q)), (7, .int (nI k))]) hx hb dL_takes_86 hl (by decide) rfl (fun ls hl => ?_)
              refine n_iinc (k := 7) (lv' := [(7, .int (nI (k + 1))), (6, .int (nI 1)), (0, .ref (ad 1)), (1, .ref (ad 3)), (2, .ref (ad 5)), (3, .ref (ad 6)), (4, .ref (ad 11)), (5, .int (nI q))]) hx hb dL_takes_88 hl rfl (by decide) rfl (fun ls hl => ?_)
              refine lv_goto (tgt := 38) hx hb dL_takes_91 (by decide) ?_
              have e_27 : t_tkf T q (k + 1) = true := by first | (rw [t_tkf, if_pos ⟨by assumption, by assumption⟩]; simp [c_2, c_15, c_20, c_21, c_23, c_25]; done) | (rw [t_tkf, if_neg (fun z => z.2 (by assumption))]) | (rw [t_tkf, if_neg (fun z => absurd z.1 (by assumption))])
              refine ih_17 (by omega) ls ?_
              show lv_has ls 8 [(0, .ref (ad 1)), (1, .ref (ad 3)), (2, .ref (ad 5)), (3, .ref (ad 6)), (4, .ref (ad 11)), (5, .int (nI q)), (6, .int (bi (t_tkf T q (k + 1)))), (7, .int (nI (k + 1)))]
              rw [e_27]
              exact lv_sub hl [2, 3, 4, 5, 6, 7, 1, 0] rfl
    · refine lv_aload_n hx hb dL_takes_21 rfl (lv_at hl 2 rfl) ?_
      refine lv_iload hx hb dL_takes_22 (lv_at hl 5 rfl) ?_
      refine a_iald (f := 5) (n := 16) hx hb hK hP rfl (by omega) (by decide) dL_takes_24 ?_
      refine n_if_ne (tgt := 32) hx hb dL_takes_25 (by decide) (by have f1 : T 5 q ≤ 1 := hT.1 5 q; omega) (fun c_28 => ?_) (fun c_28 => ?_)
      · refine lv_iconst (v := nI 0) hx hb dL_takes_32 (by decide) ?_
        refine lv_istore (lv' := [(6, .int (nI 0)), (0, .ref (ad 1)), (1, .ref (ad 3)), (2, .ref (ad 5)), (3, .ref (ad 6)), (4, .ref (ad 11)), (5, .int (nI q))]) hx hb dL_takes_33 hl (by decide) rfl (fun ls hl => ?_)
        refine lv_iconst (v := nI 0) hx hb dL_takes_35 (by decide) ?_
        refine lv_istore (lv' := [(7, .int (nI 0)), (6, .int (nI 0)), (0, .ref (ad 1)), (1, .ref (ad 3)), (2, .ref (ad 5)), (3, .ref (ad 6)), (4, .ref (ad 11)), (5, .int (nI q))]) hx hb dL_takes_36 hl (by decide) rfl (fun ls hl => ?_)
        have eI_29 : t_tkf T q 0 = false := by first | (simp [t_tkf, c_2, c_15, c_28]; done) | (simp [t_tkf, c_2, c_15, c_28]; omega)
        refine w_loop (e := T 11 3) (nL := 8) (fun k => [(0, .ref (ad 1)), (1, .ref (ad 3)), (2, .ref (ad 5)), (3, .ref (ad 6)), (4, .ref (ad 11)), (5, .int (nI q)), (6, .int (bi (t_tkf T q k))), (7, .int (nI k))]) (fun k hb_31 ih_30 ls hl => ?_) 0 (by omega) ls (lv_sub hl [2, 3, 4, 5, 6, 7, 1, 0] (by show lv_pick _ _ = [(0, .ref (ad 1)), (1, .ref (ad 3)), (2, .ref (ad 5)), (3, .ref (ad 6)), (4, .ref (ad 11)), (5, .int (nI q)), (6, .int (bi (t_tkf T q 0))), (7, .int (nI 0))]; rw [eI_29]; rfl))
        have h60 := hT.2.2.1
        refine lv_iload hx hb dL_takes_38 (lv_at hl 7 rfl) ?_
        refine lv_aload hx hb dL_takes_40 (lv_at hl 4 rfl) ?_
        refine lv_iconst (v := nI 3) hx hb dL_takes_42 (by decide) ?_
        refine a_iald (f := 11) (n := 7) hx hb hK hP rfl (by decide) (by decide) dL_takes_43 ?_
        refine n_icmp_ge (tgt := 94) hx hb dL_takes_44 (by decide) (by omega) (by have f1 : T 11 3 ≤ 2000 := hT.1 11 3; have f2 : T 11 3 ≤ 60 := hT.2.2.1; omega) (fun c_33 => ?_) (fun c_33 => ?_)
        · obtain rfl : T 11 3 = k := by omega
          refine lv_iload hx hb dL_takes_94 (lv_at hl 6 rfl) ?_
          exact W.zret (v := bi (t_tkf T q (T 11 3))) hx hb hr (bi_nar _) (fun U9 ht hW => ⟨_, rfl, congrArg bi (show t_tkf T q (T 11 3) = t_tk T q from by rfl), ht⟩) (fun _ h => by cases h) dL_takes_96
        · refine lv_aload_n hx hb dL_takes_47 rfl (lv_at hl 3 rfl) ?_
          refine lv_iload hx hb dL_takes_48 (lv_at hl 7 rfl) ?_
          refine a_iald (f := 6) (n := 60) hx hb hK hP rfl (by omega) (by decide) dL_takes_50 ?_
          refine lv_iconst (v := nI 2) hx hb dL_takes_51 (by decide) ?_
          refine lv_ishr hx hb dL_takes_52 ?_
          rw [show (nI (T 6 k)) >>> ((nI 2) &&& 31) = nI ((T 6 k) / 4) from n_shrK (by have f1 : T 6 k ≤ 8191 := hT.1 6 k; omega) (by decide) rfl]
          refine lv_bipush (v := nI 15) hx hb dL_takes_53 (by decide) ?_
          refine lv_iand hx hb dL_takes_55 ?_
          rw [show (nI ((T 6 k) / 4)) &&& (nI 15) = nI (((T 6 k) / 4) % 16) from n_andK (k := 4) (by have f1 : T 6 k ≤ 8191 := hT.1 6 k; omega) (by decide) (by decide) rfl]
          refine lv_iload hx hb dL_takes_56 (lv_at hl 5 rfl) ?_
          refine n_icmp_ne (tgt := 88) hx hb dL_takes_58 (by decide) (by have f1 : T 6 k ≤ 8191 := hT.1 6 k; omega) (by omega) (fun c_34 => ?_) (fun c_34 => ?_)
          · refine n_iinc (k := 7) (lv' := [(7, .int (nI (k + 1))), (0, .ref (ad 1)), (1, .ref (ad 3)), (2, .ref (ad 5)), (3, .ref (ad 6)), (4, .ref (ad 11)), (5, .int (nI q)), (6, .int (bi (t_tkf T q k)))]) hx hb dL_takes_88 hl rfl (by decide) rfl (fun ls hl => ?_)
            refine lv_goto (tgt := 38) hx hb dL_takes_91 (by decide) ?_
            have e_35 : t_tkf T q (k + 1) = t_tkf T q k := by first | (rw [t_tkf, if_pos ⟨by assumption, by assumption⟩]; simp [c_2, c_15, c_28, c_33, c_34]; done) | (rw [t_tkf, if_neg (fun z => z.2 (by assumption))]) | (rw [t_tkf, if_neg (fun z => absurd z.1 (by assumption))])
            refine ih_30 (by omega) ls ?_
            show lv_has ls 8 [(0, .ref (ad 1)), (1, .ref (ad 3)), (2, .ref (ad 5)), (3, .ref (ad 6)), (4, .ref (ad 11)), (5, .int (nI q)), (6, .int (bi (t_tkf T q (k + 1)))), (7, .int (nI (k + 1)))]
            rw [e_35]
            exact lv_sub hl [1, 2, 3, 4, 5, 6, 7, 0] rfl
          · refine lv_aload_n hx hb dL_takes_61 rfl (lv_at hl 3 rfl) ?_
            refine lv_iload hx hb dL_takes_62 (lv_at hl 7 rfl) ?_
            refine a_iald (f := 6) (n := 60) hx hb hK hP rfl (by omega) (by decide) dL_takes_64 ?_
            refine lv_iconst (v := nI 3) hx hb dL_takes_65 (by decide) ?_
            refine lv_iand hx hb dL_takes_66 ?_
            rw [show (nI (T 6 k)) &&& (nI 3) = nI ((T 6 k) % 4) from n_andK (k := 2) (by have f1 : T 6 k ≤ 8191 := hT.1 6 k; omega) (by decide) (by decide) rfl]
            refine lv_iconst (v := nI 1) hx hb dL_takes_67 (by decide) ?_
            refine n_icmp_eq (tgt := 88) hx hb dL_takes_68 (by decide) (by have f1 : T 6 k ≤ 8191 := hT.1 6 k; omega) (by decide) (fun c_36 => ?_) (fun c_36 => ?_)
            · refine n_iinc (k := 7) (lv' := [(7, .int (nI (k + 1))), (0, .ref (ad 1)), (1, .ref (ad 3)), (2, .ref (ad 5)), (3, .ref (ad 6)), (4, .ref (ad 11)), (5, .int (nI q)), (6, .int (bi (t_tkf T q k)))]) hx hb dL_takes_88 hl rfl (by decide) rfl (fun ls hl => ?_)
              refine lv_goto (tgt := 38) hx hb dL_takes_91 (by decide) ?_
              have e_37 : t_tkf T q (k + 1) = t_tkf T q k := by first | (rw [t_tkf, if_pos ⟨by assumption, by assumption⟩]; simp [c_2, c_15, c_28, c_33, c_34, c_36]; done) | (rw [t_tkf, if_neg (fun z => z.2 (by assumption))]) | (rw [t_tkf, if_neg (fun z => absurd z.1 (by assumption))])
              refine ih_30 (by omega) ls ?_
              show lv_has ls 8 [(0, .ref (ad 1)), (1, .ref (ad 3)), (2, .ref (ad 5)), (3, .ref (ad 6)), (4, .ref (ad 11)), (5, .int (nI q)), (6, .int (bi (t_tkf T q (k + 1)))), (7, .int (nI (k + 1)))]
              rw [e_37]
              exact lv_sub hl [1, 2, 3, 4, 5, 6, 7, 0] rfl
            · refine lv_aload_n hx hb dL_takes_71 rfl (lv_at hl 3 rfl) ?_
              refine lv_iload hx hb dL_takes_72 (lv_at hl 7 rfl) ?_
              refine a_iald (f := 6) (n := 60) hx hb hK hP rfl (by omega) (by decide) dL_takes_74 ?_
              refine lv_iconst (v := nI 3) hx hb dL_takes_75 (by decide) ?_
              refine lv_iand hx hb dL_takes_76 ?_
              rw [show (nI (T 6 k)) &&& (nI 3) = nI ((T 6 k) % 4) from n_andK (k := 2) (by have f1 : T 6 k ≤ 8191 := hT.1 6 k; omega) (by decide) (by decide) rfl]
              refine lv_iconst (v := nI 2) hx hb dL_takes_77 (by decide) ?_
              refine n_icmp_ne (tgt := 85) hx hb dL_takes_78 (by decide) (by have f1 : T 6 k ≤ 8191 := hT.1 6 k; omega) (by decide) (fun c_38 => ?_) (fun c_38 => ?_)
              · refine lv_iconst (v := nI 0) hx hb dL_takes_85 (by decide) ?_
                refine lv_istore (lv' := [(6, .int (nI 0)), (0, .ref (ad 1)), (1, .ref (ad 3)), (2, .ref (ad 5)), (3, .ref (ad 6)), (4, .ref (ad 11)), (5, .int (nI q)), (7, .int (nI k))]) hx hb dL_takes_86 hl (by decide) rfl (fun ls hl => ?_)
                refine n_iinc (k := 7) (lv' := [(7, .int (nI (k + 1))), (6, .int (nI 0)), (0, .ref (ad 1)), (1, .ref (ad 3)), (2, .ref (ad 5)), (3, .ref (ad 6)), (4, .ref (ad 11)), (5, .int (nI q))]) hx hb dL_takes_88 hl rfl (by decide) rfl (fun ls hl => ?_)
                refine lv_goto (tgt := 38) hx hb dL_takes_91 (by decide) ?_
                have e_39 : t_tkf T q (k + 1) = false := by first | (rw [t_tkf, if_pos ⟨by assumption, by assumption⟩]; simp [c_2, c_15, c_28, c_33, c_34, c_36, c_38]; done) | (rw [t_tkf, if_neg (fun z => z.2 (by assumption))]) | (rw [t_tkf, if_neg (fun z => absurd z.1 (by assumption))])
                refine ih_30 (by omega) ls ?_
                show lv_has ls 8 [(0, .ref (ad 1)), (1, .ref (ad 3)), (2, .ref (ad 5)), (3, .ref (ad 6)), (4, .ref (ad 11)), (5, .int (nI q)), (6, .int (bi (t_tkf T q (k + 1)))), (7, .int (nI (k + 1)))]
                rw [e_39]
                exact lv_sub hl [2, 3, 4, 5, 6, 7, 1, 0] rfl
              · refine lv_iconst (v := nI 1) hx hb dL_takes_81 (by decide) ?_
                refine lv_goto (tgt := 86) hx hb dL_takes_82 (by decide) ?_
                refine lv_istore (lv' := [(6, .int (nI 1)), (0, .ref (ad 1)), (1, .ref (ad 3)), (2, .ref (ad 5)), (3, .ref (ad 6)), (4, .ref (ad 11)), (5, .int (nI q)), (7, .int (nI k))]) hx hb dL_takes_86 hl (by decide) rfl (fun ls hl => ?_)
                refine n_iinc (k := 7) (lv' := [(7, .int (nI (k + 1))), (6, .int (nI 1)), (0, .ref (ad 1)), (1, .ref (ad 3)), (2, .ref (ad 5)), (3, .ref (ad 6)), (4, .ref (ad 11)), (5, .int (nI q))]) hx hb dL_takes_88 hl rfl (by decide) rfl (fun ls hl => ?_)
                refine lv_goto (tgt := 38) hx hb dL_takes_91 (by decide) ?_
                have e_40 : t_tkf T q (k + 1) = true := by first | (rw [t_tkf, if_pos ⟨by assumption, by assumption⟩]; simp [c_2, c_15, c_28, c_33, c_34, c_36, c_38]; done) | (rw [t_tkf, if_neg (fun z => z.2 (by assumption))]) | (rw [t_tkf, if_neg (fun z => absurd z.1 (by assumption))])
                refine ih_30 (by omega) ls ?_
                show lv_has ls 8 [(0, .ref (ad 1)), (1, .ref (ad 3)), (2, .ref (ad 5)), (3, .ref (ad 6)), (4, .ref (ad 11)), (5, .int (nI q)), (6, .int (bi (t_tkf T q (k + 1)))), (7, .int (nI (k + 1)))]
                rw [e_40]
                exact lv_sub hl [2, 3, 4, 5, 6, 7, 1, 0] rfl
      · refine lv_iconst (v := nI 1) hx hb dL_takes_28 (by decide) ?_
        refine lv_goto (tgt := 33) hx hb dL_takes_29 (by decide) ?_
        refine lv_istore (lv' := [(6, .int (nI 1)), (0, .ref (ad 1)), (1, .ref (ad 3)), (2, .ref (ad 5)), (3, .ref (ad 6)), (4, .ref (ad 11)), (5, .int (nI q))]) hx hb dL_takes_33 hl (by decide) rfl (fun ls hl => ?_)
        refine lv_iconst (v := nI 0) hx hb dL_takes_35 (by decide) ?_
        refine lv_istore (lv' := [(7, .int (nI 0)), (6, .int (nI 1)), (0, .ref (ad 1)), (1, .ref (ad 3)), (2, .ref (ad 5)), (3, .ref (ad 6)), (4, .ref (ad 11)), (5, .int (nI q))]) hx hb dL_takes_36 hl (by decide) rfl (fun ls hl => ?_)
        have eI_41 : t_tkf T q 0 = true := by first | (simp [t_tkf, c_2, c_15, c_28]; done) | (simp [t_tkf, c_2, c_15, c_28]; omega)
        refine w_loop (e := T 11 3) (nL := 8) (fun k => [(0, .ref (ad 1)), (1, .ref (ad 3)), (2, .ref (ad 5)), (3, .ref (ad 6)), (4, .ref (ad 11)), (5, .int (nI q)), (6, .int (bi (t_tkf T q k))), (7, .int (nI k))]) (fun k hb_43 ih_42 ls hl => ?_) 0 (by omega) ls (lv_sub hl [2, 3, 4, 5, 6, 7, 1, 0] (by show lv_pick _ _ = [(0, .ref (ad 1)), (1, .ref (ad 3)), (2, .ref (ad 5)), (3, .ref (ad 6)), (4, .ref (ad 11)), (5, .int (nI q)), (6, .int (bi (t_tkf T q 0))), (7, .int (nI 0))]; rw [eI_41]; rfl))
        have h60 := hT.2.2.1
        refine lv_iload hx hb dL_takes_38 (lv_at hl 7 rfl) ?_
        refine lv_aload hx hb dL_takes_40 (lv_at hl 4 rfl) ?_
        refine lv_iconst (v := nI 3) hx hb dL_takes_42 (by decide) ?_
        refine a_iald (f := 11) (n := 7) hx hb hK hP rfl (by decide) (by decide) dL_takes_43 ?_
        refine n_icmp_ge (tgt := 94) hx hb dL_takes_44 (by decide) (by omega) (by have f1 : T 11 3 ≤ 2000 := hT.1 11 3; have f2 : T 11 3 ≤ 60 := hT.2.2.1; omega) (fun c_45 => ?_) (fun c_45 => ?_)
        · obtain rfl : T 11 3 = k := by omega
          refine lv_iload hx hb dL_takes_94 (lv_at hl 6 rfl) ?_
          exact W.zret (v := bi (t_tkf T q (T 11 3))) hx hb hr (bi_nar _) (fun U9 ht hW => ⟨_, rfl, congrArg bi (show t_tkf T q (T 11 3) = t_tk T q from by rfl), ht⟩) (fun _ h => by cases h) dL_takes_96
        · refine lv_aload_n hx hb dL_takes_47 rfl (lv_at hl 3 rfl) ?_
          refine lv_iload hx hb dL_takes_48 (lv_at hl 7 rfl) ?_
          refine a_iald (f := 6) (n := 60) hx hb hK hP rfl (by omega) (by decide) dL_takes_50 ?_
          refine lv_iconst (v := nI 2) hx hb dL_takes_51 (by decide) ?_
          refine lv_ishr hx hb dL_takes_52 ?_
          rw [show (nI (T 6 k)) >>> ((nI 2) &&& 31) = nI ((T 6 k) / 4) from n_shrK (by have f1 : T 6 k ≤ 8191 := hT.1 6 k; omega) (by decide) rfl]
          refine lv_bipush (v := nI 15) hx hb dL_takes_53 (by decide) ?_
          refine lv_iand hx hb dL_takes_55 ?_
          rw [show (nI ((T 6 k) / 4)) &&& (nI 15) = nI (((T 6 k) / 4) % 16) from n_andK (k := 4) (by have f1 : T 6 k ≤ 8191 := hT.1 6 k; omega) (by decide) (by decide) rfl]
          refine lv_iload hx hb dL_takes_56 (lv_at hl 5 rfl) ?_
          refine n_icmp_ne (tgt := 88) hx hb dL_takes_58 (by decide) (by have f1 : T 6 k ≤ 8191 := hT.1 6 k; omega) (by omega) (fun c_46 => ?_) (fun c_46 => ?_)
          · refine n_iinc (k := 7) (lv' := [(7, .int (nI (k + 1))), (0, .ref (ad 1)), (1, .ref (ad 3)), (2, .ref (ad 5)), (3, .ref (ad 6)), (4, .ref (ad 11)), (5, .int (nI q)), (6, .int (bi (t_tkf T q k)))]) hx hb dL_takes_88 hl rfl (by decide) rfl (fun ls hl => ?_)
            refine lv_goto (tgt := 38) hx hb dL_takes_91 (by decide) ?_
            have e_47 : t_tkf T q (k + 1) = t_tkf T q k := by first | (rw [t_tkf, if_pos ⟨by assumption, by assumption⟩]; simp [c_2, c_15, c_28, c_45, c_46]; done) | (rw [t_tkf, if_neg (fun z => z.2 (by assumption))]) | (rw [t_tkf, if_neg (fun z => absurd z.1 (by assumption))])
            refine ih_42 (by omega) ls ?_
            show lv_has ls 8 [(0, .ref (ad 1)), (1, .ref (ad 3)), (2, .ref (ad 5)), (3, .ref (ad 6)), (4, .ref (ad 11)), (5, .int (nI q)), (6, .int (bi (t_tkf T q (k + 1)))), (7, .int (nI (k + 1)))]
            rw [e_47]
            exact lv_sub hl [1, 2, 3, 4, 5, 6, 7, 0] rfl
          · refine lv_aload_n hx hb dL_takes_61 rfl (lv_at hl 3 rfl) ?_
            refine lv_iload hx hb dL_takes_62 (lv_at hl 7 rfl) ?_
            refine a_iald (f := 6) (n := 60) hx hb hK hP rfl (by omega) (by decide) dL_takes_64 ?_
            refine lv_iconst (v := nI 3) hx hb dL_takes_65 (by decide) ?_
            refine lv_iand hx hb dL_takes_66 ?_
            rw [show (nI (T 6 k)) &&& (nI 3) = nI ((T 6 k) % 4) from n_andK (k := 2) (by have f1 : T 6 k ≤ 8191 := hT.1 6 k; omega) (by decide) (by decide) rfl]
            refine lv_iconst (v := nI 1) hx hb dL_takes_67 (by decide) ?_
            refine n_icmp_eq (tgt := 88) hx hb dL_takes_68 (by decide) (by have f1 : T 6 k ≤ 8191 := hT.1 6 k; omega) (by decide) (fun c_48 => ?_) (fun c_48 => ?_)
            · refine n_iinc (k := 7) (lv' := [(7, .int (nI (k + 1))), (0, .ref (ad 1)), (1, .ref (ad 3)), (2, .ref (ad 5)), (3, .ref (ad 6)), (4, .ref (ad 11)), (5, .int (nI q)), (6, .int (bi (t_tkf T q k)))]) hx hb dL_takes_88 hl rfl (by decide) rfl (fun ls hl => ?_)
              refine lv_goto (tgt := 38) hx hb dL_takes_91 (by decide) ?_
              have e_49 : t_tkf T q (k + 1) = t_tkf T q k := by first | (rw [t_tkf, if_pos ⟨by assumption, by assumption⟩]; simp [c_2, c_15, c_28, c_45, c_46, c_48]; done) | (rw [t_tkf, if_neg (fun z => z.2 (by assumption))]) | (rw [t_tkf, if_neg (fun z => absurd z.1 (by assumption))])
              refine ih_42 (by omega) ls ?_
              show lv_has ls 8 [(0, .ref (ad 1)), (1, .ref (ad 3)), (2, .ref (ad 5)), (3, .ref (ad 6)), (4, .ref (ad 11)), (5, .int (nI q)), (6, .int (bi (t_tkf T q (k + 1)))), (7, .int (nI (k + 1)))]
              rw [e_49]
              exact lv_sub hl [1, 2, 3, 4, 5, 6, 7, 0] rfl
            · refine lv_aload_n hx hb dL_takes_71 rfl (lv_at hl 3 rfl) ?_
              refine lv_iload hx hb dL_takes_72 (lv_at hl 7 rfl) ?_
              refine a_iald (f := 6) (n := 60) hx hb hK hP rfl (by omega) (by decide) dL_takes_74 ?_
              refine lv_iconst (v := nI 3) hx hb dL_takes_75 (by decide) ?_
              refine lv_iand hx hb dL_takes_76 ?_
              rw [show (nI (T 6 k)) &&& (nI 3) = nI ((T 6 k) % 4) from n_andK (k := 2) (by have f1 : T 6 k ≤ 8191 := hT.1 6 k; omega) (by decide) (by decide) rfl]
              refine lv_iconst (v := nI 2) hx hb dL_takes_77 (by decide) ?_
              refine n_icmp_ne (tgt := 85) hx hb dL_takes_78 (by decide) (by have f1 : T 6 k ≤ 8191 := hT.1 6 k; omega) (by decide) (fun c_50 => ?_) (fun c_50 => ?_)
              · refine lv_iconst (v := nI 0) hx hb dL_takes_85 (by decide) ?_
                refine lv_istore (lv' := [(6, .int (nI 0)), (0, .ref (ad 1)), (1, .ref (ad 3)), (2, .ref (ad 5)), (3, .ref (ad 6)), (4, .ref (ad 11)), (5, .int (nI q)), (7, .int (nI k))]) hx hb dL_takes_86 hl (by decide) rfl (fun ls hl => ?_)
                refine n_iinc (k := 7) (lv' := [(7, .int (nI (k + 1))), (6, .int (nI 0)), (0, .ref (ad 1)), (1, .ref (ad 3)), (2, .ref (ad 5)), (3, .ref (ad 6)), (4, .ref (ad 11)), (5, .int (nI q))]) hx hb dL_takes_88 hl rfl (by decide) rfl (fun ls hl => ?_)
                refine lv_goto (tgt := 38) hx hb dL_takes_91 (by decide) ?_
                have e_51 : t_tkf T q (k + 1) = false := by first | (rw [t_tkf, if_pos ⟨by assumption, by assumption⟩]; simp [c_2, c_15, c_28, c_45, c_46, c_48, c_50]; done) | (rw [t_tkf, if_neg (fun z => z.2 (by assumption))]) | (rw [t_tkf, if_neg (fun z => absurd z.1 (by assumption))])
                refine ih_42 (by omega) ls ?_
                show lv_has ls 8 [(0, .ref (ad 1)), (1, .ref (ad 3)), (2, .ref (ad 5)), (3, .ref (ad 6)), (4, .ref (ad 11)), (5, .int (nI q)), (6, .int (bi (t_tkf T q (k + 1)))), (7, .int (nI (k + 1)))]
                rw [e_51]
                exact lv_sub hl [2, 3, 4, 5, 6, 7, 1, 0] rfl
              · refine lv_iconst (v := nI 1) hx hb dL_takes_81 (by decide) ?_
                refine lv_goto (tgt := 86) hx hb dL_takes_82 (by decide) ?_
                refine lv_istore (lv' := [(6, .int (nI 1)), (0, .ref (ad 1)), (1, .ref (ad 3)), (2, .ref (ad 5)), (3, .ref (ad 6)), (4, .ref (ad 11)), (5, .int (nI q)), (7, .int (nI k))]) hx hb dL_takes_86 hl (by decide) rfl (fun ls hl => ?_)
                refine n_iinc (k := 7) (lv' := [(7, .int (nI (k + 1))), (6, .int (nI 1)), (0, .ref (ad 1)), (1, .ref (ad 3)), (2, .ref (ad 5)), (3, .ref (ad 6)), (4, .ref (ad 11)), (5, .int (nI q))]) hx hb dL_takes_88 hl rfl (by decide) rfl (fun ls hl => ?_)
                refine lv_goto (tgt := 38) hx hb dL_takes_91 (by decide) ?_
                have e_52 : t_tkf T q (k + 1) = true := by first | (rw [t_tkf, if_pos ⟨by assumption, by assumption⟩]; simp [c_2, c_15, c_28, c_45, c_46, c_48, c_50]; done) | (rw [t_tkf, if_neg (fun z => z.2 (by assumption))]) | (rw [t_tkf, if_neg (fun z => absurd z.1 (by assumption))])
                refine ih_42 (by omega) ls ?_
                show lv_has ls 8 [(0, .ref (ad 1)), (1, .ref (ad 3)), (2, .ref (ad 5)), (3, .ref (ad 6)), (4, .ref (ad 11)), (5, .int (nI q)), (6, .int (bi (t_tkf T q (k + 1)))), (7, .int (nI (k + 1)))]
                rw [e_52]
                exact lv_sub hl [2, 3, 4, 5, 6, 7, 1, 0] rfl
set_option maxHeartbeats 4000000 in
set_option maxRecDepth 100000 in
theorem ch_quality (l : Launch) (D : va_G) (ad : Nat → Nat) (cI : ClassId) (T : MS) (hT : LT T) (q : Nat) (hq : q < 16) : Met l yL_quality wsL_quality ({ frames := 0, cells := 0, slots := 0, locals := 0 }) (va_Pc [.ref (ad 3), .ref (ad 6), .ref (ad 11), .int (nI q)] (aB D ad cI T)) (vp_Si (fun r => r = nI (t_qu T q))) 0 0 (fun _ => False) := by
  refine Met.ofW (cc := cL_quality) (maxL := 6) (ret := (some .int)) (by decide) rfl ?_
  intro p e s m args below meth c s₁ B hml hv
  obtain ⟨rfl, hP, hK⟩ := hv
  have hx := B.exec
  have hb := B.bytes
  have hr := B.returns
  have hts := atoms_spec (ws := wsL_quality) B.pre
  have hown : s.vm.findClass RL = some m.cls := findClass_of_methodNamed B.named
  have hlocks := B.notSynchronized
  have hl := lv_entry ([.ref (ad 3), .ref (ad 6), .ref (ad 11), .int (nI q)]) (n := 6) (Nat.le_of_ble_eq_true rfl)
  rw [lg_entry_eq]
  generalize (lg_sl ([.ref (ad 3), .ref (ad 6), .ref (ad 11), .int (nI q)]) ++ List.replicate (6 - (lg_sl ([.ref (ad 3), .ref (ad 6), .ref (ad 11), .int (nI q)])).length) Slot.unset).toArray = ls at hl ⊢
  have hl : lv_has ls 6 [(0, .ref (ad 3)), (1, .ref (ad 6)), (2, .ref (ad 11)), (3, .int (nI q))] := hl
  refine lv_aload_n hx hb dL_quality_0 rfl (lv_at hl 0 rfl) ?_
  refine lv_iload_n hx hb dL_quality_1 rfl (lv_at hl 3 rfl) ?_
  refine a_iald (f := 3) (n := 16) hx hb hK hP rfl (by omega) (by decide) dL_quality_2 ?_
  refine lv_bipush (v := nI 20) hx hb dL_quality_3 (by decide) ?_
  refine lv_ishr hx hb dL_quality_5 ?_
  rw [show (nI (T 3 q)) >>> ((nI 20) &&& 31) = nI ((T 3 q) / 1048576) from n_shrK (by have f1 : T 3 q ≤ 134217727 := hT.1 3 q; omega) (by decide) rfl]
  refine lv_istore (lv' := [(4, .int (nI ((T 3 q) / 1048576))), (0, .ref (ad 3)), (1, .ref (ad 6)), (2, .ref (ad 11)), (3, .int (nI q))]) hx hb dL_quality_6 hl (by decide) rfl (fun ls hl => ?_)
  refine lv_iconst (v := nI 0) hx hb dL_quality_8 (by decide) ?_
  refine lv_istore (lv' := [(5, .int (nI 0)), (4, .int (nI ((T 3 q) / 1048576))), (0, .ref (ad 3)), (1, .ref (ad 6)), (2, .ref (ad 11)), (3, .int (nI q))]) hx hb dL_quality_9 hl (by decide) rfl (fun ls hl => ?_)
  have eI_1 : t_quf T q 0 = (T 3 q) / 1048576 := by rfl
  refine w_loop (e := T 11 3) (nL := 6) (fun k => [(0, .ref (ad 3)), (1, .ref (ad 6)), (2, .ref (ad 11)), (3, .int (nI q)), (4, .int (nI (t_quf T q k))), (5, .int (nI k))]) (fun k hb_3 ih_2 ls hl => ?_) 0 (by omega) ls (lv_sub hl [2, 3, 4, 5, 1, 0] (by show lv_pick _ _ = [(0, .ref (ad 3)), (1, .ref (ad 6)), (2, .ref (ad 11)), (3, .int (nI q)), (4, .int (nI (t_quf T q 0))), (5, .int (nI 0))]; rw [eI_1]; rfl))
  have h60 := hT.2.2.1
  refine lv_iload hx hb dL_quality_11 (lv_at hl 5 rfl) ?_
  refine lv_aload_n hx hb dL_quality_13 rfl (lv_at hl 2 rfl) ?_
  refine lv_iconst (v := nI 3) hx hb dL_quality_14 (by decide) ?_
  refine a_iald (f := 11) (n := 7) hx hb hK hP rfl (by decide) (by decide) dL_quality_15 ?_
  refine n_icmp_ge (tgt := 57) hx hb dL_quality_16 (by decide) (by omega) (by have f1 : T 11 3 ≤ 2000 := hT.1 11 3; have f2 : T 11 3 ≤ 60 := hT.2.2.1; omega) (fun c_5 => ?_) (fun c_5 => ?_)
  · obtain rfl : T 11 3 = k := by omega
    refine lv_iload hx hb dL_quality_57 (lv_at hl 4 rfl) ?_
    exact W.iret (v := nI (t_quf T q (T 11 3))) hx hb hr (fun U9 ht hW => ⟨_, rfl, congrArg nI (show t_quf T q (T 11 3) = t_qu T q from by rfl), ht⟩) (fun _ h => by cases h) dL_quality_59
  · refine lv_aload_n hx hb dL_quality_19 rfl (lv_at hl 1 rfl) ?_
    refine lv_iload hx hb dL_quality_20 (lv_at hl 5 rfl) ?_
    refine a_iald (f := 6) (n := 60) hx hb hK hP rfl (by omega) (by decide) dL_quality_22 ?_
    refine lv_iconst (v := nI 2) hx hb dL_quality_23 (by decide) ?_
    refine lv_ishr hx hb dL_quality_24 ?_
    rw [show (nI (T 6 k)) >>> ((nI 2) &&& 31) = nI ((T 6 k) / 4) from n_shrK (by have f1 : T 6 k ≤ 8191 := hT.1 6 k; omega) (by decide) rfl]
    refine lv_bipush (v := nI 15) hx hb dL_quality_25 (by decide) ?_
    refine lv_iand hx hb dL_quality_27 ?_
    rw [show (nI ((T 6 k) / 4)) &&& (nI 15) = nI (((T 6 k) / 4) % 16) from n_andK (k := 4) (by have f1 : T 6 k ≤ 8191 := hT.1 6 k; omega) (by decide) (by decide) rfl]
    refine lv_iload_n hx hb dL_quality_28 rfl (lv_at hl 3 rfl) ?_
    refine n_icmp_ne (tgt := 51) hx hb dL_quality_29 (by decide) (by have f1 : T 6 k ≤ 8191 := hT.1 6 k; omega) (by omega) (fun c_6 => ?_) (fun c_6 => ?_)
    · refine n_iinc (k := 5) (lv' := [(5, .int (nI (k + 1))), (0, .ref (ad 3)), (1, .ref (ad 6)), (2, .ref (ad 11)), (3, .int (nI q)), (4, .int (nI (t_quf T q k)))]) hx hb dL_quality_51 hl rfl (by decide) rfl (fun ls hl => ?_)
      refine lv_goto (tgt := 11) hx hb dL_quality_54 (by decide) ?_
      have e_7 : t_quf T q (k + 1) = t_quf T q k := by first | (rw [t_quf, if_pos ⟨by assumption, by assumption⟩]) | (rw [t_quf, if_neg (fun z => absurd z.2 (by assumption))]) | (rw [t_quf, if_neg (fun z => absurd z.1 (by assumption))])
      refine ih_2 (by omega) ls ?_
      show lv_has ls 6 [(0, .ref (ad 3)), (1, .ref (ad 6)), (2, .ref (ad 11)), (3, .int (nI q)), (4, .int (nI (t_quf T q (k + 1)))), (5, .int (nI (k + 1)))]
      rw [e_7]
      exact lv_sub hl [1, 2, 3, 4, 5, 0] rfl
    · refine lv_aload_n hx hb dL_quality_32 rfl (lv_at hl 1 rfl) ?_
      refine lv_iload hx hb dL_quality_33 (lv_at hl 5 rfl) ?_
      refine a_iald (f := 6) (n := 60) hx hb hK hP rfl (by omega) (by decide) dL_quality_35 ?_
      refine lv_iconst (v := nI 3) hx hb dL_quality_36 (by decide) ?_
      refine lv_iand hx hb dL_quality_37 ?_
      rw [show (nI (T 6 k)) &&& (nI 3) = nI ((T 6 k) % 4) from n_andK (k := 2) (by have f1 : T 6 k ≤ 8191 := hT.1 6 k; omega) (by decide) (by decide) rfl]
      refine lv_iconst (v := nI 1) hx hb dL_quality_38 (by decide) ?_
      refine n_icmp_ne (tgt := 51) hx hb dL_quality_39 (by decide) (by have f1 : T 6 k ≤ 8191 := hT.1 6 k; omega) (by decide) (fun c_8 => ?_) (fun c_8 => ?_)
      · refine n_iinc (k := 5) (lv' := [(5, .int (nI (k + 1))), (0, .ref (ad 3)), (1, .ref (ad 6)), (2, .ref (ad 11)), (3, .int (nI q)), (4, .int (nI (t_quf T q k)))]) hx hb dL_quality_51 hl rfl (by decide) rfl (fun ls hl => ?_)
        refine lv_goto (tgt := 11) hx hb dL_quality_54 (by decide) ?_
        have e_9 : t_quf T q (k + 1) = t_quf T q k := by first | (rw [t_quf, if_pos ⟨by assumption, by assumption⟩]) | (rw [t_quf, if_neg (fun z => absurd z.2 (by assumption))]) | (rw [t_quf, if_neg (fun z => absurd z.1 (by assumption))])
        refine ih_2 (by omega) ls ?_
        show lv_has ls 6 [(0, .ref (ad 3)), (1, .ref (ad 6)), (2, .ref (ad 11)), (3, .int (nI q)), (4, .int (nI (t_quf T q (k + 1)))), (5, .int (nI (k + 1)))]
        rw [e_9]
        exact lv_sub hl [1, 2, 3, 4, 5, 0] rfl
      · refine lv_aload_n hx hb dL_quality_42 rfl (lv_at hl 1 rfl) ?_
        refine lv_iload hx hb dL_quality_43 (lv_at hl 5 rfl) ?_
        refine a_iald (f := 6) (n := 60) hx hb hK hP rfl (by omega) (by decide) dL_quality_45 ?_
        refine lv_bipush (v := nI 6) hx hb dL_quality_46 (by decide) ?_
        refine lv_ishr hx hb dL_quality_48 ?_
        rw [show (nI (T 6 k)) >>> ((nI 6) &&& 31) = nI ((T 6 k) / 64) from n_shrK (by have f1 : T 6 k ≤ 8191 := hT.1 6 k; omega) (by decide) rfl]
        refine lv_istore (lv' := [(4, .int (nI ((T 6 k) / 64))), (0, .ref (ad 3)), (1, .ref (ad 6)), (2, .ref (ad 11)), (3, .int (nI q)), (5, .int (nI k))]) hx hb dL_quality_49 hl (by decide) rfl (fun ls hl => ?_)
        refine n_iinc (k := 5) (lv' := [(5, .int (nI (k + 1))), (4, .int (nI ((T 6 k) / 64))), (0, .ref (ad 3)), (1, .ref (ad 6)), (2, .ref (ad 11)), (3, .int (nI q))]) hx hb dL_quality_51 hl rfl (by decide) rfl (fun ls hl => ?_)
        refine lv_goto (tgt := 11) hx hb dL_quality_54 (by decide) ?_
        have e_10 : t_quf T q (k + 1) = (T 6 k) / 64 := by first | (rw [t_quf, if_pos ⟨by assumption, by assumption⟩]) | (rw [t_quf, if_neg (fun z => absurd z.2 (by assumption))]) | (rw [t_quf, if_neg (fun z => absurd z.1 (by assumption))])
        refine ih_2 (by omega) ls ?_
        show lv_has ls 6 [(0, .ref (ad 3)), (1, .ref (ad 6)), (2, .ref (ad 11)), (3, .int (nI q)), (4, .int (nI (t_quf T q (k + 1)))), (5, .int (nI (k + 1)))]
        rw [e_10]
        exact lv_sub hl [2, 3, 4, 5, 1, 0] rfl
set_option maxHeartbeats 4000000 in
set_option maxRecDepth 100000 in
theorem ch_price (l : Launch) (D : va_G) (ad : Nat → Nat) (cI : ClassId) (T : MS) (hT : LT T) (q : Nat) (hq : q < 16) : Met l yL_price wsL_price ({ frames := 0, cells := 0, slots := 0, locals := 0 }) (va_Pc [.ref (ad 3), .int (nI q)] (aB D ad cI T)) (vp_Si (fun r => r = nI (t_pr T q))) 0 0 (fun _ => False) := by
  refine Met.ofW (cc := cL_price) (maxL := 2) (ret := (some .int)) (by decide) rfl ?_
  intro p e s m args below meth c s₁ B hml hv
  obtain ⟨rfl, hP, hK⟩ := hv
  have hx := B.exec
  have hb := B.bytes
  have hr := B.returns
  have hts := atoms_spec (ws := wsL_price) B.pre
  have hown : s.vm.findClass RL = some m.cls := findClass_of_methodNamed B.named
  have hlocks := B.notSynchronized
  have hl := lv_entry ([.ref (ad 3), .int (nI q)]) (n := 2) (Nat.le_of_ble_eq_true rfl)
  rw [lg_entry_eq]
  generalize (lg_sl ([.ref (ad 3), .int (nI q)]) ++ List.replicate (2 - (lg_sl ([.ref (ad 3), .int (nI q)])).length) Slot.unset).toArray = ls at hl ⊢
  have hl : lv_has ls 2 [(0, .ref (ad 3)), (1, .int (nI q))] := hl
  refine lv_aload_n hx hb dL_price_0 rfl (lv_at hl 0 rfl) ?_
  refine lv_iload_n hx hb dL_price_1 rfl (lv_at hl 1 rfl) ?_
  refine a_iald (f := 3) (n := 16) hx hb hK hP rfl (by omega) (by decide) dL_price_2 ?_
  refine lv_ldc (v := nI 1048575) hx hb hown (hts (.constant RL 112 (1048575)) (List.mem_of_getElem? (i := 1) rfl)) dL_price_3 ?_
  refine lv_iand hx hb dL_price_5 ?_
  rw [show (nI (T 3 q)) &&& (nI 1048575) = nI ((T 3 q) % 1048576) from n_andK (k := 20) (by have f1 : T 3 q ≤ 134217727 := hT.1 3 q; omega) (by decide) (by decide) rfl]
  exact W.iret (v := nI ((T 3 q) % 1048576)) hx hb hr (fun U9 ht hW => ⟨_, rfl, congrArg nI (show (T 3 q) % 1048576 = t_pr T q from by rfl), ht⟩) (fun _ h => by cases h) dL_price_6
set_option maxHeartbeats 4000000 in
set_option maxRecDepth 100000 in
theorem ch_points (l : Launch) (D : va_G) (ad : Nat → Nat) (cI : ClassId) (T : MS) (hT : LT T) (q : Nat) (hq : q < 16) (hp : 0 < t_pr T q) (hw : t_we T (q / 8) ≤ 100) : Met l yL_points wsL_points ({ frames := 2, cells := 0, slots := 0, locals := 49 }) (va_Pc [.ref (ad 1), .ref (ad 3), .ref (ad 5), .ref (ad 6), .ref (ad 11), .int (nI q)] (aB D ad cI T)) (vp_Si (fun r => r = nI (t_po T q))) 0 0 (fun _ => False) := by
  refine Met.ofW (cc := cL_points) (maxL := 9) (ret := (some .int)) (by decide) rfl ?_
  intro p e s m args below meth c s₁ B hml hv
  obtain ⟨rfl, hP, hK⟩ := hv
  have hx := B.exec
  have hb := B.bytes
  have hr := B.returns
  have hts := atoms_spec (ws := wsL_points) B.pre
  have hown : s.vm.findClass RL = some m.cls := findClass_of_methodNamed B.named
  have hlocks := B.notSynchronized
  have hl := lv_entry ([.ref (ad 1), .ref (ad 3), .ref (ad 5), .ref (ad 6), .ref (ad 11), .int (nI q)]) (n := 9) (Nat.le_of_ble_eq_true rfl)
  rw [lg_entry_eq]
  generalize (lg_sl ([.ref (ad 1), .ref (ad 3), .ref (ad 5), .ref (ad 6), .ref (ad 11), .int (nI q)]) ++ List.replicate (9 - (lg_sl ([.ref (ad 1), .ref (ad 3), .ref (ad 5), .ref (ad 6), .ref (ad 11), .int (nI q)])).length) Slot.unset).toArray = ls at hl ⊢
  have hl : lv_has ls 9 [(0, .ref (ad 1)), (1, .ref (ad 3)), (2, .ref (ad 5)), (3, .ref (ad 6)), (4, .ref (ad 11)), (5, .int (nI q))] := hl
  refine lv_ldc (v := nI 1048576) hx hb hown (hts (.constant RL 113 (1048576)) (List.mem_of_getElem? (i := 1) rfl)) dL_points_0 ?_
  refine lv_istore (lv' := [(6, .int (nI 1048576)), (0, .ref (ad 1)), (1, .ref (ad 3)), (2, .ref (ad 5)), (3, .ref (ad 6)), (4, .ref (ad 11)), (5, .int (nI q))]) hx hb dL_points_2 hl (by decide) rfl (fun ls hl => ?_)
  refine lv_iload hx hb dL_points_4 (lv_at hl 6 rfl) ?_
  refine lv_iconst (v := nI 4) hx hb dL_points_6 (by decide) ?_
  refine n_idiv hx hb dL_points_7 (z := q / 4) (by omega) (by decide) (by decide) rfl ?_
  refine lv_iconst (v := nI 4) hx hb dL_points_8 (by decide) ?_
  refine n_imul hx hb dL_points_9 (z := (q / 4) * 4) rfl ?_
  refine lv_istore (lv' := [(7, .int (nI ((q / 4) * 4))), (6, .int (nI 1048576)), (0, .ref (ad 1)), (1, .ref (ad 3)), (2, .ref (ad 5)), (3, .ref (ad 6)), (4, .ref (ad 11)), (5, .int (nI q))]) hx hb dL_points_10 hl (by decide) rfl (fun ls hl => ?_)
  have eI_1 : t_lsf T q 0 = 1048576 := by rfl
  have eI_2 : q / 4 * 4 + 0 = (q / 4) * 4 := by omega
  refine w_loop (e := 4) (nL := 9) (fun k => [(0, .ref (ad 1)), (1, .ref (ad 3)), (2, .ref (ad 5)), (3, .ref (ad 6)), (4, .ref (ad 11)), (5, .int (nI q)), (6, .int (nI (t_lsf T q k))), (7, .int (nI (q / 4 * 4 + k)))]) (fun k hb_4 ih_3 ls hl => ?_) 0 (by omega) ls (lv_sub hl [2, 3, 4, 5, 6, 7, 1, 0] (by show lv_pick _ _ = [(0, .ref (ad 1)), (1, .ref (ad 3)), (2, .ref (ad 5)), (3, .ref (ad 6)), (4, .ref (ad 11)), (5, .int (nI q)), (6, .int (nI (t_lsf T q 0))), (7, .int (nI (q / 4 * 4 + 0)))]; rw [eI_1, eI_2]; rfl))
  refine lv_iload hx hb dL_points_12 (lv_at hl 7 rfl) ?_
  refine lv_iload hx hb dL_points_14 (lv_at hl 5 rfl) ?_
  refine lv_iconst (v := nI 4) hx hb dL_points_16 (by decide) ?_
  refine n_idiv hx hb dL_points_17 (z := q / 4) (by omega) (by decide) (by decide) rfl ?_
  refine lv_iconst (v := nI 4) hx hb dL_points_18 (by decide) ?_
  refine n_imul hx hb dL_points_19 (z := (q / 4) * 4) rfl ?_
  refine lv_iconst (v := nI 4) hx hb dL_points_20 (by decide) ?_
  refine n_iadd hx hb dL_points_21 (z := ((q / 4) * 4) + 4) rfl ?_
  refine n_icmp_ge (tgt := 64) hx hb dL_points_22 (by decide) (by omega) (by omega) (fun c_6 => ?_) (fun c_6 => ?_)
  · obtain rfl : 4 = k := by omega
    refine lv_aload_n hx hb dL_points_64 rfl (lv_at hl 0 rfl) ?_
    refine lv_iload hx hb dL_points_65 (lv_at hl 5 rfl) ?_
    refine lv_bipush (v := nI 8) hx hb dL_points_67 (by decide) ?_
    refine n_idiv hx hb dL_points_69 (z := q / 8) (by omega) (by decide) (by decide) rfl ?_
    refine a_iald (f := 1) (n := 2) hx hb hK hP rfl (by omega) (by decide) dL_points_70 ?_
    refine lv_bipush (v := nI 16) hx hb dL_points_71 (by decide) ?_
    refine lv_ishr hx hb dL_points_73 ?_
    rw [show (nI (T 1 (q / 8))) >>> ((nI 16) &&& 31) = nI ((T 1 (q / 8)) / 65536) from n_shrK (by have f1 : T 1 (q / 8) ≤ 268435455 := hT.1 1 (q / 8); omega) (by decide) rfl]
    refine lv_bipush (v := nI 127) hx hb dL_points_74 (by decide) ?_
    refine lv_iand hx hb dL_points_76 ?_
    rw [show (nI ((T 1 (q / 8)) / 65536)) &&& (nI 127) = nI (((T 1 (q / 8)) / 65536) % 128) from n_andK (k := 7) (by have f1 : T 1 (q / 8) ≤ 268435455 := hT.1 1 (q / 8); omega) (by decide) (by decide) rfl]
    refine lv_istore (lv' := [(7, .int (nI (((T 1 (q / 8)) / 65536) % 128))), (0, .ref (ad 1)), (1, .ref (ad 3)), (2, .ref (ad 5)), (3, .ref (ad 6)), (4, .ref (ad 11)), (5, .int (nI q)), (6, .int (nI (t_lsf T q 4)))]) hx hb dL_points_77 hl (by decide) rfl (fun ls hl => ?_)
    refine lv_iconst (v := nI 0) hx hb dL_points_79 (by decide) ?_
    refine lv_istore (lv' := [(8, .int (nI 0)), (7, .int (nI (((T 1 (q / 8)) / 65536) % 128))), (0, .ref (ad 1)), (1, .ref (ad 3)), (2, .ref (ad 5)), (3, .ref (ad 6)), (4, .ref (ad 11)), (5, .int (nI q)), (6, .int (nI (t_lsf T q 4)))]) hx hb dL_points_80 hl (by decide) rfl (fun ls hl => ?_)
    have eI_7 : t_we T (q / 8) = ((T 1 (q / 8)) / 65536) % 128 := by rfl
    refine w_meas (nL := 9) (fun x9 => [(0, .ref (ad 1)), (1, .ref (ad 3)), (2, .ref (ad 5)), (3, .ref (ad 6)), (4, .ref (ad 11)), (5, .int (nI q)), (6, .int (nI (t_lsf T q 4))), (7, .int (nI (t_we T (q / 8)))), (8, .int (nI x9))]) (fun x9 => x9 * t_pr T q ≤ t_lsf T q 4 * 1000) (fun x9 => t_lsf T q 4 * 1000 - x9) (fun x9 hJ_10 ih_8 ls hl => ?_) 0 (by rw [Nat.zero_mul]; exact Nat.zero_le _) ls (lv_sub hl [2, 3, 4, 5, 6, 7, 8, 1, 0] (by show lv_pick _ _ = [(0, .ref (ad 1)), (1, .ref (ad 3)), (2, .ref (ad 5)), (3, .ref (ad 6)), (4, .ref (ad 11)), (5, .int (nI q)), (6, .int (nI (t_lsf T q 4))), (7, .int (nI (t_we T (q / 8)))), (8, .int (nI 0))]; rw [eI_7]; rfl))
    have hm1 : (x9 + 1) * t_pr T q = x9 * t_pr T q + t_pr T q := Nat.succ_mul _ _
    have hm2 : (x9 + 64) * t_pr T q = x9 * t_pr T q + 64 * t_pr T q := Nat.add_mul _ _ _
    have hp9 : t_pr T q < 1048576 := Nat.mod_lt _ (by decide)
    have hl9 := t_lsf_20 (T := T) (q := q) 4
    refine lv_iload hx hb dL_points_82 (lv_at hl 8 rfl) ?_
    refine lv_iconst (v := nI 1) hx hb dL_points_84 (by decide) ?_
    refine n_iadd hx hb dL_points_85 (z := x9 + 1) rfl ?_
    refine lv_aload_n hx hb dL_points_86 rfl (lv_at hl 1 rfl) ?_
    refine lv_iload hx hb dL_points_87 (lv_at hl 5 rfl) ?_
    refine vp_callSi (W.runS (As := [.ref (ad 3), .int (nI q)]) (rest := [.int (nI (x9 + 1))]) ⟨hx, hb, hml, hown, hts⟩ (ch_price l D ad cI T hT q (by omega)) (va_cwS 2 hts gL_points_L_price rfl rfl rfl kd_L_price ⟨Nat.le_of_ble_eq_true rfl, Nat.le_of_ble_eq_true rfl⟩) ⟨aB_blind, a_pre hK hP _⟩ rfl rfl hl.1 rfl (lv_room (Nat.le_of_ble_eq_true rfl)) dL_points_89 ⟨Nat.le_of_ble_eq_true rfl, Nat.le_of_ble_eq_true rfl⟩) (fun r_11 hr_11 => ?_)
    subst hr_11
    refine n_imul hx hb dL_points_92 (z := (x9 + 1) * (t_pr T q)) rfl ?_
    refine lv_iload hx hb dL_points_93 (lv_at hl 6 rfl) ?_
    refine lv_sipush (v := nI 1000) hx hb dL_points_95 (by decide) ?_
    refine n_imul hx hb dL_points_98 (z := (t_lsf T q 4) * 1000) rfl ?_
    refine n_icmp_gt (tgt := 137) hx hb dL_points_99 (by decide) (by have f1 : t_pr T q < 1048576 := Nat.mod_lt _ (by decide); omega) (by have f1 : t_lsf T q 4 ≤ 1048576 := t_lsf_20 4; omega) (fun c_12 => ?_) (fun c_12 => ?_)
    · refine lv_iload hx hb dL_points_137 (lv_at hl 8 rfl) ?_
      refine lv_iload hx hb dL_points_139 (lv_at hl 7 rfl) ?_
      refine n_imul hx hb dL_points_141 (z := x9 * (t_we T (q / 8))) rfl ?_
      refine lv_bipush (v := nI 10) hx hb dL_points_142 (by decide) ?_
      refine lv_aload_n hx hb dL_points_144 rfl (lv_at hl 1 rfl) ?_
      refine lv_aload_n hx hb dL_points_145 rfl (lv_at hl 3 rfl) ?_
      refine lv_aload hx hb dL_points_146 (lv_at hl 4 rfl) ?_
      refine lv_iload hx hb dL_points_148 (lv_at hl 5 rfl) ?_
      refine vp_callSi (W.runS (As := [.ref (ad 3), .ref (ad 6), .ref (ad 11), .int (nI q)]) (rest := [.int (nI 10), .int (nI (x9 * (t_we T (q / 8))))]) ⟨hx, hb, hml, hown, hts⟩ (ch_quality l D ad cI T hT q (by omega)) (va_cwS 4 hts gL_points_L_quality rfl rfl rfl kd_L_quality ⟨Nat.le_of_ble_eq_true rfl, Nat.le_of_ble_eq_true rfl⟩) ⟨aB_blind, a_pre hK hP _⟩ rfl rfl hl.1 rfl (lv_room (Nat.le_of_ble_eq_true rfl)) dL_points_150 ⟨Nat.le_of_ble_eq_true rfl, Nat.le_of_ble_eq_true rfl⟩) (fun r_13 hr_13 => ?_)
      subst hr_13
      refine n_imul hx hb dL_points_153 (z := 10 * (t_qu T q)) rfl ?_
      refine lv_bipush (v := nI 100) hx hb dL_points_154 (by decide) ?_
      refine lv_iload hx hb dL_points_156 (lv_at hl 7 rfl) ?_
      refine n_isub hx hb dL_points_158 (z := 100 - (t_we T (q / 8))) (by have f1 := hw; omega) rfl ?_
      refine n_imul hx hb dL_points_159 (z := (10 * (t_qu T q)) * (100 - (t_we T (q / 8)))) rfl ?_
      refine n_iadd hx hb dL_points_160 (z := (x9 * (t_we T (q / 8))) + ((10 * (t_qu T q)) * (100 - (t_we T (q / 8))))) rfl ?_
      exact W.iret (v := nI ((x9 * (t_we T (q / 8))) + ((10 * (t_qu T q)) * (100 - (t_we T (q / 8)))))) hx hb hr (fun U9 ht hW => ⟨_, rfl, congrArg nI (show (x9 * (t_we T (q / 8))) + ((10 * (t_qu T q)) * (100 - (t_we T (q / 8)))) = t_po T q from by (unfold t_po t_we; rw [show t_lsf T q 4 * 1000 / t_pr T q = x9 from Nat.div_eq_of_lt_le (by assumption) (by assumption)])), ht⟩) (fun _ h => by cases h) dL_points_161
    · refine lv_iload hx hb dL_points_102 (lv_at hl 8 rfl) ?_
      refine lv_iload hx hb dL_points_104 (lv_at hl 8 rfl) ?_
      refine lv_bipush (v := nI 64) hx hb dL_points_106 (by decide) ?_
      refine n_iadd hx hb dL_points_108 (z := x9 + 64) rfl ?_
      refine lv_aload_n hx hb dL_points_109 rfl (lv_at hl 1 rfl) ?_
      refine lv_iload hx hb dL_points_110 (lv_at hl 5 rfl) ?_
      refine vp_callSi (W.runS (As := [.ref (ad 3), .int (nI q)]) (rest := [.int (nI (x9 + 64)), .int (nI x9)]) ⟨hx, hb, hml, hown, hts⟩ (ch_price l D ad cI T hT q (by omega)) (va_cwS 2 hts gL_points_L_price rfl rfl rfl kd_L_price ⟨Nat.le_of_ble_eq_true rfl, Nat.le_of_ble_eq_true rfl⟩) ⟨aB_blind, a_pre hK hP _⟩ rfl rfl hl.1 rfl (lv_room (Nat.le_of_ble_eq_true rfl)) dL_points_112 ⟨Nat.le_of_ble_eq_true rfl, Nat.le_of_ble_eq_true rfl⟩) (fun r_14 hr_14 => ?_)
      subst hr_14
      refine n_imul hx hb dL_points_115 (z := (x9 + 64) * (t_pr T q)) rfl ?_
      refine lv_iload hx hb dL_points_116 (lv_at hl 6 rfl) ?_
      refine lv_sipush (v := nI 1000) hx hb dL_points_118 (by decide) ?_
      refine n_imul hx hb dL_points_121 (z := (t_lsf T q 4) * 1000) rfl ?_
      refine n_icmp_gt (tgt := 130) hx hb dL_points_122 (by decide) (by have f1 : t_pr T q < 1048576 := Nat.mod_lt _ (by decide); omega) (by have f1 : t_lsf T q 4 ≤ 1048576 := t_lsf_20 4; omega) (fun c_15 => ?_) (fun c_15 => ?_)
      · refine lv_iconst (v := nI 1) hx hb dL_points_130 (by decide) ?_
        refine n_iadd hx hb dL_points_131 (z := x9 + 1) rfl ?_
        refine lv_istore (lv' := [(8, .int (nI (x9 + 1))), (0, .ref (ad 1)), (1, .ref (ad 3)), (2, .ref (ad 5)), (3, .ref (ad 6)), (4, .ref (ad 11)), (5, .int (nI q)), (6, .int (nI (t_lsf T q 4))), (7, .int (nI (t_we T (q / 8))))]) hx hb dL_points_132 hl (by decide) rfl (fun ls hl => ?_)
        refine lv_goto (tgt := 82) hx hb dL_points_134 (by decide) ?_
        refine ih_8 (x9 + 1) (by assumption) (by have z1 := Nat.le_mul_of_pos_right x9 hp; have z2 := Nat.succ_mul x9 (t_pr T q); have z4 := Nat.le_mul_of_pos_right (x9 + 1) hp; omega) ls ?_
        show lv_has ls 9 [(0, .ref (ad 1)), (1, .ref (ad 3)), (2, .ref (ad 5)), (3, .ref (ad 6)), (4, .ref (ad 11)), (5, .int (nI q)), (6, .int (nI (t_lsf T q 4))), (7, .int (nI (t_we T (q / 8)))), (8, .int (nI (x9 + 1)))]
        exact lv_sub hl [1, 2, 3, 4, 5, 6, 7, 8, 0] rfl
      · refine lv_bipush (v := nI 64) hx hb dL_points_125 (by decide) ?_
        refine lv_goto (tgt := 131) hx hb dL_points_127 (by decide) ?_
        refine n_iadd hx hb dL_points_131 (z := x9 + 64) rfl ?_
        refine lv_istore (lv' := [(8, .int (nI (x9 + 64))), (0, .ref (ad 1)), (1, .ref (ad 3)), (2, .ref (ad 5)), (3, .ref (ad 6)), (4, .ref (ad 11)), (5, .int (nI q)), (6, .int (nI (t_lsf T q 4))), (7, .int (nI (t_we T (q / 8))))]) hx hb dL_points_132 hl (by decide) rfl (fun ls hl => ?_)
        refine lv_goto (tgt := 82) hx hb dL_points_134 (by decide) ?_
        refine ih_8 (x9 + 64) (by assumption) (by have z1 := Nat.le_mul_of_pos_right x9 hp; have z2 := Nat.succ_mul x9 (t_pr T q); have z4 := Nat.le_mul_of_pos_right (x9 + 1) hp; omega) ls ?_
        show lv_has ls 9 [(0, .ref (ad 1)), (1, .ref (ad 3)), (2, .ref (ad 5)), (3, .ref (ad 6)), (4, .ref (ad 11)), (5, .int (nI q)), (6, .int (nI (t_lsf T q 4))), (7, .int (nI (t_we T (q / 8)))), (8, .int (nI (x9 + 64)))]
        exact lv_sub hl [1, 2, 3, 4, 5, 6, 7, 8, 0] rfl
  · refine lv_aload_n hx hb dL_points_25 rfl (lv_at hl 0 rfl) ?_
    refine lv_aload_n hx hb dL_points_26 rfl (lv_at hl 1 rfl) ?_
    refine lv_aload_n hx hb dL_points_27 rfl (lv_at hl 2 rfl) ?_
    refine lv_aload_n hx hb dL_points_28 rfl (lv_at hl 3 rfl) ?_
    refine lv_aload hx hb dL_points_29 (lv_at hl 4 rfl) ?_
    refine lv_iload hx hb dL_points_31 (lv_at hl 7 rfl) ?_
    refine vp_callSi (W.runS (As := [.ref (ad 1), .ref (ad 3), .ref (ad 5), .ref (ad 6), .ref (ad 11), .int (nI (q / 4 * 4 + k))]) (rest := []) ⟨hx, hb, hml, hown, hts⟩ (ch_takes l D ad cI T hT (q / 4 * 4 + k) (by omega)) (va_cwS 6 hts gL_points_L_takes rfl rfl rfl kd_L_takes ⟨Nat.le_of_ble_eq_true rfl, Nat.le_of_ble_eq_true rfl⟩) ⟨aB_blind, a_pre hK hP _⟩ rfl rfl hl.1 rfl (lv_room (Nat.le_of_ble_eq_true rfl)) dL_points_33 ⟨Nat.le_of_ble_eq_true rfl, Nat.le_of_ble_eq_true rfl⟩) (fun r_16 hr_16 => ?_)
    subst hr_16
    refine b_if_eq (tgt := 58) hx hb dL_points_36 (by decide)  (fun c_17 => ?_) (fun c_17 => ?_)
    · refine n_iinc (k := 7) (lv' := [(7, .int (nI (q / 4 * 4 + k + 1))), (0, .ref (ad 1)), (1, .ref (ad 3)), (2, .ref (ad 5)), (3, .ref (ad 6)), (4, .ref (ad 11)), (5, .int (nI q)), (6, .int (nI (t_lsf T q k)))]) hx hb dL_points_58 hl rfl (by decide) rfl (fun ls hl => ?_)
      refine lv_goto (tgt := 12) hx hb dL_points_61 (by decide) ?_
      have e_18 : t_lsf T q (k + 1) = t_lsf T q k := by first | (rw [t_lsf, if_pos ⟨by assumption, by assumption⟩]) | (rw [t_lsf, if_neg (fun z => absurd z.2 (by omega))]) | (rw [t_lsf, if_neg (fun z => by simp_all)])
      have e_19 : q / 4 * 4 + (k + 1) = q / 4 * 4 + k + 1 := by omega
      refine ih_3 (by omega) ls ?_
      show lv_has ls 9 [(0, .ref (ad 1)), (1, .ref (ad 3)), (2, .ref (ad 5)), (3, .ref (ad 6)), (4, .ref (ad 11)), (5, .int (nI q)), (6, .int (nI (t_lsf T q (k + 1)))), (7, .int (nI (q / 4 * 4 + (k + 1))))]
      rw [e_18, e_19]
      exact lv_sub hl [1, 2, 3, 4, 5, 6, 7, 0] rfl
    · refine lv_aload_n hx hb dL_points_39 rfl (lv_at hl 1 rfl) ?_
      refine lv_iload hx hb dL_points_40 (lv_at hl 7 rfl) ?_
      refine vp_callSi (W.runS (As := [.ref (ad 3), .int (nI (q / 4 * 4 + k))]) (rest := []) ⟨hx, hb, hml, hown, hts⟩ (ch_price l D ad cI T hT (q / 4 * 4 + k) (by omega)) (va_cwS 2 hts gL_points_L_price rfl rfl rfl kd_L_price ⟨Nat.le_of_ble_eq_true rfl, Nat.le_of_ble_eq_true rfl⟩) ⟨aB_blind, a_pre hK hP _⟩ rfl rfl hl.1 rfl (lv_room (Nat.le_of_ble_eq_true rfl)) dL_points_42 ⟨Nat.le_of_ble_eq_true rfl, Nat.le_of_ble_eq_true rfl⟩) (fun r_20 hr_20 => ?_)
      subst hr_20
      refine lv_iload hx hb dL_points_45 (lv_at hl 6 rfl) ?_
      refine n_icmp_ge (tgt := 58) hx hb dL_points_47 (by decide) (by have f1 : t_pr T (q / 4 * 4 + k) < 1048576 := Nat.mod_lt _ (by decide); omega) (by have f1 : t_lsf T q k ≤ 1048576 := t_lsf_20 k; omega) (fun c_21 => ?_) (fun c_21 => ?_)
      · refine n_iinc (k := 7) (lv' := [(7, .int (nI (q / 4 * 4 + k + 1))), (0, .ref (ad 1)), (1, .ref (ad 3)), (2, .ref (ad 5)), (3, .ref (ad 6)), (4, .ref (ad 11)), (5, .int (nI q)), (6, .int (nI (t_lsf T q k)))]) hx hb dL_points_58 hl rfl (by decide) rfl (fun ls hl => ?_)
        refine lv_goto (tgt := 12) hx hb dL_points_61 (by decide) ?_
        have e_22 : t_lsf T q (k + 1) = t_lsf T q k := by first | (rw [t_lsf, if_pos ⟨by assumption, by assumption⟩]) | (rw [t_lsf, if_neg (fun z => absurd z.2 (by omega))]) | (rw [t_lsf, if_neg (fun z => by simp_all)])
        have e_23 : q / 4 * 4 + (k + 1) = q / 4 * 4 + k + 1 := by omega
        refine ih_3 (by omega) ls ?_
        show lv_has ls 9 [(0, .ref (ad 1)), (1, .ref (ad 3)), (2, .ref (ad 5)), (3, .ref (ad 6)), (4, .ref (ad 11)), (5, .int (nI q)), (6, .int (nI (t_lsf T q (k + 1)))), (7, .int (nI (q / 4 * 4 + (k + 1))))]
        rw [e_22, e_23]
        exact lv_sub hl [1, 2, 3, 4, 5, 6, 7, 0] rfl
      · refine lv_aload_n hx hb dL_points_50 rfl (lv_at hl 1 rfl) ?_
        refine lv_iload hx hb dL_points_51 (lv_at hl 7 rfl) ?_
        refine vp_callSi (W.runS (As := [.ref (ad 3), .int (nI (q / 4 * 4 + k))]) (rest := []) ⟨hx, hb, hml, hown, hts⟩ (ch_price l D ad cI T hT (q / 4 * 4 + k) (by omega)) (va_cwS 2 hts gL_points_L_price rfl rfl rfl kd_L_price ⟨Nat.le_of_ble_eq_true rfl, Nat.le_of_ble_eq_true rfl⟩) ⟨aB_blind, a_pre hK hP _⟩ rfl rfl hl.1 rfl (lv_room (Nat.le_of_ble_eq_true rfl)) dL_points_53 ⟨Nat.le_of_ble_eq_true rfl, Nat.le_of_ble_eq_true rfl⟩) (fun r_24 hr_24 => ?_)
        subst hr_24
        refine lv_istore (lv' := [(6, .int (nI (t_pr T (q / 4 * 4 + k)))), (0, .ref (ad 1)), (1, .ref (ad 3)), (2, .ref (ad 5)), (3, .ref (ad 6)), (4, .ref (ad 11)), (5, .int (nI q)), (7, .int (nI (q / 4 * 4 + k)))]) hx hb dL_points_56 hl (by decide) rfl (fun ls hl => ?_)
        refine n_iinc (k := 7) (lv' := [(7, .int (nI (q / 4 * 4 + k + 1))), (6, .int (nI (t_pr T (q / 4 * 4 + k)))), (0, .ref (ad 1)), (1, .ref (ad 3)), (2, .ref (ad 5)), (3, .ref (ad 6)), (4, .ref (ad 11)), (5, .int (nI q))]) hx hb dL_points_58 hl rfl (by decide) rfl (fun ls hl => ?_)
        refine lv_goto (tgt := 12) hx hb dL_points_61 (by decide) ?_
        have e_25 : t_lsf T q (k + 1) = t_pr T (q / 4 * 4 + k) := by first | (rw [t_lsf, if_pos ⟨by assumption, by assumption⟩]) | (rw [t_lsf, if_neg (fun z => absurd z.2 (by omega))]) | (rw [t_lsf, if_neg (fun z => by simp_all)])
        have e_26 : q / 4 * 4 + (k + 1) = q / 4 * 4 + k + 1 := by omega
        refine ih_3 (by omega) ls ?_
        show lv_has ls 9 [(0, .ref (ad 1)), (1, .ref (ad 3)), (2, .ref (ad 5)), (3, .ref (ad 6)), (4, .ref (ad 11)), (5, .int (nI q)), (6, .int (nI (t_lsf T q (k + 1)))), (7, .int (nI (q / 4 * 4 + (k + 1))))]
        rw [e_25, e_26]
        exact lv_sub hl [2, 3, 4, 5, 6, 7, 1, 0] rfl
set_option maxHeartbeats 4000000 in
set_option maxRecDepth 100000 in
theorem ch_bidOf (l : Launch) (D : va_G) (ad : Nat → Nat) (cI : ClassId) (T : MS) (hT : LT T) (a : Nat) (ha : a < 32) : Met l yL_bidOf wsL_bidOf ({ frames := 0, cells := 0, slots := 0, locals := 0 }) (va_Pc [.ref (ad 7), .int (nI a)] (aB D ad cI T)) (vp_Si (fun r => r = nI (t_bo T a))) 0 0 (fun _ => False) := by
  refine Met.ofW (cc := cL_bidOf) (maxL := 2) (ret := (some .int)) (by decide) rfl ?_
  intro p e s m args below meth c s₁ B hml hv
  obtain ⟨rfl, hP, hK⟩ := hv
  have hx := B.exec
  have hb := B.bytes
  have hr := B.returns
  have hts := atoms_spec (ws := wsL_bidOf) B.pre
  have hown : s.vm.findClass RL = some m.cls := findClass_of_methodNamed B.named
  have hlocks := B.notSynchronized
  have hl := lv_entry ([.ref (ad 7), .int (nI a)]) (n := 2) (Nat.le_of_ble_eq_true rfl)
  rw [lg_entry_eq]
  generalize (lg_sl ([.ref (ad 7), .int (nI a)]) ++ List.replicate (2 - (lg_sl ([.ref (ad 7), .int (nI a)])).length) Slot.unset).toArray = ls at hl ⊢
  have hl : lv_has ls 2 [(0, .ref (ad 7)), (1, .int (nI a))] := hl
  refine lv_iconst (v := nI 4) hx hb dL_bidOf_0 (by decide) ?_
  refine lv_aload_n hx hb dL_bidOf_1 rfl (lv_at hl 0 rfl) ?_
  refine lv_iload_n hx hb dL_bidOf_2 rfl (lv_at hl 1 rfl) ?_
  refine a_iald (f := 7) (n := 32) hx hb hK hP rfl (by omega) (by decide) dL_bidOf_3 ?_
  refine lv_iconst (v := nI 3) hx hb dL_bidOf_4 (by decide) ?_
  refine lv_iand hx hb dL_bidOf_5 ?_
  rw [show (nI (T 7 a)) &&& (nI 3) = nI ((T 7 a) % 4) from n_andK (k := 2) (by have f1 : T 7 a ≤ 16777215 := hT.1 7 a; omega) (by decide) (by decide) rfl]
  refine n_imul hx hb dL_bidOf_6 (z := 4 * ((T 7 a) % 4)) rfl ?_
  refine lv_aload_n hx hb dL_bidOf_7 rfl (lv_at hl 0 rfl) ?_
  refine lv_iload_n hx hb dL_bidOf_8 rfl (lv_at hl 1 rfl) ?_
  refine a_iald (f := 7) (n := 32) hx hb hK hP rfl (by omega) (by decide) dL_bidOf_9 ?_
  refine lv_iconst (v := nI 2) hx hb dL_bidOf_10 (by decide) ?_
  refine lv_ishr hx hb dL_bidOf_11 ?_
  rw [show (nI (T 7 a)) >>> ((nI 2) &&& 31) = nI ((T 7 a) / 4) from n_shrK (by have f1 : T 7 a ≤ 16777215 := hT.1 7 a; omega) (by decide) rfl]
  refine lv_iconst (v := nI 3) hx hb dL_bidOf_12 (by decide) ?_
  refine lv_iand hx hb dL_bidOf_13 ?_
  rw [show (nI ((T 7 a) / 4)) &&& (nI 3) = nI (((T 7 a) / 4) % 4) from n_andK (k := 2) (by have f1 : T 7 a ≤ 16777215 := hT.1 7 a; omega) (by decide) (by decide) rfl]
  refine n_iadd hx hb dL_bidOf_14 (z := (4 * ((T 7 a) % 4)) + (((T 7 a) / 4) % 4)) rfl ?_
  exact W.iret (v := nI ((4 * ((T 7 a) % 4)) + (((T 7 a) / 4) % 4))) hx hb hr (fun U9 ht hW => ⟨_, rfl, congrArg nI (show (4 * ((T 7 a) % 4)) + (((T 7 a) / 4) % 4) = t_bo T a from by rfl), ht⟩) (fun _ h => by cases h) dL_bidOf_15
set_option maxHeartbeats 4000000 in
set_option maxRecDepth 100000 in
theorem ch_openOnes (l : Launch) (D : va_G) (ad : Nat → Nat) (cI : ClassId) (T : MS) (hT : LT T) (a : Nat) (ha : a < 64) : Met l yL_openOnes wsL_openOnes ({ frames := 0, cells := 0, slots := 0, locals := 0 }) (va_Pc [.ref (ad 8), .ref (ad 11), .int (nI a)] (aB D ad cI T)) (vp_Si (fun r => r = nI (t_oo T a))) 0 0 (fun _ => False) := by
  refine Met.ofW (cc := cL_openOnes) (maxL := 5) (ret := (some .int)) (by decide) rfl ?_
  intro p e s m args below meth c s₁ B hml hv
  obtain ⟨rfl, hP, hK⟩ := hv
  have hx := B.exec
  have hb := B.bytes
  have hr := B.returns
  have hts := atoms_spec (ws := wsL_openOnes) B.pre
  have hown : s.vm.findClass RL = some m.cls := findClass_of_methodNamed B.named
  have hlocks := B.notSynchronized
  have hl := lv_entry ([.ref (ad 8), .ref (ad 11), .int (nI a)]) (n := 5) (Nat.le_of_ble_eq_true rfl)
  rw [lg_entry_eq]
  generalize (lg_sl ([.ref (ad 8), .ref (ad 11), .int (nI a)]) ++ List.replicate (5 - (lg_sl ([.ref (ad 8), .ref (ad 11), .int (nI a)])).length) Slot.unset).toArray = ls at hl ⊢
  have hl : lv_has ls 5 [(0, .ref (ad 8)), (1, .ref (ad 11)), (2, .int (nI a))] := hl
  refine lv_iconst (v := nI 0) hx hb dL_openOnes_0 (by decide) ?_
  refine lv_istore_n (lv' := [(3, .int (nI 0)), (0, .ref (ad 8)), (1, .ref (ad 11)), (2, .int (nI a))]) hx hb dL_openOnes_1 rfl hl (by decide) rfl (fun ls hl => ?_)
  refine lv_iconst (v := nI 0) hx hb dL_openOnes_2 (by decide) ?_
  refine lv_istore (lv' := [(4, .int (nI 0)), (3, .int (nI 0)), (0, .ref (ad 8)), (1, .ref (ad 11)), (2, .int (nI a))]) hx hb dL_openOnes_3 hl (by decide) rfl (fun ls hl => ?_)
  have eI_1 : t_oof T a 0 = 0 := by rfl
  refine w_loop (e := T 11 5) (nL := 5) (fun k => [(0, .ref (ad 8)), (1, .ref (ad 11)), (2, .int (nI a)), (3, .int (nI (t_oof T a k))), (4, .int (nI k))]) (fun k hb_3 ih_2 ls hl => ?_) 0 (by omega) ls (lv_sub hl [2, 3, 4, 1, 0] (by show lv_pick _ _ = [(0, .ref (ad 8)), (1, .ref (ad 11)), (2, .int (nI a)), (3, .int (nI (t_oof T a 0))), (4, .int (nI 0))]; rw [eI_1]; rfl))
  have h60 := hT.2.2.2.2.1
  refine lv_iload hx hb dL_openOnes_5 (lv_at hl 4 rfl) ?_
  refine lv_aload_n hx hb dL_openOnes_7 rfl (lv_at hl 1 rfl) ?_
  refine lv_iconst (v := nI 5) hx hb dL_openOnes_8 (by decide) ?_
  refine a_iald (f := 11) (n := 7) hx hb hK hP rfl (by decide) (by decide) dL_openOnes_9 ?_
  refine n_icmp_ge (tgt := 50) hx hb dL_openOnes_10 (by decide) (by omega) (by have f1 : T 11 5 ≤ 2000 := hT.1 11 5; have f2 : T 11 5 ≤ 32 := hT.2.2.2.2.1; omega) (fun c_5 => ?_) (fun c_5 => ?_)
  · obtain rfl : T 11 5 = k := by omega
    refine lv_iload_n hx hb dL_openOnes_50 rfl (lv_at hl 3 rfl) ?_
    exact W.iret (v := nI (t_oof T a (T 11 5))) hx hb hr (fun U9 ht hW => ⟨_, rfl, congrArg nI (show t_oof T a (T 11 5) = t_oo T a from by rfl), ht⟩) (fun _ h => by cases h) dL_openOnes_51
  · refine lv_iload_n hx hb dL_openOnes_13 rfl (lv_at hl 3 rfl) ?_
    refine lv_aload_n hx hb dL_openOnes_14 rfl (lv_at hl 0 rfl) ?_
    refine lv_iload hx hb dL_openOnes_15 (lv_at hl 4 rfl) ?_
    refine a_iald (f := 8) (n := 32) hx hb hK hP rfl (by omega) (by decide) dL_openOnes_17 ?_
    refine lv_bipush (v := nI 31) hx hb dL_openOnes_18 (by decide) ?_
    refine lv_iand hx hb dL_openOnes_20 ?_
    rw [show (nI (T 8 k)) &&& (nI 31) = nI ((T 8 k) % 32) from n_andK (k := 5) (by have f1 : T 8 k ≤ 16777215 := hT.1 8 k; omega) (by decide) (by decide) rfl]
    refine lv_iload_n hx hb dL_openOnes_21 rfl (lv_at hl 2 rfl) ?_
    refine n_icmp_ne (tgt := 41) hx hb dL_openOnes_22 (by decide) (by have f1 : T 8 k ≤ 16777215 := hT.1 8 k; omega) (by omega) (fun c_6 => ?_) (fun c_6 => ?_)
    · refine lv_iconst (v := nI 0) hx hb dL_openOnes_41 (by decide) ?_
      refine n_iadd hx hb dL_openOnes_42 (z := (t_oof T a k) + 0) rfl ?_
      refine lv_istore_n (lv' := [(3, .int (nI ((t_oof T a k) + 0))), (0, .ref (ad 8)), (1, .ref (ad 11)), (2, .int (nI a)), (4, .int (nI k))]) hx hb dL_openOnes_43 rfl hl (by decide) rfl (fun ls hl => ?_)
      refine n_iinc (k := 4) (lv' := [(4, .int (nI (k + 1))), (3, .int (nI ((t_oof T a k) + 0))), (0, .ref (ad 8)), (1, .ref (ad 11)), (2, .int (nI a))]) hx hb dL_openOnes_44 hl rfl (by decide) rfl (fun ls hl => ?_)
      refine lv_goto (tgt := 5) hx hb dL_openOnes_47 (by decide) ?_
      have e_7 : t_oof T a (k + 1) = (t_oof T a k) + 0 := by first | (rw [t_oof, if_pos ⟨by assumption, by assumption⟩]) | (rw [t_oof, if_neg (fun z => absurd z.2 (by assumption))]) | (rw [t_oof, if_neg (fun z => absurd z.1 (by assumption))])
      refine ih_2 (by omega) ls ?_
      show lv_has ls 5 [(0, .ref (ad 8)), (1, .ref (ad 11)), (2, .int (nI a)), (3, .int (nI (t_oof T a (k + 1)))), (4, .int (nI (k + 1)))]
      rw [e_7]
      exact lv_sub hl [2, 3, 4, 1, 0] rfl
    · refine lv_aload_n hx hb dL_openOnes_25 rfl (lv_at hl 0 rfl) ?_
      refine lv_iload hx hb dL_openOnes_26 (lv_at hl 4 rfl) ?_
      refine a_iald (f := 8) (n := 32) hx hb hK hP rfl (by omega) (by decide) dL_openOnes_28 ?_
      refine lv_bipush (v := nI 9) hx hb dL_openOnes_29 (by decide) ?_
      refine lv_ishr hx hb dL_openOnes_31 ?_
      rw [show (nI (T 8 k)) >>> ((nI 9) &&& 31) = nI ((T 8 k) / 512) from n_shrK (by have f1 : T 8 k ≤ 16777215 := hT.1 8 k; omega) (by decide) rfl]
      refine lv_iconst (v := nI 3) hx hb dL_openOnes_32 (by decide) ?_
      refine lv_iand hx hb dL_openOnes_33 ?_
      rw [show (nI ((T 8 k) / 512)) &&& (nI 3) = nI (((T 8 k) / 512) % 4) from n_andK (k := 2) (by have f1 : T 8 k ≤ 16777215 := hT.1 8 k; omega) (by decide) (by decide) rfl]
      refine n_if_ne (tgt := 41) hx hb dL_openOnes_34 (by decide) (by have f1 : T 8 k ≤ 16777215 := hT.1 8 k; omega) (fun c_8 => ?_) (fun c_8 => ?_)
      · refine lv_iconst (v := nI 0) hx hb dL_openOnes_41 (by decide) ?_
        refine n_iadd hx hb dL_openOnes_42 (z := (t_oof T a k) + 0) rfl ?_
        refine lv_istore_n (lv' := [(3, .int (nI ((t_oof T a k) + 0))), (0, .ref (ad 8)), (1, .ref (ad 11)), (2, .int (nI a)), (4, .int (nI k))]) hx hb dL_openOnes_43 rfl hl (by decide) rfl (fun ls hl => ?_)
        refine n_iinc (k := 4) (lv' := [(4, .int (nI (k + 1))), (3, .int (nI ((t_oof T a k) + 0))), (0, .ref (ad 8)), (1, .ref (ad 11)), (2, .int (nI a))]) hx hb dL_openOnes_44 hl rfl (by decide) rfl (fun ls hl => ?_)
        refine lv_goto (tgt := 5) hx hb dL_openOnes_47 (by decide) ?_
        have e_9 : t_oof T a (k + 1) = (t_oof T a k) + 0 := by first | (rw [t_oof, if_pos ⟨by assumption, by assumption⟩]) | (rw [t_oof, if_neg (fun z => absurd z.2 (by assumption))]) | (rw [t_oof, if_neg (fun z => absurd z.1 (by assumption))])
        refine ih_2 (by omega) ls ?_
        show lv_has ls 5 [(0, .ref (ad 8)), (1, .ref (ad 11)), (2, .int (nI a)), (3, .int (nI (t_oof T a (k + 1)))), (4, .int (nI (k + 1)))]
        rw [e_9]
        exact lv_sub hl [2, 3, 4, 1, 0] rfl
      · refine lv_iconst (v := nI 1) hx hb dL_openOnes_37 (by decide) ?_
        refine lv_goto (tgt := 42) hx hb dL_openOnes_38 (by decide) ?_
        refine n_iadd hx hb dL_openOnes_42 (z := (t_oof T a k) + 1) rfl ?_
        refine lv_istore_n (lv' := [(3, .int (nI ((t_oof T a k) + 1))), (0, .ref (ad 8)), (1, .ref (ad 11)), (2, .int (nI a)), (4, .int (nI k))]) hx hb dL_openOnes_43 rfl hl (by decide) rfl (fun ls hl => ?_)
        refine n_iinc (k := 4) (lv' := [(4, .int (nI (k + 1))), (3, .int (nI ((t_oof T a k) + 1))), (0, .ref (ad 8)), (1, .ref (ad 11)), (2, .int (nI a))]) hx hb dL_openOnes_44 hl rfl (by decide) rfl (fun ls hl => ?_)
        refine lv_goto (tgt := 5) hx hb dL_openOnes_47 (by decide) ?_
        have e_10 : t_oof T a (k + 1) = (t_oof T a k) + 1 := by first | (rw [t_oof, if_pos ⟨by assumption, by assumption⟩]) | (rw [t_oof, if_neg (fun z => absurd z.2 (by assumption))]) | (rw [t_oof, if_neg (fun z => absurd z.1 (by assumption))])
        refine ih_2 (by omega) ls ?_
        show lv_has ls 5 [(0, .ref (ad 8)), (1, .ref (ad 11)), (2, .int (nI a)), (3, .int (nI (t_oof T a (k + 1)))), (4, .int (nI (k + 1)))]
        rw [e_10]
        exact lv_sub hl [2, 3, 4, 1, 0] rfl
set_option maxHeartbeats 4000000 in
set_option maxRecDepth 100000 in
theorem ch_gone (l : Launch) (D : va_G) (ad : Nat → Nat) (cI : ClassId) (T : MS) (hT : LT T) (a : Nat) (ha : a < 32) : Met l yL_gone wsL_gone ({ frames := 0, cells := 0, slots := 0, locals := 0 }) (va_Pc [.ref (ad 7), .int (nI a)] (aB D ad cI T)) (vp_Si (fun r => r = bi (t_gn T a))) 0 0 (fun _ => False) := by
  refine Met.ofW (cc := cL_gone) (maxL := 2) (ret := (some .boolean)) (by decide) rfl ?_
  intro p e s m args below meth c s₁ B hml hv
  obtain ⟨rfl, hP, hK⟩ := hv
  have hx := B.exec
  have hb := B.bytes
  have hr := B.returns
  have hts := atoms_spec (ws := wsL_gone) B.pre
  have hown : s.vm.findClass RL = some m.cls := findClass_of_methodNamed B.named
  have hlocks := B.notSynchronized
  have hl := lv_entry ([.ref (ad 7), .int (nI a)]) (n := 2) (Nat.le_of_ble_eq_true rfl)
  rw [lg_entry_eq]
  generalize (lg_sl ([.ref (ad 7), .int (nI a)]) ++ List.replicate (2 - (lg_sl ([.ref (ad 7), .int (nI a)])).length) Slot.unset).toArray = ls at hl ⊢
  have hl : lv_has ls 2 [(0, .ref (ad 7)), (1, .int (nI a))] := hl
  refine lv_aload_n hx hb dL_gone_0 rfl (lv_at hl 0 rfl) ?_
  refine lv_iload_n hx hb dL_gone_1 rfl (lv_at hl 1 rfl) ?_
  refine a_iald (f := 7) (n := 32) hx hb hK hP rfl (by omega) (by decide) dL_gone_2 ?_
  refine lv_bipush (v := nI 16) hx hb dL_gone_3 (by decide) ?_
  refine lv_ishr hx hb dL_gone_5 ?_
  rw [show (nI (T 7 a)) >>> ((nI 16) &&& 31) = nI ((T 7 a) / 65536) from n_shrK (by have f1 : T 7 a ≤ 16777215 := hT.1 7 a; omega) (by decide) rfl]
  refine lv_iconst (v := nI 1) hx hb dL_gone_6 (by decide) ?_
  refine lv_iand hx hb dL_gone_7 ?_
  rw [show (nI ((T 7 a) / 65536)) &&& (nI 1) = nI (((T 7 a) / 65536) % 2) from n_andK (k := 1) (by have f1 : T 7 a ≤ 16777215 := hT.1 7 a; omega) (by decide) (by decide) rfl]
  refine lv_iconst (v := nI 1) hx hb dL_gone_8 (by decide) ?_
  refine n_icmp_ne (tgt := 16) hx hb dL_gone_9 (by decide) (by have f1 : T 7 a ≤ 16777215 := hT.1 7 a; omega) (by decide) (fun c_1 => ?_) (fun c_1 => ?_)
  · refine lv_iconst (v := nI 0) hx hb dL_gone_16 (by decide) ?_
    exact W.zret (v := nI 0) hx hb hr rfl (fun U9 ht hW => ⟨_, rfl, bi_zero (by first | (simp only [t_gn, decide_eq_true_eq]; assumption) | (simp only [t_gn, decide_eq_false_iff_not]; assumption)), ht⟩) (fun _ h => by cases h) dL_gone_17
  · refine lv_iconst (v := nI 1) hx hb dL_gone_12 (by decide) ?_
    refine lv_goto (tgt := 17) hx hb dL_gone_13 (by decide) ?_
    exact W.zret (v := nI 1) hx hb hr rfl (fun U9 ht hW => ⟨_, rfl, bi_one (by first | (simp only [t_gn, decide_eq_true_eq]; assumption) | (simp only [t_gn, decide_eq_false_iff_not]; assumption)), ht⟩) (fun _ h => by cases h) dL_gone_17
set_option maxHeartbeats 4000000 in
set_option maxRecDepth 100000 in
theorem ch_stands (l : Launch) (D : va_G) (ad : Nat → Nat) (cI : ClassId) (T : MS) (hT : LT T) (a : Nat) (ha : a < 32) : Met l yL_stands wsL_stands ({ frames := 0, cells := 0, slots := 0, locals := 0 }) (va_Pc [.ref (ad 1), .ref (ad 7), .int (nI a)] (aB D ad cI T)) (vp_Si (fun r => r = nI (t_su T a))) 0 0 (fun _ => False) := by
  refine Met.ofW (cc := cL_stands) (maxL := 3) (ret := (some .int)) (by decide) rfl ?_
  intro p e s m args below meth c s₁ B hml hv
  obtain ⟨rfl, hP, hK⟩ := hv
  have hx := B.exec
  have hb := B.bytes
  have hr := B.returns
  have hts := atoms_spec (ws := wsL_stands) B.pre
  have hown : s.vm.findClass RL = some m.cls := findClass_of_methodNamed B.named
  have hlocks := B.notSynchronized
  have hl := lv_entry ([.ref (ad 1), .ref (ad 7), .int (nI a)]) (n := 3) (Nat.le_of_ble_eq_true rfl)
  rw [lg_entry_eq]
  generalize (lg_sl ([.ref (ad 1), .ref (ad 7), .int (nI a)]) ++ List.replicate (3 - (lg_sl ([.ref (ad 1), .ref (ad 7), .int (nI a)])).length) Slot.unset).toArray = ls at hl ⊢
  have hl : lv_has ls 3 [(0, .ref (ad 1)), (1, .ref (ad 7)), (2, .int (nI a))] := hl
  refine lv_aload_n hx hb dL_stands_0 rfl (lv_at hl 1 rfl) ?_
  refine lv_iload_n hx hb dL_stands_1 rfl (lv_at hl 2 rfl) ?_
  refine a_iald (f := 7) (n := 32) hx hb hK hP rfl (by omega) (by decide) dL_stands_2 ?_
  refine lv_iconst (v := nI 4) hx hb dL_stands_3 (by decide) ?_
  refine lv_ishr hx hb dL_stands_4 ?_
  rw [show (nI (T 7 a)) >>> ((nI 4) &&& 31) = nI ((T 7 a) / 16) from n_shrK (by have f1 : T 7 a ≤ 16777215 := hT.1 7 a; omega) (by decide) rfl]
  refine lv_sipush (v := nI 4095) hx hb dL_stands_5 (by decide) ?_
  refine lv_iand hx hb dL_stands_8 ?_
  rw [show (nI ((T 7 a) / 16)) &&& (nI 4095) = nI (((T 7 a) / 16) % 4096) from n_andK (k := 12) (by have f1 : T 7 a ≤ 16777215 := hT.1 7 a; omega) (by decide) (by decide) rfl]
  refine lv_aload_n hx hb dL_stands_9 rfl (lv_at hl 0 rfl) ?_
  refine lv_aload_n hx hb dL_stands_10 rfl (lv_at hl 1 rfl) ?_
  refine lv_iload_n hx hb dL_stands_11 rfl (lv_at hl 2 rfl) ?_
  refine a_iald (f := 7) (n := 32) hx hb hK hP rfl (by omega) (by decide) dL_stands_12 ?_
  refine lv_iconst (v := nI 3) hx hb dL_stands_13 (by decide) ?_
  refine lv_iand hx hb dL_stands_14 ?_
  rw [show (nI (T 7 a)) &&& (nI 3) = nI ((T 7 a) % 4) from n_andK (k := 2) (by have f1 : T 7 a ≤ 16777215 := hT.1 7 a; omega) (by decide) (by decide) rfl]
  refine lv_iconst (v := nI 2) hx hb dL_stands_15 (by decide) ?_
  refine n_idiv hx hb dL_stands_16 (z := ((T 7 a) % 4) / 2) (by have f1 : T 7 a ≤ 16777215 := hT.1 7 a; omega) (by decide) (by decide) rfl ?_
  refine a_iald (f := 1) (n := 2) hx hb hK hP rfl (by have f1 : T 7 a ≤ 16777215 := hT.1 7 a; omega) (by decide) dL_stands_17 ?_
  refine lv_bipush (v := nI 23) hx hb dL_stands_18 (by decide) ?_
  refine lv_ishr hx hb dL_stands_20 ?_
  rw [show (nI (T 1 (((T 7 a) % 4) / 2))) >>> ((nI 23) &&& 31) = nI ((T 1 (((T 7 a) % 4) / 2)) / 8388608) from n_shrK (by have f1 : T 7 a ≤ 16777215 := hT.1 7 a; have f2 : T 1 (((T 7 a) % 4) / 2) ≤ 268435455 := hT.1 1 (((T 7 a) % 4) / 2); omega) (by decide) rfl]
  refine n_iadd hx hb dL_stands_21 (z := (((T 7 a) / 16) % 4096) + ((T 1 (((T 7 a) % 4) / 2)) / 8388608)) rfl ?_
  exact W.iret (v := nI ((((T 7 a) / 16) % 4096) + ((T 1 (((T 7 a) % 4) / 2)) / 8388608))) hx hb hr (fun U9 ht hW => ⟨_, rfl, congrArg nI (show (((T 7 a) / 16) % 4096) + ((T 1 (((T 7 a) % 4) / 2)) / 8388608) = t_su T a from by rfl), ht⟩) (fun _ h => by cases h) dL_stands_22
set_option maxHeartbeats 4000000 in
set_option maxRecDepth 100000 in
theorem ch_settled (l : Launch) (D : va_G) (ad : Nat → Nat) (cI : ClassId) (T : MS) (hT : LT T) (a : Nat) (ha : a < 32) : Met l yL_settled wsL_settled ({ frames := 1, cells := 0, slots := 0, locals := 24 }) (va_Pc [.ref (ad 1), .ref (ad 7), .ref (ad 8), .ref (ad 11), .int (nI a)] (aB D ad cI T)) (vp_Si (fun r => r = bi (t_se T a))) 0 0 (fun _ => False) := by
  refine Met.ofW (cc := cL_settled) (maxL := 5) (ret := (some .boolean)) (by decide) rfl ?_
  intro p e s m args below meth c s₁ B hml hv
  obtain ⟨rfl, hP, hK⟩ := hv
  have hx := B.exec
  have hb := B.bytes
  have hr := B.returns
  have hts := atoms_spec (ws := wsL_settled) B.pre
  have hown : s.vm.findClass RL = some m.cls := findClass_of_methodNamed B.named
  have hlocks := B.notSynchronized
  have hl := lv_entry ([.ref (ad 1), .ref (ad 7), .ref (ad 8), .ref (ad 11), .int (nI a)]) (n := 5) (Nat.le_of_ble_eq_true rfl)
  rw [lg_entry_eq]
  generalize (lg_sl ([.ref (ad 1), .ref (ad 7), .ref (ad 8), .ref (ad 11), .int (nI a)]) ++ List.replicate (5 - (lg_sl ([.ref (ad 1), .ref (ad 7), .ref (ad 8), .ref (ad 11), .int (nI a)])).length) Slot.unset).toArray = ls at hl ⊢
  have hl : lv_has ls 5 [(0, .ref (ad 1)), (1, .ref (ad 7)), (2, .ref (ad 8)), (3, .ref (ad 11)), (4, .int (nI a))] := hl
  refine lv_aload_n hx hb dL_settled_0 rfl (lv_at hl 1 rfl) ?_
  refine lv_iload hx hb dL_settled_1 (lv_at hl 4 rfl) ?_
  refine vp_callSi (W.runS (As := [.ref (ad 7), .int (nI a)]) (rest := []) ⟨hx, hb, hml, hown, hts⟩ (ch_gone l D ad cI T hT a (by omega)) (va_cwS 2 hts gL_settled_L_gone rfl rfl rfl kd_L_gone ⟨Nat.le_of_ble_eq_true rfl, Nat.le_of_ble_eq_true rfl⟩) ⟨aB_blind, a_pre hK hP _⟩ rfl rfl hl.1 rfl (lv_room (Nat.le_of_ble_eq_true rfl)) dL_settled_3 ⟨Nat.le_of_ble_eq_true rfl, Nat.le_of_ble_eq_true rfl⟩) (fun r_1 hr_1 => ?_)
  subst hr_1
  refine b_if_ne (tgt := 36) hx hb dL_settled_6 (by decide)  (fun c_2 => ?_) (fun c_2 => ?_)
  · refine lv_iconst (v := nI 0) hx hb dL_settled_36 (by decide) ?_
    exact W.zret (v := nI 0) hx hb hr rfl (fun U9 ht hW => ⟨_, rfl, bi_zero (by first | (simp [t_se, c_2]; done) | (simp [t_se, c_2]; omega)), ht⟩) (fun _ h => by cases h) dL_settled_37
  · refine lv_aload_n hx hb dL_settled_9 rfl (lv_at hl 2 rfl) ?_
    refine lv_aload_n hx hb dL_settled_10 rfl (lv_at hl 3 rfl) ?_
    refine lv_iload hx hb dL_settled_11 (lv_at hl 4 rfl) ?_
    refine vp_callSi (W.runS (As := [.ref (ad 8), .ref (ad 11), .int (nI a)]) (rest := []) ⟨hx, hb, hml, hown, hts⟩ (ch_openOnes l D ad cI T hT a (by omega)) (va_cwS 3 hts gL_settled_L_openOnes rfl rfl rfl kd_L_openOnes ⟨Nat.le_of_ble_eq_true rfl, Nat.le_of_ble_eq_true rfl⟩) ⟨aB_blind, a_pre hK hP _⟩ rfl rfl hl.1 rfl (lv_room (Nat.le_of_ble_eq_true rfl)) dL_settled_13 ⟨Nat.le_of_ble_eq_true rfl, Nat.le_of_ble_eq_true rfl⟩) (fun r_3 hr_3 => ?_)
    subst hr_3
    refine n_if_ne (tgt := 36) hx hb dL_settled_16 (by decide) (by have f1 : t_oo T a ≤ T 11 5 := t_oof_le a (T 11 5); have f2 : T 11 5 ≤ 32 := hT.2.2.2.2.1; omega) (fun c_4 => ?_) (fun c_4 => ?_)
    · refine lv_iconst (v := nI 0) hx hb dL_settled_36 (by decide) ?_
      exact W.zret (v := nI 0) hx hb hr rfl (fun U9 ht hW => ⟨_, rfl, bi_zero (by first | (simp [t_se, c_2, c_4]; done) | (simp [t_se, c_2, c_4]; omega)), ht⟩) (fun _ h => by cases h) dL_settled_37
    · refine lv_aload_n hx hb dL_settled_19 rfl (lv_at hl 3 rfl) ?_
      refine lv_iconst (v := nI 0) hx hb dL_settled_20 (by decide) ?_
      refine a_iald (f := 11) (n := 7) hx hb hK hP rfl (by decide) (by decide) dL_settled_21 ?_
      refine lv_aload_n hx hb dL_settled_22 rfl (lv_at hl 0 rfl) ?_
      refine lv_aload_n hx hb dL_settled_23 rfl (lv_at hl 1 rfl) ?_
      refine lv_iload hx hb dL_settled_24 (lv_at hl 4 rfl) ?_
      refine vp_callSi (W.runS (As := [.ref (ad 1), .ref (ad 7), .int (nI a)]) (rest := [.int (nI (T 11 0))]) ⟨hx, hb, hml, hown, hts⟩ (ch_stands l D ad cI T hT a (by omega)) (va_cwS 3 hts gL_settled_L_stands rfl rfl rfl kd_L_stands ⟨Nat.le_of_ble_eq_true rfl, Nat.le_of_ble_eq_true rfl⟩) ⟨aB_blind, a_pre hK hP _⟩ rfl rfl hl.1 rfl (lv_room (Nat.le_of_ble_eq_true rfl)) dL_settled_26 ⟨Nat.le_of_ble_eq_true rfl, Nat.le_of_ble_eq_true rfl⟩) (fun r_5 hr_5 => ?_)
      subst hr_5
      refine n_icmp_lt (tgt := 36) hx hb dL_settled_29 (by decide) (by have f1 : T 11 0 ≤ 2000 := hT.1 11 0; omega) (by have f1 : t_su T a ≤ 4200 := t_su_le hT a; omega) (fun c_6 => ?_) (fun c_6 => ?_)
      · refine lv_iconst (v := nI 0) hx hb dL_settled_36 (by decide) ?_
        exact W.zret (v := nI 0) hx hb hr rfl (fun U9 ht hW => ⟨_, rfl, bi_zero (by first | (simp [t_se, c_2, c_4, c_6]; done) | (simp [t_se, c_2, c_4, c_6]; omega)), ht⟩) (fun _ h => by cases h) dL_settled_37
      · refine lv_iconst (v := nI 1) hx hb dL_settled_32 (by decide) ?_
        refine lv_goto (tgt := 37) hx hb dL_settled_33 (by decide) ?_
        exact W.zret (v := nI 1) hx hb hr rfl (fun U9 ht hW => ⟨_, rfl, bi_one (by first | (simp [t_se, c_2, c_4, c_6]; done) | (simp [t_se, c_2, c_4, c_6]; omega)), ht⟩) (fun _ h => by cases h) dL_settled_37
set_option maxHeartbeats 4000000 in
set_option maxRecDepth 100000 in
theorem ch_standing (l : Launch) (D : va_G) (ad : Nat → Nat) (cI : ClassId) (T : MS) (hT : LT T) (j : Nat) (hj : j < 4) : Met l yL_standing wsL_standing ({ frames := 1, cells := 0, slots := 0, locals := 21 }) (va_Pc [.ref (ad 7), .ref (ad 11), .int (nI j)] (aB D ad cI T)) (vp_Si (fun r => r = optI (t_st T j))) 0 0 (fun _ => False) := by
  refine Met.ofW (cc := cL_standing) (maxL := 4) (ret := (some .int)) (by decide) rfl ?_
  intro p e s m args below meth c s₁ B hml hv
  obtain ⟨rfl, hP, hK⟩ := hv
  have hx := B.exec
  have hb := B.bytes
  have hr := B.returns
  have hts := atoms_spec (ws := wsL_standing) B.pre
  have hown : s.vm.findClass RL = some m.cls := findClass_of_methodNamed B.named
  have hlocks := B.notSynchronized
  have hl := lv_entry ([.ref (ad 7), .ref (ad 11), .int (nI j)]) (n := 4) (Nat.le_of_ble_eq_true rfl)
  rw [lg_entry_eq]
  generalize (lg_sl ([.ref (ad 7), .ref (ad 11), .int (nI j)]) ++ List.replicate (4 - (lg_sl ([.ref (ad 7), .ref (ad 11), .int (nI j)])).length) Slot.unset).toArray = ls at hl ⊢
  have hl : lv_has ls 4 [(0, .ref (ad 7)), (1, .ref (ad 11)), (2, .int (nI j))] := hl
  refine lv_iconst (v := nI 0) hx hb dL_standing_0 (by decide) ?_
  refine lv_istore_n (lv' := [(3, .int (nI 0)), (0, .ref (ad 7)), (1, .ref (ad 11)), (2, .int (nI j))]) hx hb dL_standing_1 rfl hl (by decide) rfl (fun ls hl => ?_)
  refine a_loopJ (n := T 11 4) (nL := 4) (fun k => t_stf T j k = none) (fun k => [(0, .ref (ad 7)), (1, .ref (ad 11)), (2, .int (nI j)), (3, .int (nI k))]) (fun k hb_2 hJ_3 ih_1 ls hl => ?_) 0 (by omega) (by rfl) ls (lv_sub hl [1, 2, 3, 0] rfl)
  have h60 := hT.2.2.2.1
  have hJ0 := hJ_3
  refine lv_iload_n hx hb dL_standing_2 rfl (lv_at hl 3 rfl) ?_
  refine lv_aload_n hx hb dL_standing_3 rfl (lv_at hl 1 rfl) ?_
  refine lv_iconst (v := nI 4) hx hb dL_standing_4 (by decide) ?_
  refine a_iald (f := 11) (n := 7) hx hb hK hP rfl (by decide) (by decide) dL_standing_5 ?_
  refine n_icmp_ge (tgt := 34) hx hb dL_standing_6 (by decide) (by omega) (by have f1 : T 11 4 ≤ 2000 := hT.1 11 4; have f2 : T 11 4 ≤ 32 := hT.2.2.2.1; omega) (fun c_4 => ?_) (fun c_4 => ?_)
  · obtain rfl : T 11 4 = k := by omega
    refine lv_iconst (v := (-1)) hx hb dL_standing_34 (by decide) ?_
    exact W.iret (v := (-1)) hx hb hr (fun U9 ht hW => ⟨_, rfl, (show (-1) = optI (t_st T j) from by (rw [show t_st T j = none from by assumption]; rfl)), ht⟩) (fun _ h => by cases h) dL_standing_35
  · refine lv_aload_n hx hb dL_standing_9 rfl (lv_at hl 0 rfl) ?_
    refine lv_iload_n hx hb dL_standing_10 rfl (lv_at hl 3 rfl) ?_
    refine a_iald (f := 7) (n := 32) hx hb hK hP rfl (by omega) (by decide) dL_standing_11 ?_
    refine lv_iconst (v := nI 3) hx hb dL_standing_12 (by decide) ?_
    refine lv_iand hx hb dL_standing_13 ?_
    rw [show (nI (T 7 k)) &&& (nI 3) = nI ((T 7 k) % 4) from n_andK (k := 2) (by have f1 : T 7 k ≤ 16777215 := hT.1 7 k; omega) (by decide) (by decide) rfl]
    refine lv_iload_n hx hb dL_standing_14 rfl (lv_at hl 2 rfl) ?_
    refine n_icmp_ne (tgt := 28) hx hb dL_standing_15 (by decide) (by have f1 : T 7 k ≤ 16777215 := hT.1 7 k; omega) (by omega) (fun c_5 => ?_) (fun c_5 => ?_)
    · refine n_iinc (k := 3) (lv' := [(3, .int (nI (k + 1))), (0, .ref (ad 7)), (1, .ref (ad 11)), (2, .int (nI j))]) hx hb dL_standing_28 hl rfl (by decide) rfl (fun ls hl => ?_)
      refine lv_goto (tgt := 2) hx hb dL_standing_31 (by decide) ?_
      refine ih_1 (by omega) (by rw [t_stf, hJ_3]; first | exact if_neg (fun z => absurd z.1 (by assumption)) | exact if_neg (fun z => by simp_all)) ls ?_
      show lv_has ls 4 [(0, .ref (ad 7)), (1, .ref (ad 11)), (2, .int (nI j)), (3, .int (nI (k + 1)))]
      exact lv_sub hl [1, 2, 3, 0] rfl
    · refine lv_aload_n hx hb dL_standing_18 rfl (lv_at hl 0 rfl) ?_
      refine lv_iload_n hx hb dL_standing_19 rfl (lv_at hl 3 rfl) ?_
      refine vp_callSi (W.runS (As := [.ref (ad 7), .int (nI k)]) (rest := []) ⟨hx, hb, hml, hown, hts⟩ (ch_gone l D ad cI T hT k (by omega)) (va_cwS 2 hts gL_standing_L_gone rfl rfl rfl kd_L_gone ⟨Nat.le_of_ble_eq_true rfl, Nat.le_of_ble_eq_true rfl⟩) ⟨aB_blind, a_pre hK hP _⟩ rfl rfl hl.1 rfl (lv_room (Nat.le_of_ble_eq_true rfl)) dL_standing_20 ⟨Nat.le_of_ble_eq_true rfl, Nat.le_of_ble_eq_true rfl⟩) (fun r_6 hr_6 => ?_)
      subst hr_6
      refine b_if_ne (tgt := 28) hx hb dL_standing_23 (by decide)  (fun c_7 => ?_) (fun c_7 => ?_)
      · refine n_iinc (k := 3) (lv' := [(3, .int (nI (k + 1))), (0, .ref (ad 7)), (1, .ref (ad 11)), (2, .int (nI j))]) hx hb dL_standing_28 hl rfl (by decide) rfl (fun ls hl => ?_)
        refine lv_goto (tgt := 2) hx hb dL_standing_31 (by decide) ?_
        refine ih_1 (by omega) (by rw [t_stf, hJ_3]; first | exact if_neg (fun z => absurd z.1 (by assumption)) | exact if_neg (fun z => by simp_all)) ls ?_
        show lv_has ls 4 [(0, .ref (ad 7)), (1, .ref (ad 11)), (2, .int (nI j)), (3, .int (nI (k + 1)))]
        exact lv_sub hl [1, 2, 3, 0] rfl
      · refine lv_iload_n hx hb dL_standing_26 rfl (lv_at hl 3 rfl) ?_
        exact W.iret (v := nI k) hx hb hr (fun U9 ht hW => ⟨_, rfl, (show nI k = optI (t_st T j) from by (rw [show t_st T j = some k from t_st_at (by omega) (by assumption) (by assumption) (by assumption)]; rfl)), ht⟩) (fun _ h => by cases h) dL_standing_27
