/-! a new award -/
set_option maxHeartbeats 4000000 in
set_option maxRecDepth 100000 in
theorem ch_give (l : Launch) (D : va_G) (ad : Nat → Nat) (cI : ClassId) (T : MS) (hT : LT T) {A : Nat → Prop} (hD : aDis A ad) (j : Nat) (hj : j < 4) (hw : t_we T (j / 2) ≤ 100) (hp : ∀ q, q < 16 → t_tk T q = true → 0 < t_pr T q) (h4 : T 11 4 < 32) : Met l yL_give wsL_give ({ frames := 4, cells := 0, slots := 0, locals := 107 }) (va_Pc [.ref (ad 1), .ref (ad 3), .ref (ad 4), .ref (ad 5), .ref (ad 6), .ref (ad 7), .ref (ad 11), .int (nI j)] (aB D ad cI T)) (va_Qi (fun (r : Int32) (_ : Unit) => r = t_gvr T j) (fun _ U9 => va_P D vwCl (aws ad cI (t_gv T j)) U9.heap) A) 0 0 A := by
  refine Met.ofW (cc := cL_give) (maxL := 9) (ret := (some .int)) (by decide) rfl ?_
  intro p e s m args below meth c s₁ B hml hv
  obtain ⟨rfl, hP, hK⟩ := hv
  have hx := B.exec
  have hb := B.bytes
  have hr := B.returns
  have hts := atoms_spec (ws := wsL_give) B.pre
  have hown : s.vm.findClass RL = some m.cls := findClass_of_methodNamed B.named
  have hlocks := B.notSynchronized
  have hS : va_S A s.heap s.heap [] := va_S.rf
  have hl := lv_entry ([.ref (ad 1), .ref (ad 3), .ref (ad 4), .ref (ad 5), .ref (ad 6), .ref (ad 7), .ref (ad 11), .int (nI j)]) (n := 9) (Nat.le_of_ble_eq_true rfl)
  rw [lg_entry_eq]
  generalize (lg_sl ([.ref (ad 1), .ref (ad 3), .ref (ad 4), .ref (ad 5), .ref (ad 6), .ref (ad 7), .ref (ad 11), .int (nI j)]) ++ List.replicate (9 - (lg_sl ([.ref (ad 1), .ref (ad 3), .ref (ad 4), .ref (ad 5), .ref (ad 6), .ref (ad 7), .ref (ad 11), .int (nI j)])).length) Slot.unset).toArray = ls at hl ⊢
  have hl : lv_has ls 9 [(0, .ref (ad 1)), (1, .ref (ad 3)), (2, .ref (ad 4)), (3, .ref (ad 5)), (4, .ref (ad 6)), (5, .ref (ad 7)), (6, .ref (ad 11)), (7, .int (nI j))] := hl
  refine lv_aload_n hx hb dL_give_0 rfl (lv_at hl 0 rfl) ?_
  refine lv_aload_n hx hb dL_give_1 rfl (lv_at hl 1 rfl) ?_
  refine lv_aload_n hx hb dL_give_2 rfl (lv_at hl 2 rfl) ?_
  refine lv_aload_n hx hb dL_give_3 rfl (lv_at hl 3 rfl) ?_
  refine lv_aload hx hb dL_give_4 (lv_at hl 4 rfl) ?_
  refine lv_aload hx hb dL_give_6 (lv_at hl 6 rfl) ?_
  refine lv_iload hx hb dL_give_8 (lv_at hl 7 rfl) ?_
  refine lv_iconst (v := nI 0) hx hb dL_give_10 (by decide) ?_
  refine vp_callSi (W.runS (As := [.ref (ad 1), .ref (ad 3), .ref (ad 4), .ref (ad 5), .ref (ad 6), .ref (ad 11), .int (nI j), .int (nI 0)]) (rest := []) ⟨hx, hb, hml, hown, hts⟩ (ch_best l D ad cI T hT j 0 (by omega) (by omega) (by exact hw) (by exact hp)) (va_cwS 8 hts gL_give_L_best rfl rfl rfl kd_L_best ⟨Nat.le_of_ble_eq_true rfl, Nat.le_of_ble_eq_true rfl⟩) ⟨aB_blind, a_pre hK hP _⟩ rfl rfl hl.1 rfl (lv_room (Nat.le_of_ble_eq_true rfl)) dL_give_11 ⟨Nat.le_of_ble_eq_true rfl, Nat.le_of_ble_eq_true rfl⟩) (fun r_1 hr_1 => ?_)
  subst hr_1
  rcases ho_2 : t_best T j 0 with _ | o_2
  · have hn1 : optI (none : Option Nat) = (-1) := rfl
    rw [hn1]
    refine lv_istore (lv' := [(8, .int (-1)), (0, .ref (ad 1)), (1, .ref (ad 3)), (2, .ref (ad 4)), (3, .ref (ad 5)), (4, .ref (ad 6)), (5, .ref (ad 7)), (6, .ref (ad 11)), (7, .int (nI j))]) hx hb dL_give_14 hl (by decide) rfl (fun ls hl => ?_)
    refine lv_iload hx hb dL_give_16 (lv_at hl 0 rfl) ?_
    refine lv_if_ge (tgt := 23) hx hb dL_give_18 (by decide)  (fun c9 => absurd c9 (by decide)) (fun _ => ?_)
    refine lv_iconst (v := (-1)) hx hb dL_give_21 (by decide) ?_
    have eT_3 : t_gv T j = T := by (unfold t_gv; rw [ho_2])
    exact W.iret (v := (-1)) hx hb hr (fun U9 ht hW => ⟨⟨_, (), rfl, (show (-1) = t_gvr T j from by (unfold t_gvr; rw [ho_2]; try rfl)), by show va_P D vwCl _ U9.heap; rw [ht, eT_3]; exact hP⟩, hS.F ht⟩) hS.2.2 dL_give_22
  · have hn1 : optI (some o_2) = nI o_2 := rfl
    rw [hn1]
    refine lv_istore (lv' := [(8, .int (nI o_2)), (0, .ref (ad 1)), (1, .ref (ad 3)), (2, .ref (ad 4)), (3, .ref (ad 5)), (4, .ref (ad 6)), (5, .ref (ad 7)), (6, .ref (ad 11)), (7, .int (nI j))]) hx hb dL_give_14 hl (by decide) rfl (fun ls hl => ?_)
    refine lv_iload hx hb dL_give_16 (lv_at hl 0 rfl) ?_
    refine n_if_geT (tgt := 23) hx hb dL_give_18 (by decide) (by have f1 := (t_bsf_some 4 o_2 ho_2).1; have f2 := (t_bsf_some 4 o_2 ho_2).2.1; omega) ?_
    refine lv_aload hx hb dL_give_23 (lv_at hl 6 rfl) ?_
    refine lv_aload hx hb dL_give_25 (lv_at hl 7 rfl) ?_
    refine lv_iconst (v := nI 4) hx hb dL_give_27 (by decide) ?_
    refine a_iald (f := 11) (n := 7) hx hb hK hP rfl (by decide) (by decide) dL_give_28 ?_
    refine lv_iload hx hb dL_give_29 (lv_at hl 8 rfl) ?_
    refine lv_iconst (v := nI 4) hx hb dL_give_31 (by decide) ?_
    refine lv_iload hx hb dL_give_32 (lv_at hl 0 rfl) ?_
    refine lv_iconst (v := nI 4) hx hb dL_give_34 (by decide) ?_
    refine n_irem hx hb dL_give_35 (z := o_2 % 4) (by have f1 := (t_bsf_some 4 o_2 ho_2).1; have f2 := (t_bsf_some 4 o_2 ho_2).2.1; omega) (by decide) (by decide) rfl ?_
    refine n_imul hx hb dL_give_36 (z := 4 * (o_2 % 4)) rfl ?_
    refine n_iadd hx hb dL_give_37 (z := j + (4 * (o_2 % 4))) rfl ?_
    refine lv_bipush (v := nI 16) hx hb dL_give_38 (by decide) ?_
    refine lv_aload hx hb dL_give_40 (lv_at hl 7 rfl) ?_
    refine lv_iconst (v := nI 0) hx hb dL_give_42 (by decide) ?_
    refine a_iald (f := 11) (n := 7) hx hb hK hP rfl (by decide) (by decide) dL_give_43 ?_
    rw [show T 11 0 = T 11 0 from rfl]
    refine n_imul hx hb dL_give_44 (z := 16 * (T 11 0)) rfl ?_
    refine n_iadd hx hb dL_give_45 (z := (j + (4 * (o_2 % 4))) + (16 * (T 11 0))) rfl ?_
    refine a_iast (f := 7) (n := 32) (v := (j + (4 * (o_2 % 4))) + (16 * (T 11 0))) hx hb hK hP hD hS rfl (by omega) (by decide) (aset_7 _ _ _ _ _) dL_give_46 (fun H locs hP hS => ?_)
    refine lv_aload hx hb dL_give_47 (lv_at hl 7 rfl) ?_
    refine lv_iconst (v := nI 4) hx hb dL_give_49 (by decide) ?_
    refine lv_dup2_11 hx hb dL_give_50 rfl rfl ?_
    refine a_iald (f := 11) (n := 7) hx hb hK hP rfl (by decide) (by decide) dL_give_51 ?_
    rw [show (mu T 7 (T 11 4) ((j + (4 * (o_2 % 4))) + (16 * (T 11 0)))) 11 4 = T 11 4 from (by simp [mu])]
    refine lv_iconst (v := nI 1) hx hb dL_give_52 (by decide) ?_
    refine n_iadd hx hb dL_give_53 (z := (T 11 4) + 1) rfl ?_
    refine a_iast (f := 11) (n := 7) (v := (T 11 4) + 1) hx hb hK hP hD hS rfl (by decide) (by decide) (aset_11 _ _ _ _ _) dL_give_54 (fun H locs hP hS => ?_)
    refine lv_aload hx hb dL_give_55 (lv_at hl 7 rfl) ?_
    refine lv_iconst (v := nI 4) hx hb dL_give_57 (by decide) ?_
    refine a_iald (f := 11) (n := 7) hx hb hK hP rfl (by decide) (by decide) dL_give_58 ?_
    rw [show (mu (mu T 7 (T 11 4) ((j + (4 * (o_2 % 4))) + (16 * (T 11 0)))) 11 4 ((T 11 4) + 1)) 11 4 = T 11 4 + 1 from (by simp [mu])]
    refine lv_iconst (v := nI 1) hx hb dL_give_59 (by decide) ?_
    refine n_isub hx hb dL_give_60 (z := (T 11 4 + 1) - 1) (by have f1 := h4; omega) rfl ?_
    have eT_4 : t_gv T j = mu (mu T 7 (T 11 4) ((j + (4 * (o_2 % 4))) + (16 * (T 11 0)))) 11 4 ((T 11 4) + 1) := by (unfold t_gv; rw [ho_2])
    exact W.iret (v := nI ((T 11 4 + 1) - 1)) hx hb hr (fun U9 ht hW => ⟨⟨_, (), rfl, (show nI ((T 11 4 + 1) - 1) = t_gvr T j from by (unfold t_gvr; rw [ho_2]; try rfl)), by show va_P D vwCl _ U9.heap; rw [ht, eT_4]; exact hP⟩, hS.F ht⟩) hS.2.2 dL_give_61
